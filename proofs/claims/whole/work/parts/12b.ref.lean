
theorem sl1 {b : Nat} (h : b < 1024) : b <<< 1 < 2147483648 := by
  rw [Nat.shiftLeft_eq]; omega
theorem noo_q0 {n : Nat} {Q : QS} (h : aqN (Qbi Q) n = 0) : rwF Q = rwF (sQo Q (nooO n Q)) := by
  unfold nooO; rw [if_pos h]; rfl
theorem noo_q1 {n : Nat} {Q : QS} (h : aqN (Qbi Q) n ≠ 0) : rwF (sQo Q (nI (hbw (ag0 Q) n 0))) = rwF (sQo Q (nooO n Q)) := by
  unfold nooO; rw [if_neg h]
theorem nooK_b {n : Nat} {Q : QS} {i : Nat} (h : i < 6) : rwF (nooK n Q i) (10 + i) = nI (Qbi Q i) := by
  rw [rw_b h]
  show nI (if i < i then _ else _) = _
  rw [if_neg (Nat.lt_irrefl i)]
theorem say_t {E : FS} {Q : QS} {i s : Nat} (h : asR E Q s i = true) : rwF (sQt (askQ Q i) i (Qti Q i + nI 1)) = rwF (sayQ E Q i s) := by
  unfold sayQ; rw [if_pos h]
theorem say_f {E : FS} {Q : QS} {i s : Nat} (h : asR E Q s i = false) : rwF Q = rwF (sayQ E Q i s) := by
  unfold sayQ; rw [if_neg (by rw [h]; decide)]
/-- what i knows of j -/
def knQ (E : FS) (Q : QS) (i j : Nat) : Int32 := agQ Q j (if i = j then 0 else Fml E i)
def rkR (ow : Int32) (c : Nat) : Nat := if ow = nI c then 2 else if ow < 0 ∨ nI c < ow then 1 else 0
theorem rkR_le (ow : Int32) (c : Nat) : rkR ow c ≤ 2 := by
  unfold rkR
  split
  · exact Nat.le_refl _
  · split <;> omega
/-- letters -/
def ltI (L : Nat → Nat) (ln p : Nat) : Int32 := if p < ln then nI (L p) else -1
theorem ltI_t {L : Nat → Nat} {ln p : Nat} (h : p < ln) : ltI L ln p = nI (L p) := if_pos h
theorem ltI_f {L : Nat → Nat} {ln p : Nat} (h : ¬ p < ln) : ltI L ln p = -1 := if_neg h
theorem m1_lt {a : Nat} (ha : a < 2147483648) : (-1 : Int32) < nI a := by
  rw [Int32.lt_iff_toInt_lt, nI_toInt ha]
  have h2 : (-1 : Int32).toInt = -1 := by decide
  omega
theorem fig_no {L : Nat → Nat} {ln p : Nat} (hL : ∀ j, L j < 128) (h : figN L ln p = none) : inB (ltI L ln p) (nI 48) (nI 57) = false := by
  unfold figN ltr at h
  by_cases hp : p < ln
  · rw [if_pos hp] at h
    rw [ltI_t hp]
    have := hL p
    refine inB_n (by omega) (by decide) (by decide) (fun z => ?_)
    rw [if_pos z] at h; cases h
  · rw [ltI_f hp]; decide
theorem fig_y {L : Nat → Nat} {ln p a : Nat} (h : figN L ln p = some a) : inB (ltI L ln p) (nI 48) (nI 57) = true ∧ ltI L ln p = nI (48 + a) := by
  have hb := figN_lt h
  unfold figN ltr at h
  rw [if_pos hb.2] at h
  rw [ltI_t hb.2]
  by_cases hc : 48 ≤ L p ∧ L p ≤ 57
  · rw [if_pos hc] at h
    have e : L p - 48 = a := Option.some.inj h
    exact ⟨inB_y (by omega) (by decide) hc, by rw [show L p = 48 + a by omega]⟩
  · rw [if_neg hc] at h; cases h
theorem lt_sep {L : Nat → Nat} {ln q c : Nat} (hL : ∀ j, L j < 128) (hc : 1 ≤ c ∧ c < 128) : ltI L ln q = nI c ↔ ltr L ln q = c := by
  unfold ltr
  by_cases hp : q < ln
  · rw [ltI_t hp, if_pos hp]
    have := hL q
    exact nI_eq (by omega) (by omega)
  · rw [ltI_f hp, if_neg hp]
    constructor
    · intro z; have := nI_m1 (q := c) (by omega); exact absurd z.symm this
    · intro z; omega
theorem updN_self {g : Nat → Nat} {i v : Nat} : updN g i v i = v := if_pos rfl
theorem v_f {b : Bool} (h : b = false) : some (Value.int (nI 0)) = some (Value.int (bI b)) := by subst h; rfl
theorem v_t {b : Bool} (h : b = true) : some (Value.int (nI 1)) = some (Value.int (bI b)) := by subst h; rfl
theorem updN_ag2 {n8 g : Nat → Nat} {k v a : Nat} (h : ∀ j, j < k → n8 j = g j) {j : Nat} (hj : j < k + 1) : updN (updN n8 k a) k v j = updN g k v j := by
  unfold updN
  by_cases e : j = k
  · rw [if_pos e, if_pos e]
  · rw [if_neg e, if_neg e, if_neg e]; exact h j (by omega)
theorem pnN_no1 {L : Nat → Nat} {ln many p0 k : Nat} (h : pnN L ln many p0 k = none) (hk : k ≤ many) : (pnN L ln many p0 many).isSome = false := by
  rw [pnN_no h hk]; rfl
/-- an item behind its letter c -/
def itR (L : Nat → Nat) (ln p : Nat) (F : FS) (c : Nat) : Option (FS × Nat) := match pnN L ln (nbN c) p (nbN c) with
  | none => none
  | some (q, g) => match addF F c g with
    | none => none
    | some F2 => some (F2, q)
theorem itR_eq (L : Nat → Nat) (ln p : Nat) (F : FS) : itN L ln p F = itR L ln (p + 1) F (ltr L ln p) := rfl
theorem itR_0 {L : Nat → Nat} {ln p c : Nat} {F : FS} (h : pnN L ln (nbN c) p (nbN c) = none) : itR L ln p F c = none := by rw [itR, h]
theorem itR_1 {L : Nat → Nat} {ln p c q : Nat} {F : FS} {g : Nat → Nat} (h : pnN L ln (nbN c) p (nbN c) = some (q, g)) (h2 : addF F c g = none) : itR L ln p F c = none := by rw [itR, h]; simp [h2]
theorem itR_2 {L : Nat → Nat} {ln p c q : Nat} {F F2 : FS} {g : Nat → Nat} (h : pnN L ln (nbN c) p (nbN c) = some (q, g)) (h2 : addF F c g = some F2) : itR L ln p F c = some (F2, q) := by rw [itR, h]; simp [h2]
theorem itR_n {L : Nat → Nat} {ln p c : Nat} {F : FS} (h : ∀ g, addF F c g = none) : itR L ln p F c = none := by
  rcases pn_cases (L := L) (ln := ln) (many := nbN c) (p0 := p) (nbN c) with h0 | ⟨q, g, h0⟩
  · exact itR_0 h0
  · exact itR_1 h0 (h g)
theorem itR_o {L : Nat → Nat} {ln p c : Nat} {F : FS} (h1 : ¬ c = 114) (h2 : ¬ c = 115) (h3 : ¬ c = 100) (h4 : ¬ c = 104) : itR L ln p F c = none :=
  itR_n (fun g => by unfold addF; rw [if_neg h1, if_neg h2, if_neg h3, if_neg h4])

theorem cs_X10_askedToday : CS yX10_askedToday wsX10_askedToday cX10_askedToday 3 (some .int) 0 := ⟨⟨_, rfl⟩, by decide +kernel, by decide +kernel, by decide +kernel⟩
theorem fl_X10_askedToday_43 : Cond.fieldLink RX10 43 (TX10 23).1 (TX10 23).2.1 (TX10 23).2.2.1 ∈ wsX10_askedToday := by decide +kernel
theorem fl_X10_askedToday_76 : Cond.fieldLink RX10 76 (TX10 0).1 (TX10 0).2.1 (TX10 0).2.2.1 ∈ wsX10_askedToday := by decide +kernel
theorem in_X10_askedToday_X10 : ∀ w ∈ u_ws RX10 TX10 25, w ∈ wsX10_askedToday := by decide +kernel
set_option maxHeartbeats 4000000 in
set_option maxRecDepth 100000 in
theorem ct_X10_askedToday (Z : Nat → ClassId) (C : Nat → Nat) (E : FS) (G : FS) (sz : Nat) (ac : Nat) (kp : Nat) (ln : Nat) (pa : Nat) (Q : QS) (hE : okF E) (hQ : okQ Q): Ct false yX10_askedToday wsX10_askedToday ({ frames := 0, cells := 0, slots := 0, locals := 0 }) [.ref (C 0)] Z [((C 0), .inr (10, [.int (nI (Fn E)), .ref (C 1), .int (nI (Fk E)), .ref (C 2), .int (nI (Fh E)), .ref (C 3), .ref (C 4), .int (nI ac), .ref (C 5), .int (nI kp), .ref (C 6), .int (nI sz), .ref (C 7), .ref (C 8), .int (nI ln), .int (nI pa), .ref (C 9), .int (nI (Fn G)), .ref (C 10), .int (nI (Fk G)), .ref (C 11), .int (nI (Fdd G)), .int (nI (Fh G)), .ref (C 12), .ref (C 13)])), ((C 12), .inl (Z 0, 72, .inl (rwF Q)))] (rI (nI (aqN (Qbi Q) (Fn E))) [((C 0), .inr (10, [.int (nI (Fn E)), .ref (C 1), .int (nI (Fk E)), .ref (C 2), .int (nI (Fh E)), .ref (C 3), .ref (C 4), .int (nI ac), .ref (C 5), .int (nI kp), .ref (C 6), .int (nI sz), .ref (C 7), .ref (C 8), .int (nI ln), .int (nI pa), .ref (C 9), .int (nI (Fn G)), .ref (C 10), .int (nI (Fk G)), .ref (C 11), .int (nI (Fdd G)), .int (nI (Fh G)), .ref (C 12), .ref (C 13)])), ((C 12), .inl (Z 0, 72, .inl (rwF Q)))]) 0 0 := by
  obtain ⟨hn, hk, hkd, hag, hml, htp, hdd, hh⟩ := id hE
  obtain ⟨hQb, hQe⟩ := id hQ
  refine Ct_of (cc := cX10_askedToday) (maxL := 3) (ret := (some .int)) (own := RX10) false false (by decide +kernel) rfl rfl (by decide) (fun v w h => by rw [h.1]; exact ⟨_, rfl, rfl⟩) (Nat.le_of_ble_eq_true rfl) (fun X => ?_)
  show GG X _ _ _ _ _ _ _ _ _ _ _ _ _ _ [(0, .ref (C 0))] _ _
  refine G_iconst (v := nI 0) (q := 1) dX10_askedToday_0 (by decide) rfl ?_
  refine G_istore_n (lv2 := [(0, .ref (C 0)), (1, .int (nI 0))]) (q := 2) dX10_askedToday_1 rfl (by decide) rfl rfl ?_
  refine G_iconst (v := nI 0) (q := 3) dX10_askedToday_2 (by decide) rfl ?_
  refine G_istore_n (lv2 := [(0, .ref (C 0)), (1, .int (nI 0)), (2, .int (nI 0))]) (q := 4) dX10_askedToday_3 rfl (by decide) rfl rfl ?_
  have L4_1 : ∀ fu1 i : Nat, i ≤ (Fn E) → (Fn E) + 1 ≤ i + fu1 → GG X ({ frames := 0, cells := 0, slots := 0, locals := 0 }) cX10_askedToday 3 wsX10_askedToday RX10 false false Z (rI (nI (aqN (Qbi Q) (Fn E))) [((C 0), .inr (10, [.int (nI (Fn E)), .ref (C 1), .int (nI (Fk E)), .ref (C 2), .int (nI (Fh E)), .ref (C 3), .ref (C 4), .int (nI ac), .ref (C 5), .int (nI kp), .ref (C 6), .int (nI sz), .ref (C 7), .ref (C 8), .int (nI ln), .int (nI pa), .ref (C 9), .int (nI (Fn G)), .ref (C 10), .int (nI (Fk G)), .ref (C 11), .int (nI (Fdd G)), .int (nI (Fh G)), .ref (C 12), .ref (C 13)])), ((C 12), .inl (Z 0, 72, .inl (rwF Q)))]) 0 0 0 0 [((C 0), .inr (10, [.int (nI (Fn E)), .ref (C 1), .int (nI (Fk E)), .ref (C 2), .int (nI (Fh E)), .ref (C 3), .ref (C 4), .int (nI ac), .ref (C 5), .int (nI kp), .ref (C 6), .int (nI sz), .ref (C 7), .ref (C 8), .int (nI ln), .int (nI pa), .ref (C 9), .int (nI (Fn G)), .ref (C 10), .int (nI (Fk G)), .ref (C 11), .int (nI (Fdd G)), .int (nI (Fh G)), .ref (C 12), .ref (C 13)])), ((C 12), .inl (Z 0, 72, .inl (rwF Q)))] [(0, .ref (C 0)), (1, .int (nI (aqN (Qbi Q) i))), (2, .int (nI i))] [] 4 := by
    intro fu1
    induction fu1 with
    | zero => intro i q1 q2; exact absurd q2 (by omega)
    | succ fu1 ih1 =>
      intro i hi1 hf1  
      refine G_iload_n (q := 5) dX10_askedToday_4 rfl 2 rfl rfl ?_
      refine G_aload_n (q := 6) dX10_askedToday_5 rfl 0 rfl rfl ?_
      refine G_get (q := 9) dX10_askedToday_6 0 rfl (show vwCl[10]? = some (RX10, TX10, 25) from rfl) 0 (by decide) in_X10_askedToday_X10 fl_X10_askedToday_76 rfl rfl ?_
      refine G_icmp_geN (tgt := 34) (q := 12) dX10_askedToday_9 (by decide) rfl (by omega) (by omega) (fun c9 => ?_) (fun c9 => ?_)
      · have e9 : Fn E = i := by omega
        subst e9
        refine G_iload_n (q := 35) dX10_askedToday_34 rfl 1 rfl rfl ?_
        exact G_iret dX10_askedToday_35 rfl rfl ⟨rfl, rfl⟩
      · refine G_iload_n (q := 13) dX10_askedToday_12 rfl 1 rfl rfl ?_
        refine G_aload_n (q := 14) dX10_askedToday_13 rfl 0 rfl rfl ?_
        refine G_get (q := 17) dX10_askedToday_14 0 rfl (show vwCl[10]? = some (RX10, TX10, 25) from rfl) 23 (by decide) in_X10_askedToday_X10 fl_X10_askedToday_43 rfl rfl ?_
        refine G_bipush (v := nI 10) (q := 19) dX10_askedToday_17 (by decide) rfl ?_
        refine G_iload_n (q := 20) dX10_askedToday_19 rfl 2 rfl rfl ?_
        refine G_iaddN (a := 10) (b := i) (q := 21) dX10_askedToday_20 rfl ?_
        refine G_iald (q := 22) dX10_askedToday_21 1 rfl (10 + i) (rfl) (by omega) (by omega) rfl ?_
        refine G_top (y := nI (Qbi Q i)) (by rw [rw_b (by omega)]) ?_
        refine G_iconst (v := nI 1) (q := 23) dX10_askedToday_22 (by decide) rfl ?_
        refine G_iandN (a := (Qbi Q i)) (b := 1) (q := 24) dX10_askedToday_23 rfl ?_
        refine G_iload_n (q := 25) dX10_askedToday_24 rfl 2 rfl rfl ?_
        refine G_ishlN (a := ((Qbi Q i) &&& 1)) (b := i) (q := 26) dX10_askedToday_25 (by omega) (aq_sm (by omega)) rfl ?_
        refine G_iorN (a := (aqN (Qbi Q) i)) (b := (((Qbi Q i) &&& 1) <<< i)) (q := 27) dX10_askedToday_26 rfl ?_
        refine G_istore_n (lv2 := [(0, .ref (C 0)), (1, .int (nI ((aqN (Qbi Q) i) ||| (((Qbi Q i) &&& 1) <<< i)))), (2, .int (nI i))]) (q := 28) dX10_askedToday_27 rfl (by decide) rfl rfl ?_
        refine G_iincN (x := i) (d := 1) (lv2 := [(0, .ref (C 0)), (1, .int (nI ((aqN (Qbi Q) i) ||| (((Qbi Q i) &&& 1) <<< i)))), (2, .int (nI (i + 1)))]) (q := 31) dX10_askedToday_28 2 rfl (by decide) (by decide) rfl rfl ?_
        refine G_goto (q := 4) dX10_askedToday_31 (by decide) ?_
        refine GG.of (ws2 := [((C 0), .inr (10, [.int (nI (Fn E)), .ref (C 1), .int (nI (Fk E)), .ref (C 2), .int (nI (Fh E)), .ref (C 3), .ref (C 4), .int (nI ac), .ref (C 5), .int (nI kp), .ref (C 6), .int (nI sz), .ref (C 7), .ref (C 8), .int (nI ln), .int (nI pa), .ref (C 9), .int (nI (Fn G)), .ref (C 10), .int (nI (Fk G)), .ref (C 11), .int (nI (Fdd G)), .int (nI (Fh G)), .ref (C 12), .ref (C 13)])), ((C 12), .inl (Z 0, 72, .inl (rwF Q)))]) (lv2 := [(0, .ref (C 0)), (1, .int (nI (aqN (Qbi Q) (i + 1)))), (2, .int (nI (i + 1)))]) (st2 := []) (rfl) (lv_c rfl (lv_c (vi_c (show nI ((aqN (Qbi Q) i) ||| (((Qbi Q i) &&& 1) <<< i)) = nI (aqN (Qbi Q) (i + 1)) from rfl)) (lv_c rfl (rfl)))) (rfl) ?_
        exact ih1 (i + 1) (by omega) (by omega)  
  refine GG.of (ws2 := [((C 0), .inr (10, [.int (nI (Fn E)), .ref (C 1), .int (nI (Fk E)), .ref (C 2), .int (nI (Fh E)), .ref (C 3), .ref (C 4), .int (nI ac), .ref (C 5), .int (nI kp), .ref (C 6), .int (nI sz), .ref (C 7), .ref (C 8), .int (nI ln), .int (nI pa), .ref (C 9), .int (nI (Fn G)), .ref (C 10), .int (nI (Fk G)), .ref (C 11), .int (nI (Fdd G)), .int (nI (Fh G)), .ref (C 12), .ref (C 13)])), ((C 12), .inl (Z 0, 72, .inl (rwF Q)))]) (lv2 := [(0, .ref (C 0)), (1, .int (nI (aqN (Qbi Q) 0))), (2, .int (nI 0))]) (st2 := []) (rfl) (lv_c rfl (lv_c (vi_c (show nI 0 = nI (aqN (Qbi Q) 0) from rfl)) (lv_c rfl (rfl)))) (rfl) ?_
  exact L4_1 ((Fn E) + 1) (0) (Nat.zero_le _) (by omega)  
theorem cs_X10_asks : CS yX10_asks wsX10_asks cX10_asks 2 none 1 := ⟨⟨_, rfl⟩, by decide +kernel, by decide +kernel, by decide +kernel⟩
theorem fl_X10_asks_43 : Cond.fieldLink RX10 43 (TX10 23).1 (TX10 23).2.1 (TX10 23).2.2.1 ∈ wsX10_asks := by decide +kernel
theorem in_X10_asks_X10 : ∀ w ∈ u_ws RX10 TX10 25, w ∈ wsX10_asks := by decide +kernel
set_option maxHeartbeats 4000000 in
set_option maxRecDepth 100000 in
theorem ct_X10_asks (Z : Nat → ClassId) (C : Nat → Nat) (E : FS) (G : FS) (sz : Nat) (ac : Nat) (kp : Nat) (ln : Nat) (pa : Nat) (Q : QS) (i : Nat) (hi : i < 6): Ct false yX10_asks wsX10_asks ({ frames := 0, cells := 0, slots := 0, locals := 0 }) [.ref (C 0), .int (nI i)] Z [((C 0), .inr (10, [.int (nI (Fn E)), .ref (C 1), .int (nI (Fk E)), .ref (C 2), .int (nI (Fh E)), .ref (C 3), .ref (C 4), .int (nI ac), .ref (C 5), .int (nI kp), .ref (C 6), .int (nI sz), .ref (C 7), .ref (C 8), .int (nI ln), .int (nI pa), .ref (C 9), .int (nI (Fn G)), .ref (C 10), .int (nI (Fk G)), .ref (C 11), .int (nI (Fdd G)), .int (nI (Fh G)), .ref (C 12), .ref (C 13)])), ((C 12), .inl (Z 0, 72, .inl (rwF Q)))] (rV [((C 0), .inr (10, [.int (nI (Fn E)), .ref (C 1), .int (nI (Fk E)), .ref (C 2), .int (nI (Fh E)), .ref (C 3), .ref (C 4), .int (nI ac), .ref (C 5), .int (nI kp), .ref (C 6), .int (nI sz), .ref (C 7), .ref (C 8), .int (nI ln), .int (nI pa), .ref (C 9), .int (nI (Fn G)), .ref (C 10), .int (nI (Fk G)), .ref (C 11), .int (nI (Fdd G)), .int (nI (Fh G)), .ref (C 12), .ref (C 13)])), ((C 12), .inl (Z 0, 72, .inl (rwF (askQ Q i))))]) 0 0 := by
  refine Ct_of (cc := cX10_asks) (maxL := 2) (ret := none) (own := RX10) false false (by decide +kernel) rfl rfl (by decide) (fun v w h => by rw [h.1]; rfl) (Nat.le_of_ble_eq_true rfl) (fun X => ?_)
  show GG X _ _ _ _ _ _ _ _ _ _ _ _ _ _ [(0, .ref (C 0)), (1, .int (nI i))] _ _
  refine G_aload_n (q := 1) dX10_asks_0 rfl 0 rfl rfl ?_
  refine G_get (q := 4) dX10_asks_1 0 rfl (show vwCl[10]? = some (RX10, TX10, 25) from rfl) 23 (by decide) in_X10_asks_X10 fl_X10_asks_43 rfl rfl ?_
  refine G_bipush (v := nI 10) (q := 6) dX10_asks_4 (by decide) rfl ?_
  refine G_iload_n (q := 7) dX10_asks_6 rfl 1 rfl rfl ?_
  refine G_iaddN (a := 10) (b := i) (q := 8) dX10_asks_7 rfl ?_
  refine G_dup2 (q := 9) dX10_asks_8 rfl rfl rfl ?_
  refine G_iald (q := 10) dX10_asks_9 1 rfl (10 + i) (rfl) (by omega) (by omega) rfl ?_
  refine G_top (y := nI (Qbi Q i)) (by rw [rw_b hi]) ?_
  refine G_iconst (v := nI 1) (q := 11) dX10_asks_10 (by decide) rfl ?_
  refine G_iorN (a := (Qbi Q i)) (b := 1) (q := 12) dX10_asks_11 rfl ?_
  refine G_iast (ws2 := [((C 0), .inr (10, [.int (nI (Fn E)), .ref (C 1), .int (nI (Fk E)), .ref (C 2), .int (nI (Fh E)), .ref (C 3), .ref (C 4), .int (nI ac), .ref (C 5), .int (nI kp), .ref (C 6), .int (nI sz), .ref (C 7), .ref (C 8), .int (nI ln), .int (nI pa), .ref (C 9), .int (nI (Fn G)), .ref (C 10), .int (nI (Fk G)), .ref (C 11), .int (nI (Fdd G)), .int (nI (Fh G)), .ref (C 12), .ref (C 13)])), ((C 12), .inl (Z 0, 72, .inl (upd (rwF Q) (10 + i) (nI ((Qbi Q i) ||| 1)))))]) (q := 13) dX10_asks_12 1 rfl (10 + i) (rfl) (by omega) (by omega) rfl rfl ?_
  refine GG.of (ws2 := [((C 0), .inr (10, [.int (nI (Fn E)), .ref (C 1), .int (nI (Fk E)), .ref (C 2), .int (nI (Fh E)), .ref (C 3), .ref (C 4), .int (nI ac), .ref (C 5), .int (nI kp), .ref (C 6), .int (nI sz), .ref (C 7), .ref (C 8), .int (nI ln), .int (nI pa), .ref (C 9), .int (nI (Fn G)), .ref (C 10), .int (nI (Fk G)), .ref (C 11), .int (nI (Fdd G)), .int (nI (Fh G)), .ref (C 12), .ref (C 13)])), ((C 12), .inl (Z 0, 72, .inl (rwF (askQ Q i))))]) (ws_c (rfl) (ws_c (cell_i (up_b hi _)) (rfl))) rfl rfl ?_
  exact G_ret dX10_asks_13 rfl rfl ⟨rfl, rfl⟩
theorem cs_X10_goesToNoon : CS yX10_goesToNoon wsX10_goesToNoon cX10_goesToNoon 3 none 0 := ⟨⟨_, rfl⟩, by decide +kernel, by decide +kernel, by decide +kernel⟩
theorem fl_X10_goesToNoon_43 : Cond.fieldLink RX10 43 (TX10 23).1 (TX10 23).2.1 (TX10 23).2.2.1 ∈ wsX10_goesToNoon := by decide +kernel
theorem fl_X10_goesToNoon_76 : Cond.fieldLink RX10 76 (TX10 0).1 (TX10 0).2.1 (TX10 0).2.2.1 ∈ wsX10_goesToNoon := by decide +kernel
theorem in_X10_goesToNoon_X10 : ∀ w ∈ u_ws RX10 TX10 25, w ∈ wsX10_goesToNoon := by decide +kernel
set_option maxHeartbeats 4000000 in
set_option maxRecDepth 100000 in
theorem ct_X10_goesToNoon (Z : Nat → ClassId) (C : Nat → Nat) (E : FS) (G : FS) (sz : Nat) (ac : Nat) (kp : Nat) (ln : Nat) (pa : Nat) (Q : QS) (hE : okF E) (hQ : okQ Q): Ct false yX10_goesToNoon wsX10_goesToNoon ({ frames := 2, cells := 0, slots := 0, locals := 48 }) [.ref (C 0)] Z [((C 0), .inr (10, [.int (nI (Fn E)), .ref (C 1), .int (nI (Fk E)), .ref (C 2), .int (nI (Fh E)), .ref (C 3), .ref (C 4), .int (nI ac), .ref (C 5), .int (nI kp), .ref (C 6), .int (nI sz), .ref (C 7), .ref (C 8), .int (nI ln), .int (nI pa), .ref (C 9), .int (nI (Fn G)), .ref (C 10), .int (nI (Fk G)), .ref (C 11), .int (nI (Fdd G)), .int (nI (Fh G)), .ref (C 12), .ref (C 13)])), ((C 12), .inl (Z 0, 72, .inl (rwF Q)))] (rV [((C 0), .inr (10, [.int (nI (Fn E)), .ref (C 1), .int (nI (Fk E)), .ref (C 2), .int (nI (Fh E)), .ref (C 3), .ref (C 4), .int (nI ac), .ref (C 5), .int (nI kp), .ref (C 6), .int (nI sz), .ref (C 7), .ref (C 8), .int (nI ln), .int (nI pa), .ref (C 9), .int (nI (Fn G)), .ref (C 10), .int (nI (Fk G)), .ref (C 11), .int (nI (Fdd G)), .int (nI (Fh G)), .ref (C 12), .ref (C 13)])), ((C 12), .inl (Z 0, 72, .inl (rwF (nooQ (Fn E) Q))))]) 0 0 := by
  obtain ⟨hn, hk, hkd, hag, hml, htp, hdd, hh⟩ := id hE
  obtain ⟨hQb, hQe⟩ := id hQ
  refine Ct_of (cc := cX10_goesToNoon) (maxL := 3) (ret := none) (own := RX10) false false (by decide +kernel) rfl rfl (by decide) (fun v w h => by rw [h.1]; rfl) (Nat.le_of_ble_eq_true rfl) (fun X => ?_)
  show GG X _ _ _ _ _ _ _ _ _ _ _ _ _ _ [(0, .ref (C 0))] _ _
  refine G_aload_n (q := 1) dX10_goesToNoon_0 rfl 0 rfl rfl ?_
  refine G_callVP (As := []) (rest := []) (st2 := [.int (nI (aqN (Qbi Q) (Fn E)))]) (q := 4) dX10_goesToNoon_1 [0, 1] (ct_X10_askedToday Z C E G sz ac kp ln pa Q (hE) (hQ)) (fun h => h) cs_X10_askedToday gX10_goesToNoon_X10_askedToday rfl ⟨Nat.le_of_ble_eq_true rfl, Nat.le_of_ble_eq_true rfl⟩ ⟨rfl, rfl⟩ 0 rfl (show vwCl[10]? = some (RX10, TX10, 25) from rfl) rfl (by decide) rfl rfl (Nat.le_of_ble_eq_true rfl) ⟨by decide, by decide⟩ rfl rfl ?_
  have J18_1 : GG X ({ frames := 2, cells := 0, slots := 0, locals := 48 }) cX10_goesToNoon 3 wsX10_goesToNoon RX10 false false Z (rV [((C 0), .inr (10, [.int (nI (Fn E)), .ref (C 1), .int (nI (Fk E)), .ref (C 2), .int (nI (Fh E)), .ref (C 3), .ref (C 4), .int (nI ac), .ref (C 5), .int (nI kp), .ref (C 6), .int (nI sz), .ref (C 7), .ref (C 8), .int (nI ln), .int (nI pa), .ref (C 9), .int (nI (Fn G)), .ref (C 10), .int (nI (Fk G)), .ref (C 11), .int (nI (Fdd G)), .int (nI (Fh G)), .ref (C 12), .ref (C 13)])), ((C 12), .inl (Z 0, 72, .inl (rwF (nooQ (Fn E) Q))))]) 0 0 0 0 [((C 0), .inr (10, [.int (nI (Fn E)), .ref (C 1), .int (nI (Fk E)), .ref (C 2), .int (nI (Fh E)), .ref (C 3), .ref (C 4), .int (nI ac), .ref (C 5), .int (nI kp), .ref (C 6), .int (nI sz), .ref (C 7), .ref (C 8), .int (nI ln), .int (nI pa), .ref (C 9), .int (nI (Fn G)), .ref (C 10), .int (nI (Fk G)), .ref (C 11), .int (nI (Fdd G)), .int (nI (Fh G)), .ref (C 12), .ref (C 13)])), ((C 12), .inl (Z 0, 72, .inl (rwF (sQo Q (nooO (Fn E) Q)))))] [(0, .ref (C 0))] [] 18 := by
    refine G_aload_n (q := 19) dX10_goesToNoon_18 rfl 0 rfl rfl ?_
    refine G_get (q := 22) dX10_goesToNoon_19 0 rfl (show vwCl[10]? = some (RX10, TX10, 25) from rfl) 23 (by decide) in_X10_goesToNoon_X10 fl_X10_goesToNoon_43 rfl rfl ?_
    refine G_iconst (v := nI 0) (q := 23) dX10_goesToNoon_22 (by decide) rfl ?_
    refine G_dup2 (q := 24) dX10_goesToNoon_23 rfl rfl rfl ?_
    refine G_iald (q := 25) dX10_goesToNoon_24 1 rfl 0 (rfl) (by omega) (by omega) rfl ?_
    refine G_top (y := nI (Qdy Q)) (rfl) ?_
    refine G_iconst (v := nI 1) (q := 26) dX10_goesToNoon_25 (by decide) rfl ?_
    refine G_iaddN (a := (Qdy Q)) (b := 1) (q := 27) dX10_goesToNoon_26 rfl ?_
    refine G_iast (ws2 := [((C 0), .inr (10, [.int (nI (Fn E)), .ref (C 1), .int (nI (Fk E)), .ref (C 2), .int (nI (Fh E)), .ref (C 3), .ref (C 4), .int (nI ac), .ref (C 5), .int (nI kp), .ref (C 6), .int (nI sz), .ref (C 7), .ref (C 8), .int (nI ln), .int (nI pa), .ref (C 9), .int (nI (Fn G)), .ref (C 10), .int (nI (Fk G)), .ref (C 11), .int (nI (Fdd G)), .int (nI (Fh G)), .ref (C 12), .ref (C 13)])), ((C 12), .inl (Z 0, 72, .inl (upd (rwF (sQo Q (nooO (Fn E) Q))) 0 (nI ((Qdy Q) + 1)))))]) (q := 28) dX10_goesToNoon_27 1 rfl 0 (rfl) (by omega) (by omega) rfl rfl ?_
    refine GG.of (ws2 := [((C 0), .inr (10, [.int (nI (Fn E)), .ref (C 1), .int (nI (Fk E)), .ref (C 2), .int (nI (Fh E)), .ref (C 3), .ref (C 4), .int (nI ac), .ref (C 5), .int (nI kp), .ref (C 6), .int (nI sz), .ref (C 7), .ref (C 8), .int (nI ln), .int (nI pa), .ref (C 9), .int (nI (Fn G)), .ref (C 10), .int (nI (Fk G)), .ref (C 11), .int (nI (Fdd G)), .int (nI (Fh G)), .ref (C 12), .ref (C 13)])), ((C 12), .inl (Z 0, 72, .inl (rwF (sQd (sQo Q (nooO (Fn E) Q)) (Qdy Q + 1)))))]) (ws_c (rfl) (ws_c (cell_i (up_d _)) (rfl))) rfl rfl ?_
    refine G_aload_n (q := 29) dX10_goesToNoon_28 rfl 0 rfl rfl ?_
    refine G_get (q := 32) dX10_goesToNoon_29 0 rfl (show vwCl[10]? = some (RX10, TX10, 25) from rfl) 23 (by decide) in_X10_goesToNoon_X10 fl_X10_goesToNoon_43 rfl rfl ?_
    refine G_iconst (v := nI 3) (q := 33) dX10_goesToNoon_32 (by decide) rfl ?_
    refine G_iconst (v := nI 0) (q := 34) dX10_goesToNoon_33 (by decide) rfl ?_
    refine G_iast (ws2 := [((C 0), .inr (10, [.int (nI (Fn E)), .ref (C 1), .int (nI (Fk E)), .ref (C 2), .int (nI (Fh E)), .ref (C 3), .ref (C 4), .int (nI ac), .ref (C 5), .int (nI kp), .ref (C 6), .int (nI sz), .ref (C 7), .ref (C 8), .int (nI ln), .int (nI pa), .ref (C 9), .int (nI (Fn G)), .ref (C 10), .int (nI (Fk G)), .ref (C 11), .int (nI (Fdd G)), .int (nI (Fh G)), .ref (C 12), .ref (C 13)])), ((C 12), .inl (Z 0, 72, .inl (upd (rwF (sQd (sQo Q (nooO (Fn E) Q)) (Qdy Q + 1))) 3 (nI 0))))]) (q := 35) dX10_goesToNoon_34 1 rfl 3 (rfl) (by omega) (by omega) rfl rfl ?_
    refine GG.of (ws2 := [((C 0), .inr (10, [.int (nI (Fn E)), .ref (C 1), .int (nI (Fk E)), .ref (C 2), .int (nI (Fh E)), .ref (C 3), .ref (C 4), .int (nI ac), .ref (C 5), .int (nI kp), .ref (C 6), .int (nI sz), .ref (C 7), .ref (C 8), .int (nI ln), .int (nI pa), .ref (C 9), .int (nI (Fn G)), .ref (C 10), .int (nI (Fk G)), .ref (C 11), .int (nI (Fdd G)), .int (nI (Fh G)), .ref (C 12), .ref (C 13)])), ((C 12), .inl (Z 0, 72, .inl (rwF (sQs (sQd (sQo Q (nooO (Fn E) Q)) (Qdy Q + 1)) 0))))]) (ws_c (rfl) (ws_c (cell_i (up_s _)) (rfl))) rfl rfl ?_
    refine G_iconst (v := nI 0) (q := 36) dX10_goesToNoon_35 (by decide) rfl ?_
    refine G_istore_n (lv2 := [(0, .ref (C 0)), (1, .int (nI 0))]) (q := 37) dX10_goesToNoon_36 rfl (by decide) rfl rfl ?_
    have L37_2 : ∀ fu2 i : Nat, i ≤ (Fn E) → (Fn E) + 1 ≤ i + fu2 → GG X ({ frames := 2, cells := 0, slots := 0, locals := 48 }) cX10_goesToNoon 3 wsX10_goesToNoon RX10 false false Z (rV [((C 0), .inr (10, [.int (nI (Fn E)), .ref (C 1), .int (nI (Fk E)), .ref (C 2), .int (nI (Fh E)), .ref (C 3), .ref (C 4), .int (nI ac), .ref (C 5), .int (nI kp), .ref (C 6), .int (nI sz), .ref (C 7), .ref (C 8), .int (nI ln), .int (nI pa), .ref (C 9), .int (nI (Fn G)), .ref (C 10), .int (nI (Fk G)), .ref (C 11), .int (nI (Fdd G)), .int (nI (Fh G)), .ref (C 12), .ref (C 13)])), ((C 12), .inl (Z 0, 72, .inl (rwF (nooQ (Fn E) Q))))]) 0 0 0 0 [((C 0), .inr (10, [.int (nI (Fn E)), .ref (C 1), .int (nI (Fk E)), .ref (C 2), .int (nI (Fh E)), .ref (C 3), .ref (C 4), .int (nI ac), .ref (C 5), .int (nI kp), .ref (C 6), .int (nI sz), .ref (C 7), .ref (C 8), .int (nI ln), .int (nI pa), .ref (C 9), .int (nI (Fn G)), .ref (C 10), .int (nI (Fk G)), .ref (C 11), .int (nI (Fdd G)), .int (nI (Fh G)), .ref (C 12), .ref (C 13)])), ((C 12), .inl (Z 0, 72, .inl (rwF (nooK (Fn E) Q i))))] [(0, .ref (C 0)), (1, .int (nI i))] [] 37 := by
      intro fu2
      induction fu2 with
      | zero => intro i q1 q2; exact absurd q2 (by omega)
      | succ fu2 ih2 =>
        intro i hi2 hf2  
        refine G_iload_n (q := 38) dX10_goesToNoon_37 rfl 1 rfl rfl ?_
        refine G_aload_n (q := 39) dX10_goesToNoon_38 rfl 0 rfl rfl ?_
        refine G_get (q := 42) dX10_goesToNoon_39 0 rfl (show vwCl[10]? = some (RX10, TX10, 25) from rfl) 0 (by decide) in_X10_goesToNoon_X10 fl_X10_goesToNoon_76 rfl rfl ?_
        refine G_icmp_geN (tgt := 105) (q := 45) dX10_goesToNoon_42 (by decide) rfl (by omega) (by omega) (fun c42 => ?_) (fun c42 => ?_)
        · have e9 : Fn E = i := by omega
          subst e9
          refine GG.of (ws2 := [((C 0), .inr (10, [.int (nI (Fn E)), .ref (C 1), .int (nI (Fk E)), .ref (C 2), .int (nI (Fh E)), .ref (C 3), .ref (C 4), .int (nI ac), .ref (C 5), .int (nI kp), .ref (C 6), .int (nI sz), .ref (C 7), .ref (C 8), .int (nI ln), .int (nI pa), .ref (C 9), .int (nI (Fn G)), .ref (C 10), .int (nI (Fk G)), .ref (C 11), .int (nI (Fdd G)), .int (nI (Fh G)), .ref (C 12), .ref (C 13)])), ((C 12), .inl (Z 0, 72, .inl (rwF (nooQ (Fn E) Q))))]) (lv2 := [(0, .ref (C 0)), (1, .int (nI (Fn E)))]) (st2 := []) (ws_c (rfl) (ws_c (rfl) (rfl))) (rfl) (rfl) ?_
          exact G_ret dX10_goesToNoon_105 rfl rfl ⟨rfl, rfl⟩
        · refine G_aload_n (q := 46) dX10_goesToNoon_45 rfl 0 rfl rfl ?_
          refine G_get (q := 49) dX10_goesToNoon_46 0 rfl (show vwCl[10]? = some (RX10, TX10, 25) from rfl) 23 (by decide) in_X10_goesToNoon_X10 fl_X10_goesToNoon_43 rfl rfl ?_
          refine G_bipush (v := nI 10) (q := 51) dX10_goesToNoon_49 (by decide) rfl ?_
          refine G_iload_n (q := 52) dX10_goesToNoon_51 rfl 1 rfl rfl ?_
          refine G_iaddN (a := 10) (b := i) (q := 53) dX10_goesToNoon_52 rfl ?_
          refine G_iald (q := 54) dX10_goesToNoon_53 1 rfl (10 + i) (rfl) (by omega) (by omega) rfl ?_
          have hb9 := hQb i
          refine G_top (y := nI (Qbi Q i)) (by rw [nooK_b (by omega)]) ?_
          refine G_iconst (v := nI 1) (q := 55) dX10_goesToNoon_54 (by decide) rfl ?_
          refine G_ishlN (a := (Qbi Q i)) (b := 1) (q := 56) dX10_goesToNoon_55 (by omega) (by omega) rfl ?_
          refine G_istore_n (lv2 := [(0, .ref (C 0)), (1, .int (nI i)), (2, .int (nI ((Qbi Q i) <<< 1)))]) (q := 57) dX10_goesToNoon_56 rfl (by decide) rfl rfl ?_
          refine G_iload_n (q := 58) dX10_goesToNoon_57 rfl 2 rfl rfl ?_
          refine G_bipush (v := nI 10) (q := 60) dX10_goesToNoon_58 (by decide) rfl ?_
          refine G_ishrN (a := ((Qbi Q i) <<< 1)) (b := 10) (q := 61) dX10_goesToNoon_60 (by omega) (sl1 (hQb i)) rfl ?_
          refine G_iconst (v := nI 1) (q := 62) dX10_goesToNoon_61 (by decide) rfl ?_
          refine G_iandN (a := (((Qbi Q i) <<< 1) >>> 10)) (b := 1) (q := 63) dX10_goesToNoon_62 rfl ?_
          refine G_iconst (v := nI 1) (q := 64) dX10_goesToNoon_63 (by decide) rfl ?_
          refine G_icmp_neN (tgt := 85) (q := 67) dX10_goesToNoon_64 (by decide) rfl (and1_lt _) (by omega) (fun c64 => ?_) (fun c64 => ?_)
          · refine G_aload_n (q := 86) dX10_goesToNoon_85 rfl 0 rfl rfl ?_
            refine G_get (q := 89) dX10_goesToNoon_86 0 rfl (show vwCl[10]? = some (RX10, TX10, 25) from rfl) 23 (by decide) in_X10_goesToNoon_X10 fl_X10_goesToNoon_43 rfl rfl ?_
            refine G_bipush (v := nI 10) (q := 91) dX10_goesToNoon_89 (by decide) rfl ?_
            refine G_iload_n (q := 92) dX10_goesToNoon_91 rfl 1 rfl rfl ?_
            refine G_iaddN (a := 10) (b := i) (q := 93) dX10_goesToNoon_92 rfl ?_
            refine G_iload_n (q := 94) dX10_goesToNoon_93 rfl 2 rfl rfl ?_
            refine G_sipush (v := nI 1023) (q := 97) dX10_goesToNoon_94 (by decide) rfl ?_
            refine G_iandN (a := ((Qbi Q i) <<< 1)) (b := 1023) (q := 98) dX10_goesToNoon_97 rfl ?_
            refine G_iast (ws2 := [((C 0), .inr (10, [.int (nI (Fn E)), .ref (C 1), .int (nI (Fk E)), .ref (C 2), .int (nI (Fh E)), .ref (C 3), .ref (C 4), .int (nI ac), .ref (C 5), .int (nI kp), .ref (C 6), .int (nI sz), .ref (C 7), .ref (C 8), .int (nI ln), .int (nI pa), .ref (C 9), .int (nI (Fn G)), .ref (C 10), .int (nI (Fk G)), .ref (C 11), .int (nI (Fdd G)), .int (nI (Fh G)), .ref (C 12), .ref (C 13)])), ((C 12), .inl (Z 0, 72, .inl (upd (rwF (nooK (Fn E) Q i)) (10 + i) (nI (((Qbi Q i) <<< 1) &&& 1023)))))]) (q := 99) dX10_goesToNoon_98 1 rfl (10 + i) (rfl) (by omega) (by omega) rfl rfl ?_
            refine GG.of (ws2 := [((C 0), .inr (10, [.int (nI (Fn E)), .ref (C 1), .int (nI (Fk E)), .ref (C 2), .int (nI (Fh E)), .ref (C 3), .ref (C 4), .int (nI ac), .ref (C 5), .int (nI kp), .ref (C 6), .int (nI sz), .ref (C 7), .ref (C 8), .int (nI ln), .int (nI pa), .ref (C 9), .int (nI (Fn G)), .ref (C 10), .int (nI (Fk G)), .ref (C 11), .int (nI (Fdd G)), .int (nI (Fh G)), .ref (C 12), .ref (C 13)])), ((C 12), .inl (Z 0, 72, .inl (rwF (sQb (nooK (Fn E) Q i) i ((Qbi Q i <<< 1) &&& 1023)))))]) (ws_c (rfl) (ws_c (cell_i (up_b (by omega) _)) (rfl))) rfl rfl ?_
            refine G_iincN (x := i) (d := 1) (lv2 := [(0, .ref (C 0)), (1, .int (nI (i + 1))), (2, .int (nI ((Qbi Q i) <<< 1)))]) (q := 102) dX10_goesToNoon_99 1 rfl (by decide) (by decide) rfl rfl ?_
            refine G_goto (q := 37) dX10_goesToNoon_102 (by decide) ?_
            refine GG.pick (lv2 := [(0, .ref (C 0)), (1, .int (nI (i + 1)))]) [0, 1] rfl ?_
            refine GG.of (ws2 := [((C 0), .inr (10, [.int (nI (Fn E)), .ref (C 1), .int (nI (Fk E)), .ref (C 2), .int (nI (Fh E)), .ref (C 3), .ref (C 4), .int (nI ac), .ref (C 5), .int (nI kp), .ref (C 6), .int (nI sz), .ref (C 7), .ref (C 8), .int (nI ln), .int (nI pa), .ref (C 9), .int (nI (Fn G)), .ref (C 10), .int (nI (Fk G)), .ref (C 11), .int (nI (Fdd G)), .int (nI (Fh G)), .ref (C 12), .ref (C 13)])), ((C 12), .inl (Z 0, 72, .inl (rwF (nooK (Fn E) Q (i + 1)))))]) (lv2 := [(0, .ref (C 0)), (1, .int (nI (i + 1)))]) (st2 := []) (ws_c (rfl) (ws_c (cell_i (congrArg rwF (by first | exact noo_t c64 | exact noo_f c64))) (rfl))) (rfl) (rfl) ?_
            exact ih2 (i + 1) (by omega) (by omega)  
          · refine G_aload_n (q := 68) dX10_goesToNoon_67 rfl 0 rfl rfl ?_
            refine G_get (q := 71) dX10_goesToNoon_68 0 rfl (show vwCl[10]? = some (RX10, TX10, 25) from rfl) 23 (by decide) in_X10_goesToNoon_X10 fl_X10_goesToNoon_43 rfl rfl ?_
            refine G_bipush (v := nI 16) (q := 73) dX10_goesToNoon_71 (by decide) rfl ?_
            refine G_iload_n (q := 74) dX10_goesToNoon_73 rfl 1 rfl rfl ?_
            refine G_iaddN (a := 16) (b := i) (q := 75) dX10_goesToNoon_74 rfl ?_
            refine G_aload_n (q := 76) dX10_goesToNoon_75 rfl 0 rfl rfl ?_
            refine G_get (q := 79) dX10_goesToNoon_76 0 rfl (show vwCl[10]? = some (RX10, TX10, 25) from rfl) 23 (by decide) in_X10_goesToNoon_X10 fl_X10_goesToNoon_43 rfl rfl ?_
            refine G_iconst (v := nI 0) (q := 80) dX10_goesToNoon_79 (by decide) rfl ?_
            refine G_iald (q := 81) dX10_goesToNoon_80 1 rfl 0 (rfl) (by omega) (by omega) rfl ?_
            refine G_top (y := nI (Qdy Q + 1)) (rfl) ?_
            refine G_bipush (v := nI 10) (q := 83) dX10_goesToNoon_81 (by decide) rfl ?_
            refine G_isub (q := 84) dX10_goesToNoon_83 rfl ?_
            refine G_iast (ws2 := [((C 0), .inr (10, [.int (nI (Fn E)), .ref (C 1), .int (nI (Fk E)), .ref (C 2), .int (nI (Fh E)), .ref (C 3), .ref (C 4), .int (nI ac), .ref (C 5), .int (nI kp), .ref (C 6), .int (nI sz), .ref (C 7), .ref (C 8), .int (nI ln), .int (nI pa), .ref (C 9), .int (nI (Fn G)), .ref (C 10), .int (nI (Fk G)), .ref (C 11), .int (nI (Fdd G)), .int (nI (Fh G)), .ref (C 12), .ref (C 13)])), ((C 12), .inl (Z 0, 72, .inl (upd (rwF (nooK (Fn E) Q i)) (16 + i) ((nI (Qdy Q + 1)) - (nI 10)))))]) (q := 85) dX10_goesToNoon_84 1 rfl (16 + i) (rfl) (by omega) (by omega) rfl rfl ?_
            refine GG.of (ws2 := [((C 0), .inr (10, [.int (nI (Fn E)), .ref (C 1), .int (nI (Fk E)), .ref (C 2), .int (nI (Fh E)), .ref (C 3), .ref (C 4), .int (nI ac), .ref (C 5), .int (nI kp), .ref (C 6), .int (nI sz), .ref (C 7), .ref (C 8), .int (nI ln), .int (nI pa), .ref (C 9), .int (nI (Fn G)), .ref (C 10), .int (nI (Fk G)), .ref (C 11), .int (nI (Fdd G)), .int (nI (Fh G)), .ref (C 12), .ref (C 13)])), ((C 12), .inl (Z 0, 72, .inl (rwF (sQl (nooK (Fn E) Q i) i (nI (Qdy Q + 1) - nI 10)))))]) (ws_c (rfl) (ws_c (cell_i (up_l (by omega) _)) (rfl))) rfl rfl ?_
            refine G_aload_n (q := 86) dX10_goesToNoon_85 rfl 0 rfl rfl ?_
            refine G_get (q := 89) dX10_goesToNoon_86 0 rfl (show vwCl[10]? = some (RX10, TX10, 25) from rfl) 23 (by decide) in_X10_goesToNoon_X10 fl_X10_goesToNoon_43 rfl rfl ?_
            refine G_bipush (v := nI 10) (q := 91) dX10_goesToNoon_89 (by decide) rfl ?_
            refine G_iload_n (q := 92) dX10_goesToNoon_91 rfl 1 rfl rfl ?_
            refine G_iaddN (a := 10) (b := i) (q := 93) dX10_goesToNoon_92 rfl ?_
            refine G_iload_n (q := 94) dX10_goesToNoon_93 rfl 2 rfl rfl ?_
            refine G_sipush (v := nI 1023) (q := 97) dX10_goesToNoon_94 (by decide) rfl ?_
            refine G_iandN (a := ((Qbi Q i) <<< 1)) (b := 1023) (q := 98) dX10_goesToNoon_97 rfl ?_
            refine G_iast (ws2 := [((C 0), .inr (10, [.int (nI (Fn E)), .ref (C 1), .int (nI (Fk E)), .ref (C 2), .int (nI (Fh E)), .ref (C 3), .ref (C 4), .int (nI ac), .ref (C 5), .int (nI kp), .ref (C 6), .int (nI sz), .ref (C 7), .ref (C 8), .int (nI ln), .int (nI pa), .ref (C 9), .int (nI (Fn G)), .ref (C 10), .int (nI (Fk G)), .ref (C 11), .int (nI (Fdd G)), .int (nI (Fh G)), .ref (C 12), .ref (C 13)])), ((C 12), .inl (Z 0, 72, .inl (upd (rwF (sQl (nooK (Fn E) Q i) i (nI (Qdy Q + 1) - nI 10))) (10 + i) (nI (((Qbi Q i) <<< 1) &&& 1023)))))]) (q := 99) dX10_goesToNoon_98 1 rfl (10 + i) (rfl) (by omega) (by omega) rfl rfl ?_
            refine GG.of (ws2 := [((C 0), .inr (10, [.int (nI (Fn E)), .ref (C 1), .int (nI (Fk E)), .ref (C 2), .int (nI (Fh E)), .ref (C 3), .ref (C 4), .int (nI ac), .ref (C 5), .int (nI kp), .ref (C 6), .int (nI sz), .ref (C 7), .ref (C 8), .int (nI ln), .int (nI pa), .ref (C 9), .int (nI (Fn G)), .ref (C 10), .int (nI (Fk G)), .ref (C 11), .int (nI (Fdd G)), .int (nI (Fh G)), .ref (C 12), .ref (C 13)])), ((C 12), .inl (Z 0, 72, .inl (rwF (sQb (sQl (nooK (Fn E) Q i) i (nI (Qdy Q + 1) - nI 10)) i ((Qbi Q i <<< 1) &&& 1023)))))]) (ws_c (rfl) (ws_c (cell_i (up_b (by omega) _)) (rfl))) rfl rfl ?_
            refine G_iincN (x := i) (d := 1) (lv2 := [(0, .ref (C 0)), (1, .int (nI (i + 1))), (2, .int (nI ((Qbi Q i) <<< 1)))]) (q := 102) dX10_goesToNoon_99 1 rfl (by decide) (by decide) rfl rfl ?_
            refine G_goto (q := 37) dX10_goesToNoon_102 (by decide) ?_
            refine GG.pick (lv2 := [(0, .ref (C 0)), (1, .int (nI (i + 1)))]) [0, 1] rfl ?_
            refine GG.of (ws2 := [((C 0), .inr (10, [.int (nI (Fn E)), .ref (C 1), .int (nI (Fk E)), .ref (C 2), .int (nI (Fh E)), .ref (C 3), .ref (C 4), .int (nI ac), .ref (C 5), .int (nI kp), .ref (C 6), .int (nI sz), .ref (C 7), .ref (C 8), .int (nI ln), .int (nI pa), .ref (C 9), .int (nI (Fn G)), .ref (C 10), .int (nI (Fk G)), .ref (C 11), .int (nI (Fdd G)), .int (nI (Fh G)), .ref (C 12), .ref (C 13)])), ((C 12), .inl (Z 0, 72, .inl (rwF (nooK (Fn E) Q (i + 1)))))]) (lv2 := [(0, .ref (C 0)), (1, .int (nI (i + 1)))]) (st2 := []) (ws_c (rfl) (ws_c (cell_i (congrArg rwF (by first | exact noo_t c64 | exact noo_f c64))) (rfl))) (rfl) (rfl) ?_
            exact ih2 (i + 1) (by omega) (by omega)  
    refine GG.of (ws2 := [((C 0), .inr (10, [.int (nI (Fn E)), .ref (C 1), .int (nI (Fk E)), .ref (C 2), .int (nI (Fh E)), .ref (C 3), .ref (C 4), .int (nI ac), .ref (C 5), .int (nI kp), .ref (C 6), .int (nI sz), .ref (C 7), .ref (C 8), .int (nI ln), .int (nI pa), .ref (C 9), .int (nI (Fn G)), .ref (C 10), .int (nI (Fk G)), .ref (C 11), .int (nI (Fdd G)), .int (nI (Fh G)), .ref (C 12), .ref (C 13)])), ((C 12), .inl (Z 0, 72, .inl (rwF (nooK (Fn E) Q 0))))]) (lv2 := [(0, .ref (C 0)), (1, .int (nI 0))]) (st2 := []) (ws_c (rfl) (ws_c (cell_i (congrArg rwF (by rw [nooK_0]; rfl))) (rfl))) (rfl) (rfl) ?_
    exact L37_2 ((Fn E) + 1) (0) (Nat.zero_le _) (by omega)  
  refine G_if_eqN (tgt := 18) (q := 7) dX10_goesToNoon_4 (by decide) rfl (by have := aqN_lt (Qbi Q) (Fn E) hn; omega) (fun c4 => ?_) (fun c4 => ?_)
  · refine GG.of (ws2 := [((C 0), .inr (10, [.int (nI (Fn E)), .ref (C 1), .int (nI (Fk E)), .ref (C 2), .int (nI (Fh E)), .ref (C 3), .ref (C 4), .int (nI ac), .ref (C 5), .int (nI kp), .ref (C 6), .int (nI sz), .ref (C 7), .ref (C 8), .int (nI ln), .int (nI pa), .ref (C 9), .int (nI (Fn G)), .ref (C 10), .int (nI (Fk G)), .ref (C 11), .int (nI (Fdd G)), .int (nI (Fh G)), .ref (C 12), .ref (C 13)])), ((C 12), .inl (Z 0, 72, .inl (rwF (sQo Q (nooO (Fn E) Q)))))]) (lv2 := [(0, .ref (C 0))]) (st2 := []) (ws_c (rfl) (ws_c (cell_i (by first | exact noo_q0 c4 | exact noo_q1 c4)) (rfl))) (rfl) (rfl) ?_
    exact J18_1
  · refine G_aload_n (q := 8) dX10_goesToNoon_7 rfl 0 rfl rfl ?_
    refine G_get (q := 11) dX10_goesToNoon_8 0 rfl (show vwCl[10]? = some (RX10, TX10, 25) from rfl) 23 (by decide) in_X10_goesToNoon_X10 fl_X10_goesToNoon_43 rfl rfl ?_
    refine G_iconst (v := nI 1) (q := 12) dX10_goesToNoon_11 (by decide) rfl ?_
    refine G_aload_n (q := 13) dX10_goesToNoon_12 rfl 0 rfl rfl ?_
    refine G_iconst (v := nI 0) (q := 14) dX10_goesToNoon_13 (by decide) rfl ?_
    refine G_callVP (As := [.int (nI 0)]) (rest := [.int (nI 1), .ref (C 12)]) (st2 := [.int (nI (hbw (ag0 Q) (Fn E) 0)), .int (nI 1), .ref (C 12)]) (q := 17) dX10_goesToNoon_14 [0, 1] (ct_X10_heirBy Z C E G sz ac kp ln pa Q 0 (hE) (hQ) (by decide)) (fun h => h) cs_X10_heirBy gX10_goesToNoon_X10_heirBy rfl ⟨Nat.le_of_ble_eq_true rfl, Nat.le_of_ble_eq_true rfl⟩ ⟨rfl, rfl⟩ 0 rfl (show vwCl[10]? = some (RX10, TX10, 25) from rfl) rfl (by decide) rfl rfl (Nat.le_of_ble_eq_true rfl) ⟨by decide, by decide⟩ rfl rfl ?_
    refine G_iast (ws2 := [((C 0), .inr (10, [.int (nI (Fn E)), .ref (C 1), .int (nI (Fk E)), .ref (C 2), .int (nI (Fh E)), .ref (C 3), .ref (C 4), .int (nI ac), .ref (C 5), .int (nI kp), .ref (C 6), .int (nI sz), .ref (C 7), .ref (C 8), .int (nI ln), .int (nI pa), .ref (C 9), .int (nI (Fn G)), .ref (C 10), .int (nI (Fk G)), .ref (C 11), .int (nI (Fdd G)), .int (nI (Fh G)), .ref (C 12), .ref (C 13)])), ((C 12), .inl (Z 0, 72, .inl (upd (rwF Q) 1 (nI (hbw (ag0 Q) (Fn E) 0)))))]) (q := 18) dX10_goesToNoon_17 1 rfl 1 (rfl) (by omega) (by omega) rfl rfl ?_
    refine GG.of (ws2 := [((C 0), .inr (10, [.int (nI (Fn E)), .ref (C 1), .int (nI (Fk E)), .ref (C 2), .int (nI (Fh E)), .ref (C 3), .ref (C 4), .int (nI ac), .ref (C 5), .int (nI kp), .ref (C 6), .int (nI sz), .ref (C 7), .ref (C 8), .int (nI ln), .int (nI pa), .ref (C 9), .int (nI (Fn G)), .ref (C 10), .int (nI (Fk G)), .ref (C 11), .int (nI (Fdd G)), .int (nI (Fh G)), .ref (C 12), .ref (C 13)])), ((C 12), .inl (Z 0, 72, .inl (rwF (sQo Q (nI (hbw (ag0 Q) (Fn E) 0))))))]) (ws_c (rfl) (ws_c (cell_i (up_o _)) (rfl))) rfl rfl ?_
    refine GG.of (ws2 := [((C 0), .inr (10, [.int (nI (Fn E)), .ref (C 1), .int (nI (Fk E)), .ref (C 2), .int (nI (Fh E)), .ref (C 3), .ref (C 4), .int (nI ac), .ref (C 5), .int (nI kp), .ref (C 6), .int (nI sz), .ref (C 7), .ref (C 8), .int (nI ln), .int (nI pa), .ref (C 9), .int (nI (Fn G)), .ref (C 10), .int (nI (Fk G)), .ref (C 11), .int (nI (Fdd G)), .int (nI (Fh G)), .ref (C 12), .ref (C 13)])), ((C 12), .inl (Z 0, 72, .inl (rwF (sQo Q (nooO (Fn E) Q)))))]) (lv2 := [(0, .ref (C 0))]) (st2 := []) (ws_c (rfl) (ws_c (cell_i (by first | exact noo_q0 c4 | exact noo_q1 c4)) (rfl))) (rfl) (rfl) ?_
    exact J18_1
theorem cs_X10_saysIt : CS yX10_saysIt wsX10_saysIt cX10_saysIt 4 (some .boolean) 2 := ⟨⟨_, rfl⟩, by decide +kernel, by decide +kernel, by decide +kernel⟩
theorem fl_X10_saysIt_43 : Cond.fieldLink RX10 43 (TX10 23).1 (TX10 23).2.1 (TX10 23).2.2.1 ∈ wsX10_saysIt := by decide +kernel
theorem in_X10_saysIt_X10 : ∀ w ∈ u_ws RX10 TX10 25, w ∈ wsX10_saysIt := by decide +kernel
set_option maxHeartbeats 4000000 in
set_option maxRecDepth 100000 in
theorem ct_X10_saysIt (Z : Nat → ClassId) (C : Nat → Nat) (E : FS) (G : FS) (sz : Nat) (ac : Nat) (kp : Nat) (ln : Nat) (pa : Nat) (Q : QS) (i : Nat) (s : Nat) (hE : okF E) (hQ : okQ Q) (hs : s < Fk E) (hi : i < Fn E): Ct false yX10_saysIt wsX10_saysIt ({ frames := 2, cells := 0, slots := 0, locals := 47 }) [.ref (C 0), .int (nI i), .int (nI s)] Z [((C 0), .inr (10, [.int (nI (Fn E)), .ref (C 1), .int (nI (Fk E)), .ref (C 2), .int (nI (Fh E)), .ref (C 3), .ref (C 4), .int (nI ac), .ref (C 5), .int (nI kp), .ref (C 6), .int (nI sz), .ref (C 7), .ref (C 8), .int (nI ln), .int (nI pa), .ref (C 9), .int (nI (Fn G)), .ref (C 10), .int (nI (Fk G)), .ref (C 11), .int (nI (Fdd G)), .int (nI (Fh G)), .ref (C 12), .ref (C 13)])), ((C 1), .inl (Z 0, 18, .inl (fun j_ => nI ((rrN E) j_)))), ((C 2), .inl (Z 0, 16, .inl (fun j_ => nI ((rsN E) j_)))), ((C 12), .inl (Z 0, 72, .inl (rwF Q)))] (rI (bI (asR E Q s i)) [((C 0), .inr (10, [.int (nI (Fn E)), .ref (C 1), .int (nI (Fk E)), .ref (C 2), .int (nI (Fh E)), .ref (C 3), .ref (C 4), .int (nI ac), .ref (C 5), .int (nI kp), .ref (C 6), .int (nI sz), .ref (C 7), .ref (C 8), .int (nI ln), .int (nI pa), .ref (C 9), .int (nI (Fn G)), .ref (C 10), .int (nI (Fk G)), .ref (C 11), .int (nI (Fdd G)), .int (nI (Fh G)), .ref (C 12), .ref (C 13)])), ((C 1), .inl (Z 0, 18, .inl (fun j_ => nI ((rrN E) j_)))), ((C 2), .inl (Z 0, 16, .inl (fun j_ => nI ((rsN E) j_)))), ((C 12), .inl (Z 0, 72, .inl (rwF (sayQ E Q i s))))]) 0 0 := by
  obtain ⟨hn, hk, hkd, hag, hml, htp, hdd, hh⟩ := id hE
  obtain ⟨hQb, hQe⟩ := id hQ
  refine Ct_of (cc := cX10_saysIt) (maxL := 4) (ret := (some .boolean)) (own := RX10) false false (by decide +kernel) rfl rfl (by decide) (fun v w h => by rw [h.1]; exact ⟨_, rfl, bI_01 _⟩) (Nat.le_of_ble_eq_true rfl) (fun X => ?_)
  show GG X _ _ _ _ _ _ _ _ _ _ _ _ _ _ [(0, .ref (C 0)), (1, .int (nI i)), (2, .int (nI s))] _ _
  refine G_aload_n (q := 1) dX10_saysIt_0 rfl 0 rfl rfl ?_
  refine G_iload_n (q := 2) dX10_saysIt_1 rfl 2 rfl rfl ?_
  refine G_iload_n (q := 3) dX10_saysIt_2 rfl 1 rfl rfl ?_
  refine G_callVP (As := [.int (nI s), .int (nI i)]) (rest := []) (st2 := [.int (bI (asR E Q s i))]) (q := 6) dX10_saysIt_3 [0, 1, 2, 3] (ct_X10_isAsking Z C E G sz ac kp ln pa Q s i (hE) (hQ) (hs) (hi)) (fun h => h) cs_X10_isAsking gX10_saysIt_X10_isAsking rfl ⟨Nat.le_of_ble_eq_true rfl, Nat.le_of_ble_eq_true rfl⟩ ⟨rfl, rfl⟩ 0 rfl (show vwCl[10]? = some (RX10, TX10, 25) from rfl) rfl (by decide) rfl rfl (Nat.le_of_ble_eq_true rfl) ⟨by decide, by decide⟩ rfl rfl ?_
  refine G_istore_n (lv2 := [(0, .ref (C 0)), (1, .int (nI i)), (2, .int (nI s)), (3, .int (bI (asR E Q s i)))]) (q := 7) dX10_saysIt_6 rfl (by decide) rfl rfl ?_
  refine G_iload_n (q := 8) dX10_saysIt_7 rfl 3 rfl rfl ?_
  refine G_if_eqB (tgt := 28) (q := 11) dX10_saysIt_8 (by decide) rfl (fun c8 => ?_) (fun c8 => ?_)
  · refine G_iload_n (q := 29) dX10_saysIt_28 rfl 3 rfl rfl ?_
    refine GG.of (ws2 := [((C 0), .inr (10, [.int (nI (Fn E)), .ref (C 1), .int (nI (Fk E)), .ref (C 2), .int (nI (Fh E)), .ref (C 3), .ref (C 4), .int (nI ac), .ref (C 5), .int (nI kp), .ref (C 6), .int (nI sz), .ref (C 7), .ref (C 8), .int (nI ln), .int (nI pa), .ref (C 9), .int (nI (Fn G)), .ref (C 10), .int (nI (Fk G)), .ref (C 11), .int (nI (Fdd G)), .int (nI (Fh G)), .ref (C 12), .ref (C 13)])), ((C 1), .inl (Z 0, 18, .inl (fun j_ => nI ((rrN E) j_)))), ((C 2), .inl (Z 0, 16, .inl (fun j_ => nI ((rsN E) j_)))), ((C 12), .inl (Z 0, 72, .inl (rwF (sayQ E Q i s))))]) (lv2 := [(0, .ref (C 0)), (1, .int (nI i)), (2, .int (nI s)), (3, .int (bI (asR E Q s i)))]) (st2 := [.int (bI (asR E Q s i))]) (ws_c (rfl) (ws_c (rfl) (ws_c (rfl) (ws_c (cell_i (by first | exact say_t c8 | exact say_f c8)) (rfl))))) (rfl) (rfl) ?_
    exact G_iret dX10_saysIt_29 rfl rfl ⟨rfl, rfl⟩
  · refine G_aload_n (q := 12) dX10_saysIt_11 rfl 0 rfl rfl ?_
    refine G_iload_n (q := 13) dX10_saysIt_12 rfl 1 rfl rfl ?_
    refine G_callVX (As := [.int (nI i)]) (rest := []) (st2 := []) (ws2 := [((C 0), .inr (10, [.int (nI (Fn E)), .ref (C 1), .int (nI (Fk E)), .ref (C 2), .int (nI (Fh E)), .ref (C 3), .ref (C 4), .int (nI ac), .ref (C 5), .int (nI kp), .ref (C 6), .int (nI sz), .ref (C 7), .ref (C 8), .int (nI ln), .int (nI pa), .ref (C 9), .int (nI (Fn G)), .ref (C 10), .int (nI (Fk G)), .ref (C 11), .int (nI (Fdd G)), .int (nI (Fh G)), .ref (C 12), .ref (C 13)])), ((C 1), .inl (Z 0, 18, .inl (fun j_ => nI ((rrN E) j_)))), ((C 2), .inl (Z 0, 16, .inl (fun j_ => nI ((rsN E) j_)))), ((C 12), .inl (Z 0, 72, .inl (rwF (askQ Q i))))]) (q := 16) dX10_saysIt_13 [0, 3] (ct_X10_asks Z C E G sz ac kp ln pa Q i (by omega)) (fun h => h) cs_X10_asks gX10_saysIt_X10_asks rfl ⟨Nat.le_of_ble_eq_true rfl, Nat.le_of_ble_eq_true rfl⟩ ⟨rfl, rfl⟩ 0 rfl (show vwCl[10]? = some (RX10, TX10, 25) from rfl) rfl (by decide) rfl rfl (Nat.le_of_ble_eq_true rfl) ⟨by decide, by decide⟩ rfl rfl rfl rfl ?_
    refine G_aload_n (q := 17) dX10_saysIt_16 rfl 0 rfl rfl ?_
    refine G_get (q := 20) dX10_saysIt_17 0 rfl (show vwCl[10]? = some (RX10, TX10, 25) from rfl) 23 (by decide) in_X10_saysIt_X10 fl_X10_saysIt_43 rfl rfl ?_
    refine G_iconst (v := nI 4) (q := 21) dX10_saysIt_20 (by decide) rfl ?_
    refine G_iload_n (q := 22) dX10_saysIt_21 rfl 1 rfl rfl ?_
    refine G_iaddN (a := 4) (b := i) (q := 23) dX10_saysIt_22 rfl ?_
    refine G_dup2 (q := 24) dX10_saysIt_23 rfl rfl rfl ?_
    refine G_iald (q := 25) dX10_saysIt_24 3 rfl (4 + i) (rfl) (by omega) (by omega) rfl ?_
    refine G_top (y := Qti Q i) (by rw [rw_t (by omega)]; rfl) ?_
    refine G_iconst (v := nI 1) (q := 26) dX10_saysIt_25 (by decide) rfl ?_
    refine G_iadd (q := 27) dX10_saysIt_26 rfl ?_
    refine G_iast (ws2 := [((C 0), .inr (10, [.int (nI (Fn E)), .ref (C 1), .int (nI (Fk E)), .ref (C 2), .int (nI (Fh E)), .ref (C 3), .ref (C 4), .int (nI ac), .ref (C 5), .int (nI kp), .ref (C 6), .int (nI sz), .ref (C 7), .ref (C 8), .int (nI ln), .int (nI pa), .ref (C 9), .int (nI (Fn G)), .ref (C 10), .int (nI (Fk G)), .ref (C 11), .int (nI (Fdd G)), .int (nI (Fh G)), .ref (C 12), .ref (C 13)])), ((C 1), .inl (Z 0, 18, .inl (fun j_ => nI ((rrN E) j_)))), ((C 2), .inl (Z 0, 16, .inl (fun j_ => nI ((rsN E) j_)))), ((C 12), .inl (Z 0, 72, .inl (upd (rwF (askQ Q i)) (4 + i) ((Qti Q i) + (nI 1)))))]) (q := 28) dX10_saysIt_27 3 rfl (4 + i) (rfl) (by omega) (by omega) rfl rfl ?_
    refine GG.of (ws2 := [((C 0), .inr (10, [.int (nI (Fn E)), .ref (C 1), .int (nI (Fk E)), .ref (C 2), .int (nI (Fh E)), .ref (C 3), .ref (C 4), .int (nI ac), .ref (C 5), .int (nI kp), .ref (C 6), .int (nI sz), .ref (C 7), .ref (C 8), .int (nI ln), .int (nI pa), .ref (C 9), .int (nI (Fn G)), .ref (C 10), .int (nI (Fk G)), .ref (C 11), .int (nI (Fdd G)), .int (nI (Fh G)), .ref (C 12), .ref (C 13)])), ((C 1), .inl (Z 0, 18, .inl (fun j_ => nI ((rrN E) j_)))), ((C 2), .inl (Z 0, 16, .inl (fun j_ => nI ((rsN E) j_)))), ((C 12), .inl (Z 0, 72, .inl (rwF (sQt (askQ Q i) i (Qti Q i + nI 1)))))]) (ws_c (rfl) (ws_c (rfl) (ws_c (rfl) (ws_c (cell_i (up_t (by omega) _)) (rfl))))) rfl rfl ?_
    refine G_iload_n (q := 29) dX10_saysIt_28 rfl 3 rfl rfl ?_
    refine GG.of (ws2 := [((C 0), .inr (10, [.int (nI (Fn E)), .ref (C 1), .int (nI (Fk E)), .ref (C 2), .int (nI (Fh E)), .ref (C 3), .ref (C 4), .int (nI ac), .ref (C 5), .int (nI kp), .ref (C 6), .int (nI sz), .ref (C 7), .ref (C 8), .int (nI ln), .int (nI pa), .ref (C 9), .int (nI (Fn G)), .ref (C 10), .int (nI (Fk G)), .ref (C 11), .int (nI (Fdd G)), .int (nI (Fh G)), .ref (C 12), .ref (C 13)])), ((C 1), .inl (Z 0, 18, .inl (fun j_ => nI ((rrN E) j_)))), ((C 2), .inl (Z 0, 16, .inl (fun j_ => nI ((rsN E) j_)))), ((C 12), .inl (Z 0, 72, .inl (rwF (sayQ E Q i s))))]) (lv2 := [(0, .ref (C 0)), (1, .int (nI i)), (2, .int (nI s)), (3, .int (bI (asR E Q s i)))]) (st2 := [.int (bI (asR E Q s i))]) (ws_c (rfl) (ws_c (rfl) (ws_c (rfl) (ws_c (cell_i (by first | exact say_t c8 | exact say_f c8)) (rfl))))) (rfl) (rfl) ?_
    exact G_iret dX10_saysIt_29 rfl rfl ⟨rfl, rfl⟩
theorem cs_X10_knowsOf : CS yX10_knowsOf wsX10_knowsOf cX10_knowsOf 3 (some .int) 2 := ⟨⟨_, rfl⟩, by decide +kernel, by decide +kernel, by decide +kernel⟩
theorem fl_X10_knowsOf_7 : Cond.fieldLink RX10 7 (TX10 1).1 (TX10 1).2.1 (TX10 1).2.2.1 ∈ wsX10_knowsOf := by decide +kernel
theorem in_X10_knowsOf_X10 : ∀ w ∈ u_ws RX10 TX10 25, w ∈ wsX10_knowsOf := by decide +kernel
set_option maxHeartbeats 4000000 in
set_option maxRecDepth 100000 in
theorem ct_X10_knowsOf (Z : Nat → ClassId) (C : Nat → Nat) (E : FS) (G : FS) (sz : Nat) (ac : Nat) (kp : Nat) (ln : Nat) (pa : Nat) (Q : QS) (i : Nat) (j : Nat) (hE : okF E) (hQ : okQ Q) (hi : i < Fn E) (hj : j < Fn E): Ct false yX10_knowsOf wsX10_knowsOf ({ frames := 1, cells := 0, slots := 0, locals := 23 }) [.ref (C 0), .int (nI i), .int (nI j)] Z [((C 0), .inr (10, [.int (nI (Fn E)), .ref (C 1), .int (nI (Fk E)), .ref (C 2), .int (nI (Fh E)), .ref (C 3), .ref (C 4), .int (nI ac), .ref (C 5), .int (nI kp), .ref (C 6), .int (nI sz), .ref (C 7), .ref (C 8), .int (nI ln), .int (nI pa), .ref (C 9), .int (nI (Fn G)), .ref (C 10), .int (nI (Fk G)), .ref (C 11), .int (nI (Fdd G)), .int (nI (Fh G)), .ref (C 12), .ref (C 13)])), ((C 1), .inl (Z 0, 18, .inl (fun j_ => nI ((rrN E) j_)))), ((C 12), .inl (Z 0, 72, .inl (rwF Q)))] (rI (knQ E Q i j) [((C 0), .inr (10, [.int (nI (Fn E)), .ref (C 1), .int (nI (Fk E)), .ref (C 2), .int (nI (Fh E)), .ref (C 3), .ref (C 4), .int (nI ac), .ref (C 5), .int (nI kp), .ref (C 6), .int (nI sz), .ref (C 7), .ref (C 8), .int (nI ln), .int (nI pa), .ref (C 9), .int (nI (Fn G)), .ref (C 10), .int (nI (Fk G)), .ref (C 11), .int (nI (Fdd G)), .int (nI (Fh G)), .ref (C 12), .ref (C 13)])), ((C 1), .inl (Z 0, 18, .inl (fun j_ => nI ((rrN E) j_)))), ((C 12), .inl (Z 0, 72, .inl (rwF Q)))]) 0 0 := by
  obtain ⟨hn, hk, hkd, hag, hml, htp, hdd, hh⟩ := id hE
  obtain ⟨hQb, hQe⟩ := id hQ
  refine Ct_of (cc := cX10_knowsOf) (maxL := 3) (ret := (some .int)) (own := RX10) false false (by decide +kernel) rfl rfl (by decide) (fun v w h => by rw [h.1]; exact ⟨_, rfl, rfl⟩) (Nat.le_of_ble_eq_true rfl) (fun X => ?_)
  show GG X _ _ _ _ _ _ _ _ _ _ _ _ _ _ [(0, .ref (C 0)), (1, .int (nI i)), (2, .int (nI j))] _ _
  refine G_aload_n (q := 1) dX10_knowsOf_0 rfl 0 rfl rfl ?_
  refine G_iload_n (q := 2) dX10_knowsOf_1 rfl 2 rfl rfl ?_
  refine G_iload_n (q := 3) dX10_knowsOf_2 rfl 1 rfl rfl ?_
  refine G_iload_n (q := 4) dX10_knowsOf_3 rfl 2 rfl rfl ?_
  have J21_1 : GG X ({ frames := 1, cells := 0, slots := 0, locals := 23 }) cX10_knowsOf 3 wsX10_knowsOf RX10 false false Z (rI (knQ E Q i j) [((C 0), .inr (10, [.int (nI (Fn E)), .ref (C 1), .int (nI (Fk E)), .ref (C 2), .int (nI (Fh E)), .ref (C 3), .ref (C 4), .int (nI ac), .ref (C 5), .int (nI kp), .ref (C 6), .int (nI sz), .ref (C 7), .ref (C 8), .int (nI ln), .int (nI pa), .ref (C 9), .int (nI (Fn G)), .ref (C 10), .int (nI (Fk G)), .ref (C 11), .int (nI (Fdd G)), .int (nI (Fh G)), .ref (C 12), .ref (C 13)])), ((C 1), .inl (Z 0, 18, .inl (fun j_ => nI ((rrN E) j_)))), ((C 12), .inl (Z 0, 72, .inl (rwF Q)))]) 0 0 0 0 [((C 0), .inr (10, [.int (nI (Fn E)), .ref (C 1), .int (nI (Fk E)), .ref (C 2), .int (nI (Fh E)), .ref (C 3), .ref (C 4), .int (nI ac), .ref (C 5), .int (nI kp), .ref (C 6), .int (nI sz), .ref (C 7), .ref (C 8), .int (nI ln), .int (nI pa), .ref (C 9), .int (nI (Fn G)), .ref (C 10), .int (nI (Fk G)), .ref (C 11), .int (nI (Fdd G)), .int (nI (Fh G)), .ref (C 12), .ref (C 13)])), ((C 1), .inl (Z 0, 18, .inl (fun j_ => nI ((rrN E) j_)))), ((C 12), .inl (Z 0, 72, .inl (rwF Q)))] [(0, .ref (C 0)), (1, .int (nI i)), (2, .int (nI j))] [.int (nI (if i = j then 0 else Fml E i)), .int (nI j), .ref (C 0)] 21 := by
    refine G_callVP (As := [.int (nI j), .int (nI (if i = j then 0 else Fml E i))]) (rest := []) (st2 := [.int (agQ Q j (if i = j then 0 else Fml E i))]) (q := 24) dX10_knowsOf_21 [0, 2] (ct_X10_agoBy Z C E G sz ac kp ln pa Q j (if i = j then 0 else Fml E i) (hQ) (by omega) (by have := hml i; split <;> omega)) (fun h => h) cs_X10_agoBy gX10_knowsOf_X10_agoBy rfl ⟨Nat.le_of_ble_eq_true rfl, Nat.le_of_ble_eq_true rfl⟩ ⟨rfl, rfl⟩ 0 rfl (show vwCl[10]? = some (RX10, TX10, 25) from rfl) rfl (by decide) rfl rfl (Nat.le_of_ble_eq_true rfl) ⟨by decide, by decide⟩ rfl rfl ?_
    refine GG.of (ws2 := [((C 0), .inr (10, [.int (nI (Fn E)), .ref (C 1), .int (nI (Fk E)), .ref (C 2), .int (nI (Fh E)), .ref (C 3), .ref (C 4), .int (nI ac), .ref (C 5), .int (nI kp), .ref (C 6), .int (nI sz), .ref (C 7), .ref (C 8), .int (nI ln), .int (nI pa), .ref (C 9), .int (nI (Fn G)), .ref (C 10), .int (nI (Fk G)), .ref (C 11), .int (nI (Fdd G)), .int (nI (Fh G)), .ref (C 12), .ref (C 13)])), ((C 1), .inl (Z 0, 18, .inl (fun j_ => nI ((rrN E) j_)))), ((C 12), .inl (Z 0, 72, .inl (rwF Q)))]) (lv2 := [(0, .ref (C 0)), (1, .int (nI i)), (2, .int (nI j))]) (st2 := [.int (knQ E Q i j)]) (rfl) (rfl) (st_c (vi_c (show agQ Q j (if i = j then 0 else Fml E i) = knQ E Q i j from rfl)) (rfl)) ?_
    exact G_iret dX10_knowsOf_24 rfl rfl ⟨rfl, rfl⟩
  refine G_icmp_neN (tgt := 11) (q := 7) dX10_knowsOf_4 (by decide) rfl (by omega) (by omega) (fun c4 => ?_) (fun c4 => ?_)
  · refine G_aload_n (q := 12) dX10_knowsOf_11 rfl 0 rfl rfl ?_
    refine G_get (q := 15) dX10_knowsOf_12 0 rfl (show vwCl[10]? = some (RX10, TX10, 25) from rfl) 1 (by decide) in_X10_knowsOf_X10 fl_X10_knowsOf_7 rfl rfl ?_
    refine G_iconst (v := nI 3) (q := 16) dX10_knowsOf_15 (by decide) rfl ?_
    refine G_iload_n (q := 17) dX10_knowsOf_16 rfl 1 rfl rfl ?_
    refine G_imulN (a := 3) (b := i) (q := 18) dX10_knowsOf_17 rfl ?_
    refine G_iconst (v := nI 2) (q := 19) dX10_knowsOf_18 (by decide) rfl ?_
    refine G_iaddN (a := (3 * i)) (b := 2) (q := 20) dX10_knowsOf_19 rfl ?_
    refine G_iald (q := 21) dX10_knowsOf_20 1 rfl ((3 * i) + 2) (rfl) (by omega) (by omega) rfl ?_
    refine GG.of (ws2 := [((C 0), .inr (10, [.int (nI (Fn E)), .ref (C 1), .int (nI (Fk E)), .ref (C 2), .int (nI (Fh E)), .ref (C 3), .ref (C 4), .int (nI ac), .ref (C 5), .int (nI kp), .ref (C 6), .int (nI sz), .ref (C 7), .ref (C 8), .int (nI ln), .int (nI pa), .ref (C 9), .int (nI (Fn G)), .ref (C 10), .int (nI (Fk G)), .ref (C 11), .int (nI (Fdd G)), .int (nI (Fh G)), .ref (C 12), .ref (C 13)])), ((C 1), .inl (Z 0, 18, .inl (fun j_ => nI ((rrN E) j_)))), ((C 12), .inl (Z 0, 72, .inl (rwF Q)))]) (lv2 := [(0, .ref (C 0)), (1, .int (nI i)), (2, .int (nI j))]) (st2 := [.int (nI (if i = j then 0 else Fml E i)), .int (nI j), .ref (C 0)]) (rfl) (rfl) (st_c (vi_c (show nI ((rrN E) ((3 * i) + 2)) = nI (if i = j then 0 else Fml E i) from by first | rw [if_pos c4] | rw [if_neg c4, rr_2])) (st_c rfl (st_c rfl (rfl)))) ?_
    exact J21_1
  · refine G_iconst (v := nI 0) (q := 8) dX10_knowsOf_7 (by decide) rfl ?_
    refine G_goto (q := 21) dX10_knowsOf_8 (by decide) ?_
    refine GG.of (ws2 := [((C 0), .inr (10, [.int (nI (Fn E)), .ref (C 1), .int (nI (Fk E)), .ref (C 2), .int (nI (Fh E)), .ref (C 3), .ref (C 4), .int (nI ac), .ref (C 5), .int (nI kp), .ref (C 6), .int (nI sz), .ref (C 7), .ref (C 8), .int (nI ln), .int (nI pa), .ref (C 9), .int (nI (Fn G)), .ref (C 10), .int (nI (Fk G)), .ref (C 11), .int (nI (Fdd G)), .int (nI (Fh G)), .ref (C 12), .ref (C 13)])), ((C 1), .inl (Z 0, 18, .inl (fun j_ => nI ((rrN E) j_)))), ((C 12), .inl (Z 0, 72, .inl (rwF Q)))]) (lv2 := [(0, .ref (C 0)), (1, .int (nI i)), (2, .int (nI j))]) (st2 := [.int (nI (if i = j then 0 else Fml E i)), .int (nI j), .ref (C 0)]) (rfl) (rfl) (st_c (vi_c (show nI 0 = nI (if i = j then 0 else Fml E i) from by first | rw [if_pos c4] | rw [if_neg c4, rr_2])) (st_c rfl (st_c rfl (rfl)))) ?_
    exact J21_1
theorem cs_X10_ranked : CS yX10_ranked wsX10_ranked cX10_ranked 2 (some .int) 2 := ⟨⟨_, rfl⟩, by decide +kernel, by decide +kernel, by decide +kernel⟩
set_option maxHeartbeats 4000000 in
set_option maxRecDepth 100000 in
theorem ct_X10_ranked (Z : Nat → ClassId) (c : Nat) (ow : Int32) : Ct false yX10_ranked wsX10_ranked ({ frames := 0, cells := 0, slots := 0, locals := 0 }) [.int (nI c), .int ow] Z [] (rI (nI (rkR ow c)) []) 0 0 := by
  refine Ct_of (cc := cX10_ranked) (maxL := 2) (ret := (some .int)) (own := RX10) false false (by decide +kernel) rfl rfl (by decide) (fun v w h => by rw [h.1]; exact ⟨_, rfl, rfl⟩) (Nat.le_of_ble_eq_true rfl) (fun X => ?_)
  show GG X _ _ _ _ _ _ _ _ _ _ _ _ _ _ [(0, .int (nI c)), (1, .int ow)] _ _
  refine G_iload_n (q := 1) dX10_ranked_0 rfl 1 rfl rfl ?_
  refine G_iload_n (q := 2) dX10_ranked_1 rfl 0 rfl rfl ?_
  have hr9 : ∀ (h1 : ¬ ow = nI c) (h2 : ow < 0 ∨ nI c < ow), nI 1 = nI (rkR ow c) := fun h1 h2 => by rw [rkR, if_neg h1, if_pos h2]
  have hr8 : ∀ (h1 : ¬ ow = nI c) (h2 : ¬ (ow < 0 ∨ nI c < ow)), nI 0 = nI (rkR ow c) := fun h1 h2 => by rw [rkR, if_neg h1, if_neg h2]
  refine G_icmp_ne (tgt := 9) (q := 5) dX10_ranked_2 (by decide) rfl (fun c2 => ?_) (fun c2 => ?_)
  · refine G_iload_n (q := 10) dX10_ranked_9 rfl 1 rfl rfl ?_
    refine G_if_lt (tgt := 18) (q := 13) dX10_ranked_10 (by decide) rfl (fun c10 => ?_) (fun c10 => ?_)
    · refine G_iconst (v := nI 1) (q := 19) dX10_ranked_18 (by decide) rfl ?_
      refine G_goto (q := 23) dX10_ranked_19 (by decide) ?_
      refine GG.of (ws2 := []) (lv2 := [(0, .int (nI c)), (1, .int ow)]) (st2 := [.int (nI (rkR ow c))]) (rfl) (rfl) (st_c (vi_c (show nI 1 = nI (rkR ow c) from by first | exact hr9 c2 (Or.inl c10) | exact hr9 c2 (Or.inr (Int32.not_le.mp c15)) | exact hr8 c2 (fun z => z.elim c10 (fun y => Int32.not_lt.mpr c15 y)) | (rw [rkR, if_pos c2]))) (rfl)) ?_
      exact G_iret dX10_ranked_23 rfl rfl ⟨rfl, rfl⟩
    · refine G_iload_n (q := 14) dX10_ranked_13 rfl 1 rfl rfl ?_
      refine G_iload_n (q := 15) dX10_ranked_14 rfl 0 rfl rfl ?_
      refine G_icmp_le (tgt := 22) (q := 18) dX10_ranked_15 (by decide) rfl (fun c15 => ?_) (fun c15 => ?_)
      · refine G_iconst (v := nI 0) (q := 23) dX10_ranked_22 (by decide) rfl ?_
        refine GG.of (ws2 := []) (lv2 := [(0, .int (nI c)), (1, .int ow)]) (st2 := [.int (nI (rkR ow c))]) (rfl) (rfl) (st_c (vi_c (show nI 0 = nI (rkR ow c) from by first | exact hr9 c2 (Or.inl c10) | exact hr9 c2 (Or.inr (Int32.not_le.mp c15)) | exact hr8 c2 (fun z => z.elim c10 (fun y => Int32.not_lt.mpr c15 y)) | (rw [rkR, if_pos c2]))) (rfl)) ?_
        exact G_iret dX10_ranked_23 rfl rfl ⟨rfl, rfl⟩
      · refine G_iconst (v := nI 1) (q := 19) dX10_ranked_18 (by decide) rfl ?_
        refine G_goto (q := 23) dX10_ranked_19 (by decide) ?_
        refine GG.of (ws2 := []) (lv2 := [(0, .int (nI c)), (1, .int ow)]) (st2 := [.int (nI (rkR ow c))]) (rfl) (rfl) (st_c (vi_c (show nI 1 = nI (rkR ow c) from by first | exact hr9 c2 (Or.inl c10) | exact hr9 c2 (Or.inr (Int32.not_le.mp c15)) | exact hr8 c2 (fun z => z.elim c10 (fun y => Int32.not_lt.mpr c15 y)) | (rw [rkR, if_pos c2]))) (rfl)) ?_
        exact G_iret dX10_ranked_23 rfl rfl ⟨rfl, rfl⟩
  · refine G_iconst (v := nI 2) (q := 6) dX10_ranked_5 (by decide) rfl ?_
    refine G_goto (q := 23) dX10_ranked_6 (by decide) ?_
    refine GG.of (ws2 := []) (lv2 := [(0, .int (nI c)), (1, .int ow)]) (st2 := [.int (nI (rkR ow c))]) (rfl) (rfl) (st_c (vi_c (show nI 2 = nI (rkR ow c) from by first | exact hr9 c2 (Or.inl c10) | exact hr9 c2 (Or.inr (Int32.not_le.mp c15)) | exact hr8 c2 (fun z => z.elim c10 (fun y => Int32.not_lt.mpr c15 y)) | (rw [rkR, if_pos c2]))) (rfl)) ?_
    exact G_iret dX10_ranked_23 rfl rfl ⟨rfl, rfl⟩
theorem cs_X10_letterAt : CS yX10_letterAt wsX10_letterAt cX10_letterAt 2 (some .int) 1 := ⟨⟨_, rfl⟩, by decide +kernel, by decide +kernel, by decide +kernel⟩
theorem fl_X10_letterAt_31 : Cond.fieldLink RX10 31 (TX10 13).1 (TX10 13).2.1 (TX10 13).2.2.1 ∈ wsX10_letterAt := by decide +kernel
theorem fl_X10_letterAt_83 : Cond.fieldLink RX10 83 (TX10 14).1 (TX10 14).2.1 (TX10 14).2.2.1 ∈ wsX10_letterAt := by decide +kernel
theorem in_X10_letterAt_X10 : ∀ w ∈ u_ws RX10 TX10 25, w ∈ wsX10_letterAt := by decide +kernel
set_option maxHeartbeats 4000000 in
set_option maxRecDepth 100000 in
theorem ct_X10_letterAt (Z : Nat → ClassId) (C : Nat → Nat) (E : FS) (G : FS) (sz : Nat) (ac : Nat) (kp : Nat) (ln : Nat) (pa : Nat) (L : Nat → Nat) (p : Nat) (hln : ln ≤ 200) (hL : ∀ j, L j < 128) (hp : p < 100000): Ct false yX10_letterAt wsX10_letterAt ({ frames := 0, cells := 0, slots := 0, locals := 0 }) [.ref (C 0), .int (nI p)] Z [((C 0), .inr (10, [.int (nI (Fn E)), .ref (C 1), .int (nI (Fk E)), .ref (C 2), .int (nI (Fh E)), .ref (C 3), .ref (C 4), .int (nI ac), .ref (C 5), .int (nI kp), .ref (C 6), .int (nI sz), .ref (C 7), .ref (C 8), .int (nI ln), .int (nI pa), .ref (C 9), .int (nI (Fn G)), .ref (C 10), .int (nI (Fk G)), .ref (C 11), .int (nI (Fdd G)), .int (nI (Fh G)), .ref (C 12), .ref (C 13)])), ((C 8), .inl (Z 0, 200, .inl (fun j_ => nI (L j_))))] (rI (ltI L ln p) [((C 0), .inr (10, [.int (nI (Fn E)), .ref (C 1), .int (nI (Fk E)), .ref (C 2), .int (nI (Fh E)), .ref (C 3), .ref (C 4), .int (nI ac), .ref (C 5), .int (nI kp), .ref (C 6), .int (nI sz), .ref (C 7), .ref (C 8), .int (nI ln), .int (nI pa), .ref (C 9), .int (nI (Fn G)), .ref (C 10), .int (nI (Fk G)), .ref (C 11), .int (nI (Fdd G)), .int (nI (Fh G)), .ref (C 12), .ref (C 13)])), ((C 8), .inl (Z 0, 200, .inl (fun j_ => nI (L j_))))]) 0 0 := by
  refine Ct_of (cc := cX10_letterAt) (maxL := 2) (ret := (some .int)) (own := RX10) false false (by decide +kernel) rfl rfl (by decide) (fun v w h => by rw [h.1]; exact ⟨_, rfl, rfl⟩) (Nat.le_of_ble_eq_true rfl) (fun X => ?_)
  show GG X _ _ _ _ _ _ _ _ _ _ _ _ _ _ [(0, .ref (C 0)), (1, .int (nI p))] _ _
  refine G_iload_n (q := 1) dX10_letterAt_0 rfl 1 rfl rfl ?_
  refine G_aload_n (q := 2) dX10_letterAt_1 rfl 0 rfl rfl ?_
  refine G_get (q := 5) dX10_letterAt_2 0 rfl (show vwCl[10]? = some (RX10, TX10, 25) from rfl) 14 (by decide) in_X10_letterAt_X10 fl_X10_letterAt_83 rfl rfl ?_
  refine G_icmp_geN (tgt := 17) (q := 8) dX10_letterAt_5 (by decide) rfl (by omega) (by omega) (fun c5 => ?_) (fun c5 => ?_)
  · refine G_iconst (v := -1) (q := 18) dX10_letterAt_17 (by decide) rfl ?_
    refine GG.of (ws2 := [((C 0), .inr (10, [.int (nI (Fn E)), .ref (C 1), .int (nI (Fk E)), .ref (C 2), .int (nI (Fh E)), .ref (C 3), .ref (C 4), .int (nI ac), .ref (C 5), .int (nI kp), .ref (C 6), .int (nI sz), .ref (C 7), .ref (C 8), .int (nI ln), .int (nI pa), .ref (C 9), .int (nI (Fn G)), .ref (C 10), .int (nI (Fk G)), .ref (C 11), .int (nI (Fdd G)), .int (nI (Fh G)), .ref (C 12), .ref (C 13)])), ((C 8), .inl (Z 0, 200, .inl (fun j_ => nI (L j_))))]) (lv2 := [(0, .ref (C 0)), (1, .int (nI p))]) (st2 := [.int (ltI L ln p)]) (rfl) (rfl) (st_c (vi_c (show -1 = ltI L ln p from by first | (rw [ltI_t c5]) | (rw [ltI_f (by omega)]))) (rfl)) ?_
    exact G_iret dX10_letterAt_18 rfl rfl ⟨rfl, rfl⟩
  · refine G_aload_n (q := 9) dX10_letterAt_8 rfl 0 rfl rfl ?_
    refine G_get (q := 12) dX10_letterAt_9 0 rfl (show vwCl[10]? = some (RX10, TX10, 25) from rfl) 13 (by decide) in_X10_letterAt_X10 fl_X10_letterAt_31 rfl rfl ?_
    refine G_iload_n (q := 13) dX10_letterAt_12 rfl 1 rfl rfl ?_
    refine G_iald (q := 14) dX10_letterAt_13 1 rfl p (rfl) (by omega) (by omega) rfl ?_
    refine G_goto (q := 18) dX10_letterAt_14 (by decide) ?_
    refine GG.of (ws2 := [((C 0), .inr (10, [.int (nI (Fn E)), .ref (C 1), .int (nI (Fk E)), .ref (C 2), .int (nI (Fh E)), .ref (C 3), .ref (C 4), .int (nI ac), .ref (C 5), .int (nI kp), .ref (C 6), .int (nI sz), .ref (C 7), .ref (C 8), .int (nI ln), .int (nI pa), .ref (C 9), .int (nI (Fn G)), .ref (C 10), .int (nI (Fk G)), .ref (C 11), .int (nI (Fdd G)), .int (nI (Fh G)), .ref (C 12), .ref (C 13)])), ((C 8), .inl (Z 0, 200, .inl (fun j_ => nI (L j_))))]) (lv2 := [(0, .ref (C 0)), (1, .int (nI p))]) (st2 := [.int (ltI L ln p)]) (rfl) (rfl) (st_c (vi_c (show nI (L p) = ltI L ln p from by first | (rw [ltI_t c5]) | (rw [ltI_f (by omega)]))) (rfl)) ?_
    exact G_iret dX10_letterAt_18 rfl rfl ⟨rfl, rfl⟩
theorem cs_X10_isFigure : CS yX10_isFigure wsX10_isFigure cX10_isFigure 1 (some .boolean) 1 := ⟨⟨_, rfl⟩, by decide +kernel, by decide +kernel, by decide +kernel⟩
set_option maxHeartbeats 4000000 in
set_option maxRecDepth 100000 in
theorem ct_X10_isFigure (Z : Nat → ClassId) (x : Int32) : Ct false yX10_isFigure wsX10_isFigure ({ frames := 1, cells := 0, slots := 0, locals := 22 }) [.int x] Z [] (rI (bI (inB x (nI 48) (nI 57))) []) 0 0 := by
  refine Ct_of (cc := cX10_isFigure) (maxL := 1) (ret := (some .boolean)) (own := RX10) false false (by decide +kernel) rfl rfl (by decide) (fun v w h => by rw [h.1]; exact ⟨_, rfl, bI_01 _⟩) (Nat.le_of_ble_eq_true rfl) (fun X => ?_)
  show GG X _ _ _ _ _ _ _ _ _ _ _ _ _ _ [(0, .int x)] _ _
  refine G_iload_n (q := 1) dX10_isFigure_0 rfl 0 rfl rfl ?_
  refine G_bipush (v := nI 48) (q := 3) dX10_isFigure_1 (by decide) rfl ?_
  refine G_bipush (v := nI 57) (q := 5) dX10_isFigure_3 (by decide) rfl ?_
  refine G_callSP (As := [.int x, .int (nI 48), .int (nI 57)]) (rest := []) (st2 := [.int (bI (inB x (nI 48) (nI 57)))]) (q := 8) dX10_isFigure_5 [] (ct_X10_in Z x (nI 48) (nI 57)) (fun h => h) cs_X10_in gX10_isFigure_X10_in ⟨Nat.le_of_ble_eq_true rfl, Nat.le_of_ble_eq_true rfl⟩ ⟨rfl, rfl⟩ rfl (by decide) rfl rfl (Nat.le_of_ble_eq_true rfl) ⟨by decide, by decide⟩ rfl rfl ?_
  exact G_iret dX10_isFigure_8 rfl rfl ⟨rfl, rfl⟩
theorem cs_X10_isTold : CS yX10_isTold wsX10_isTold cX10_isTold 4 (some .boolean) 3 := ⟨⟨_, rfl⟩, by decide +kernel, by decide +kernel, by decide +kernel⟩
theorem fl_X10_isTold_34 : Cond.fieldLink RX10 34 (TX10 16).1 (TX10 16).2.1 (TX10 16).2.2.1 ∈ wsX10_isTold := by decide +kernel
theorem in_X10_isTold_X10 : ∀ w ∈ u_ws RX10 TX10 25, w ∈ wsX10_isTold := by decide +kernel
set_option maxHeartbeats 4000000 in
set_option maxRecDepth 100000 in
theorem ct_X10_isTold (Z : Nat → ClassId) (C : Nat → Nat) (E : FS) (G : FS) (sz : Nat) (ac : Nat) (kp : Nat) (ln : Nat) (pa : Nat) (tg : Nat → Nat) (k : Nat) (a : Nat) (b : Nat) (hk : k < 3): Ct false yX10_isTold wsX10_isTold ({ frames := 1, cells := 0, slots := 0, locals := 22 }) [.ref (C 0), .int (nI k), .int (nI a), .int (nI b)] Z [((C 0), .inr (10, [.int (nI (Fn E)), .ref (C 1), .int (nI (Fk E)), .ref (C 2), .int (nI (Fh E)), .ref (C 3), .ref (C 4), .int (nI ac), .ref (C 5), .int (nI kp), .ref (C 6), .int (nI sz), .ref (C 7), .ref (C 8), .int (nI ln), .int (nI pa), .ref (C 9), .int (nI (Fn G)), .ref (C 10), .int (nI (Fk G)), .ref (C 11), .int (nI (Fdd G)), .int (nI (Fh G)), .ref (C 12), .ref (C 13)])), ((C 9), .inl (Z 0, 3, .inl (fun j_ => nI (tg j_))))] (rI (bI (inB (nI (tg k)) (nI a) (nI b))) [((C 0), .inr (10, [.int (nI (Fn E)), .ref (C 1), .int (nI (Fk E)), .ref (C 2), .int (nI (Fh E)), .ref (C 3), .ref (C 4), .int (nI ac), .ref (C 5), .int (nI kp), .ref (C 6), .int (nI sz), .ref (C 7), .ref (C 8), .int (nI ln), .int (nI pa), .ref (C 9), .int (nI (Fn G)), .ref (C 10), .int (nI (Fk G)), .ref (C 11), .int (nI (Fdd G)), .int (nI (Fh G)), .ref (C 12), .ref (C 13)])), ((C 9), .inl (Z 0, 3, .inl (fun j_ => nI (tg j_))))]) 0 0 := by
  refine Ct_of (cc := cX10_isTold) (maxL := 4) (ret := (some .boolean)) (own := RX10) false false (by decide +kernel) rfl rfl (by decide) (fun v w h => by rw [h.1]; exact ⟨_, rfl, bI_01 _⟩) (Nat.le_of_ble_eq_true rfl) (fun X => ?_)
  show GG X _ _ _ _ _ _ _ _ _ _ _ _ _ _ [(0, .ref (C 0)), (1, .int (nI k)), (2, .int (nI a)), (3, .int (nI b))] _ _
  refine G_aload_n (q := 1) dX10_isTold_0 rfl 0 rfl rfl ?_
  refine G_get (q := 4) dX10_isTold_1 0 rfl (show vwCl[10]? = some (RX10, TX10, 25) from rfl) 16 (by decide) in_X10_isTold_X10 fl_X10_isTold_34 rfl rfl ?_
  refine G_iload_n (q := 5) dX10_isTold_4 rfl 1 rfl rfl ?_
  refine G_iald (q := 6) dX10_isTold_5 1 rfl k (rfl) (by omega) (by omega) rfl ?_
  refine G_iload_n (q := 7) dX10_isTold_6 rfl 2 rfl rfl ?_
  refine G_iload_n (q := 8) dX10_isTold_7 rfl 3 rfl rfl ?_
  refine G_callSP (As := [.int (nI (tg k)), .int (nI a), .int (nI b)]) (rest := []) (st2 := [.int (bI (inB (nI (tg k)) (nI a) (nI b)))]) (q := 11) dX10_isTold_8 [] (ct_X10_in Z (nI (tg k)) (nI a) (nI b)) (fun h => h) cs_X10_in gX10_isTold_X10_in ⟨Nat.le_of_ble_eq_true rfl, Nat.le_of_ble_eq_true rfl⟩ ⟨rfl, rfl⟩ rfl (by decide) rfl rfl (Nat.le_of_ble_eq_true rfl) ⟨by decide, by decide⟩ rfl rfl ?_
  exact G_iret dX10_isTold_11 rfl rfl ⟨rfl, rfl⟩
theorem cs_X10_readNumbers : CS yX10_readNumbers wsX10_readNumbers cX10_readNumbers 3 (some .boolean) 1 := ⟨⟨_, rfl⟩, by decide +kernel, by decide +kernel, by decide +kernel⟩
theorem fl_X10_readNumbers_34 : Cond.fieldLink RX10 34 (TX10 16).1 (TX10 16).2.1 (TX10 16).2.2.1 ∈ wsX10_readNumbers := by decide +kernel
theorem fl_X10_readNumbers_86 : Cond.fieldLink RX10 86 (TX10 15).1 (TX10 15).2.1 (TX10 15).2.2.1 ∈ wsX10_readNumbers := by decide +kernel
theorem in_X10_readNumbers_X10 : ∀ w ∈ u_ws RX10 TX10 25, w ∈ wsX10_readNumbers := by decide +kernel
set_option maxHeartbeats 4000000 in
set_option maxRecDepth 100000 in
theorem ct_X10_readNumbers (Z : Nat → ClassId) (C : Nat → Nat) (E : FS) (G : FS) (sz : Nat) (ac : Nat) (kp : Nat) (ln : Nat) (pa : Nat) (L : Nat → Nat) (tg : Nat → Nat) (many : Nat) (hln : ln ≤ 200) (hL : ∀ j, L j < 128) (hpa : pa ≤ ln) (hm : many ≤ 3): Ct false yX10_readNumbers wsX10_readNumbers ({ frames := 2, cells := 0, slots := 0, locals := 42 }) [.ref (C 0), .int (nI many)] Z [((C 0), .inr (10, [.int (nI (Fn E)), .ref (C 1), .int (nI (Fk E)), .ref (C 2), .int (nI (Fh E)), .ref (C 3), .ref (C 4), .int (nI ac), .ref (C 5), .int (nI kp), .ref (C 6), .int (nI sz), .ref (C 7), .ref (C 8), .int (nI ln), .int (nI pa), .ref (C 9), .int (nI (Fn G)), .ref (C 10), .int (nI (Fk G)), .ref (C 11), .int (nI (Fdd G)), .int (nI (Fh G)), .ref (C 12), .ref (C 13)])), ((C 8), .inl (Z 0, 200, .inl (fun j_ => nI (L j_)))), ((C 9), .inl (Z 0, 3, .inl (fun j_ => nI (tg j_))))] (fun v w => ∃ (t9 : Nat → Nat) (p9 : Nat), v = some (.int (bI (pnN L ln many pa many).isSome)) ∧ w = [((C 0), .inr (10, [.int (nI (Fn E)), .ref (C 1), .int (nI (Fk E)), .ref (C 2), .int (nI (Fh E)), .ref (C 3), .ref (C 4), .int (nI ac), .ref (C 5), .int (nI kp), .ref (C 6), .int (nI sz), .ref (C 7), .ref (C 8), .int (nI ln), .int (nI p9), .ref (C 9), .int (nI (Fn G)), .ref (C 10), .int (nI (Fk G)), .ref (C 11), .int (nI (Fdd G)), .int (nI (Fh G)), .ref (C 12), .ref (C 13)])), ((C 8), .inl (Z 0, 200, .inl (fun j_ => nI (L j_)))), ((C 9), .inl (Z 0, 3, .inl (fun j_ => nI (t9 j_))))] ∧ ∀ p g, pnN L ln many pa many = some (p, g) → p9 = p ∧ ∀ j, j < many → t9 j = g j) 0 0 := by
  refine Ct_of (cc := cX10_readNumbers) (maxL := 3) (ret := (some .boolean)) (own := RX10) false false (by decide +kernel) rfl rfl (by decide) (fun v w h9 => by obtain ⟨t9, p9, rfl, -⟩ := h9; exact ⟨_, rfl, bI_01 _⟩) (Nat.le_of_ble_eq_true rfl) (fun X => ?_)
  show GG X _ _ _ _ _ _ _ _ _ _ _ _ _ _ [(0, .ref (C 0)), (1, .int (nI many))] _ _
  refine G_iconst (v := nI 0) (q := 1) dX10_readNumbers_0 (by decide) rfl ?_
  refine G_istore_n (lv2 := [(0, .ref (C 0)), (1, .int (nI many)), (2, .int (nI 0))]) (q := 2) dX10_readNumbers_1 rfl (by decide) rfl rfl ?_
  have L2_1 : ∀ fu1 kk : Nat, kk ≤ many → many + 1 ≤ kk + fu1 → ∀ (p : Nat), ∀ (t8 : Nat → Nat), ∀ (g : Nat → Nat), (pnN L ln many pa kk = some (p, g)) → (∀ j, j < kk → t8 j = g j) → GG X ({ frames := 2, cells := 0, slots := 0, locals := 42 }) cX10_readNumbers 3 wsX10_readNumbers RX10 false false Z (fun v w => ∃ (t9 : Nat → Nat) (p9 : Nat), v = some (.int (bI (pnN L ln many pa many).isSome)) ∧ w = [((C 0), .inr (10, [.int (nI (Fn E)), .ref (C 1), .int (nI (Fk E)), .ref (C 2), .int (nI (Fh E)), .ref (C 3), .ref (C 4), .int (nI ac), .ref (C 5), .int (nI kp), .ref (C 6), .int (nI sz), .ref (C 7), .ref (C 8), .int (nI ln), .int (nI p9), .ref (C 9), .int (nI (Fn G)), .ref (C 10), .int (nI (Fk G)), .ref (C 11), .int (nI (Fdd G)), .int (nI (Fh G)), .ref (C 12), .ref (C 13)])), ((C 8), .inl (Z 0, 200, .inl (fun j_ => nI (L j_)))), ((C 9), .inl (Z 0, 3, .inl (fun j_ => nI (t9 j_))))] ∧ ∀ p g, pnN L ln many pa many = some (p, g) → p9 = p ∧ ∀ j, j < many → t9 j = g j) 0 0 0 0 [((C 0), .inr (10, [.int (nI (Fn E)), .ref (C 1), .int (nI (Fk E)), .ref (C 2), .int (nI (Fh E)), .ref (C 3), .ref (C 4), .int (nI ac), .ref (C 5), .int (nI kp), .ref (C 6), .int (nI sz), .ref (C 7), .ref (C 8), .int (nI ln), .int (nI p), .ref (C 9), .int (nI (Fn G)), .ref (C 10), .int (nI (Fk G)), .ref (C 11), .int (nI (Fdd G)), .int (nI (Fh G)), .ref (C 12), .ref (C 13)])), ((C 8), .inl (Z 0, 200, .inl (fun j_ => nI (L j_)))), ((C 9), .inl (Z 0, 3, .inl (fun j_ => nI (t8 j_))))] [(0, .ref (C 0)), (1, .int (nI many)), (2, .int (nI kk))] [] 2 := by
    intro fu1
    induction fu1 with
    | zero => intro kk q1 q2; exact absurd q2 (by omega)
    | succ fu1 ih1 =>
      intro kk hi1 hf1 p t8 g hp hg
      refine G_iload_n (q := 3) dX10_readNumbers_2 rfl 2 rfl rfl ?_
      refine G_iload_n (q := 4) dX10_readNumbers_3 rfl 1 rfl rfl ?_
      refine G_icmp_geN (tgt := 144) (q := 7) dX10_readNumbers_4 (by decide) rfl (by omega) (by omega) (fun c4 => ?_) (fun c4 => ?_)
      · have e9 : many = kk := by omega
        subst e9
        refine G_iconst (v := nI 1) (q := 145) dX10_readNumbers_144 (by decide) rfl ?_
        exact G_iret dX10_readNumbers_145 rfl rfl (⟨_, _, v_t (by rw [hp]; rfl), rfl, fun p9 g9 h9 => by rw [hp] at h9; cases h9; exact ⟨rfl, hg⟩⟩)
      · have hpb := (pnN_bd hpa hp).2.1
        refine G_aload_n (q := 8) dX10_readNumbers_7 rfl 0 rfl rfl ?_
        refine G_aload_n (q := 9) dX10_readNumbers_8 rfl 0 rfl rfl ?_
        refine G_get (q := 12) dX10_readNumbers_9 0 rfl (show vwCl[10]? = some (RX10, TX10, 25) from rfl) 15 (by decide) in_X10_readNumbers_X10 fl_X10_readNumbers_86 rfl rfl ?_
        refine G_callVP (As := [.int (nI p)]) (rest := []) (st2 := [.int (ltI L ln p)]) (q := 15) dX10_readNumbers_12 [0, 1] (ct_X10_letterAt Z C E G sz ac kp ln p L p (hln) (hL) (by omega)) (fun h => h) cs_X10_letterAt gX10_readNumbers_X10_letterAt rfl ⟨Nat.le_of_ble_eq_true rfl, Nat.le_of_ble_eq_true rfl⟩ ⟨rfl, rfl⟩ 0 rfl (show vwCl[10]? = some (RX10, TX10, 25) from rfl) rfl (by decide) rfl rfl (Nat.le_of_ble_eq_true rfl) ⟨by decide, by decide⟩ rfl rfl ?_
        refine G_callSP (As := [.int (ltI L ln p)]) (rest := []) (st2 := [.int (bI (inB (ltI L ln p) (nI 48) (nI 57)))]) (q := 18) dX10_readNumbers_15 [] (ct_X10_isFigure Z (ltI L ln p)) (fun h => h) cs_X10_isFigure gX10_readNumbers_X10_isFigure ⟨Nat.le_of_ble_eq_true rfl, Nat.le_of_ble_eq_true rfl⟩ ⟨rfl, rfl⟩ rfl (by decide) rfl rfl (Nat.le_of_ble_eq_true rfl) ⟨by decide, by decide⟩ rfl rfl ?_
        rcases on_cases (figN L ln p) with ho | ⟨a, ho⟩
        · refine G_top (y := bI false) (congrArg bI (fig_no hL ho)) ?_
          have hno := pnN_f1 hp (numN_0 ho)
          refine G_if_neF (tgt := 23) (q := 21) dX10_readNumbers_18 (by decide) rfl (by decide) ?_
          refine G_iconst (v := nI 0) (q := 22) dX10_readNumbers_21 (by decide) rfl ?_
          exact G_iret dX10_readNumbers_22 rfl rfl (⟨_, _, congrArg (fun z => some (Value.int (bI z))) (pnN_no1 hno (by omega)).symm, rfl, fun p9 g9 h9 => by rw [pnN_no hno (by omega)] at h9; cases h9⟩)
        · have ha9 := (figN_lt ho).1
          have hpl := (figN_lt ho).2
          refine G_top (y := bI true) (congrArg bI (fig_y ho).1) ?_
          refine G_if_neT (tgt := 23) dX10_readNumbers_18 (by decide) (by decide) ?_
          refine G_aload_n (q := 24) dX10_readNumbers_23 rfl 0 rfl rfl ?_
          refine G_get (q := 27) dX10_readNumbers_24 0 rfl (show vwCl[10]? = some (RX10, TX10, 25) from rfl) 16 (by decide) in_X10_readNumbers_X10 fl_X10_readNumbers_34 rfl rfl ?_
          refine G_iload_n (q := 28) dX10_readNumbers_27 rfl 2 rfl rfl ?_
          refine G_aload_n (q := 29) dX10_readNumbers_28 rfl 0 rfl rfl ?_
          refine G_aload_n (q := 30) dX10_readNumbers_29 rfl 0 rfl rfl ?_
          refine G_get (q := 33) dX10_readNumbers_30 0 rfl (show vwCl[10]? = some (RX10, TX10, 25) from rfl) 15 (by decide) in_X10_readNumbers_X10 fl_X10_readNumbers_86 rfl rfl ?_
          refine G_callVP (As := [.int (nI p)]) (rest := [.int (nI kk), .ref (C 9)]) (st2 := [.int (ltI L ln p), .int (nI kk), .ref (C 9)]) (q := 36) dX10_readNumbers_33 [0, 1] (ct_X10_letterAt Z C E G sz ac kp ln p L p (hln) (hL) (by omega)) (fun h => h) cs_X10_letterAt gX10_readNumbers_X10_letterAt rfl ⟨Nat.le_of_ble_eq_true rfl, Nat.le_of_ble_eq_true rfl⟩ ⟨rfl, rfl⟩ 0 rfl (show vwCl[10]? = some (RX10, TX10, 25) from rfl) rfl (by decide) rfl rfl (Nat.le_of_ble_eq_true rfl) ⟨by decide, by decide⟩ rfl rfl ?_
          refine G_top (y := nI (48 + a)) ((fig_y ho).2) ?_
          refine G_bipush (v := nI 48) (q := 38) dX10_readNumbers_36 (by decide) rfl ?_
          refine G_isubN (a := (48 + a)) (b := 48) (q := 39) dX10_readNumbers_38 (by omega) rfl ?_
          refine G_top (y := nI a) (by rw [Nat.add_sub_cancel_left]) ?_
          refine G_iast (ws2 := [((C 0), .inr (10, [.int (nI (Fn E)), .ref (C 1), .int (nI (Fk E)), .ref (C 2), .int (nI (Fh E)), .ref (C 3), .ref (C 4), .int (nI ac), .ref (C 5), .int (nI kp), .ref (C 6), .int (nI sz), .ref (C 7), .ref (C 8), .int (nI ln), .int (nI p), .ref (C 9), .int (nI (Fn G)), .ref (C 10), .int (nI (Fk G)), .ref (C 11), .int (nI (Fdd G)), .int (nI (Fh G)), .ref (C 12), .ref (C 13)])), ((C 8), .inl (Z 0, 200, .inl (fun j_ => nI (L j_)))), ((C 9), .inl (Z 0, 3, .inl (upd (fun j_ => nI (t8 j_)) kk (nI a))))]) (q := 40) dX10_readNumbers_39 2 rfl kk (rfl) (by omega) (by omega) rfl rfl ?_
          refine GG.of (ws2 := [((C 0), .inr (10, [.int (nI (Fn E)), .ref (C 1), .int (nI (Fk E)), .ref (C 2), .int (nI (Fh E)), .ref (C 3), .ref (C 4), .int (nI ac), .ref (C 5), .int (nI kp), .ref (C 6), .int (nI sz), .ref (C 7), .ref (C 8), .int (nI ln), .int (nI p), .ref (C 9), .int (nI (Fn G)), .ref (C 10), .int (nI (Fk G)), .ref (C 11), .int (nI (Fdd G)), .int (nI (Fh G)), .ref (C 12), .ref (C 13)])), ((C 8), .inl (Z 0, 200, .inl (fun j_ => nI (L j_)))), ((C 9), .inl (Z 0, 3, .inl (fun j_ => nI ((updN t8 kk a) j_))))]) (ws_c (rfl) (ws_c (rfl) (ws_c (cell_i (updN_eq _ _ _)) (rfl)))) rfl rfl ?_
          refine G_aload_n (q := 41) dX10_readNumbers_40 rfl 0 rfl rfl ?_
          refine G_dup (q := 42) dX10_readNumbers_41 rfl rfl ?_
          refine G_get (q := 45) dX10_readNumbers_42 0 rfl (show vwCl[10]? = some (RX10, TX10, 25) from rfl) 15 (by decide) in_X10_readNumbers_X10 fl_X10_readNumbers_86 rfl rfl ?_
          refine G_iconst (v := nI 1) (q := 46) dX10_readNumbers_45 (by decide) rfl ?_
          refine G_iaddN (a := p) (b := 1) (q := 47) dX10_readNumbers_46 rfl ?_
          refine G_put (ws2 := [((C 0), .inr (10, [.int (nI (Fn E)), .ref (C 1), .int (nI (Fk E)), .ref (C 2), .int (nI (Fh E)), .ref (C 3), .ref (C 4), .int (nI ac), .ref (C 5), .int (nI kp), .ref (C 6), .int (nI sz), .ref (C 7), .ref (C 8), .int (nI ln), .int (nI (p + 1)), .ref (C 9), .int (nI (Fn G)), .ref (C 10), .int (nI (Fk G)), .ref (C 11), .int (nI (Fdd G)), .int (nI (Fh G)), .ref (C 12), .ref (C 13)])), ((C 8), .inl (Z 0, 200, .inl (fun j_ => nI (L j_)))), ((C 9), .inl (Z 0, 3, .inl (fun j_ => nI ((updN t8 kk a) j_))))]) (q := 50) dX10_readNumbers_47 0 rfl (show vwCl[10]? = some (RX10, TX10, 25) from rfl) cf_X10 15 (by decide) in_X10_readNumbers_X10 fl_X10_readNumbers_86 rfl (rfl) rfl (by simp only [List.length_cons, List.length_nil]; decide) rfl rfl ?_
          refine G_aload_n (q := 51) dX10_readNumbers_50 rfl 0 rfl rfl ?_
          refine G_aload_n (q := 52) dX10_readNumbers_51 rfl 0 rfl rfl ?_
          refine G_get (q := 55) dX10_readNumbers_52 0 rfl (show vwCl[10]? = some (RX10, TX10, 25) from rfl) 15 (by decide) in_X10_readNumbers_X10 fl_X10_readNumbers_86 rfl rfl ?_
          refine G_callVP (As := [.int (nI (p + 1))]) (rest := []) (st2 := [.int (ltI L ln (p + 1))]) (q := 58) dX10_readNumbers_55 [0, 1] (ct_X10_letterAt Z C E G sz ac kp ln (p + 1) L (p + 1) (hln) (hL) (by omega)) (fun h => h) cs_X10_letterAt gX10_readNumbers_X10_letterAt rfl ⟨Nat.le_of_ble_eq_true rfl, Nat.le_of_ble_eq_true rfl⟩ ⟨rfl, rfl⟩ 0 rfl (show vwCl[10]? = some (RX10, TX10, 25) from rfl) rfl (by decide) rfl rfl (Nat.le_of_ble_eq_true rfl) ⟨by decide, by decide⟩ rfl rfl ?_
          refine G_callSP (As := [.int (ltI L ln (p + 1))]) (rest := []) (st2 := [.int (bI (inB (ltI L ln (p + 1)) (nI 48) (nI 57)))]) (q := 61) dX10_readNumbers_58 [] (ct_X10_isFigure Z (ltI L ln (p + 1))) (fun h => h) cs_X10_isFigure gX10_readNumbers_X10_isFigure ⟨Nat.le_of_ble_eq_true rfl, Nat.le_of_ble_eq_true rfl⟩ ⟨rfl, rfl⟩ rfl (by decide) rfl rfl (Nat.le_of_ble_eq_true rfl) ⟨by decide, by decide⟩ rfl rfl ?_
          rcases on_cases (figN L ln (p + 1)) with ho2 | ⟨b, ho2⟩
          · refine G_top (y := bI false) (congrArg bI (fig_no hL ho2)) ?_
            have hnum := numN_1 ho ho2
            refine G_if_eqT (tgt := 101) dX10_readNumbers_61 (by decide) (by decide) ?_
            refine G_aload_n (q := 102) dX10_readNumbers_101 rfl 0 rfl rfl ?_
            refine G_aload_n (q := 103) dX10_readNumbers_102 rfl 0 rfl rfl ?_
            refine G_get (q := 106) dX10_readNumbers_103 0 rfl (show vwCl[10]? = some (RX10, TX10, 25) from rfl) 15 (by decide) in_X10_readNumbers_X10 fl_X10_readNumbers_86 rfl rfl ?_
            refine G_callVP (As := [.int (nI (p + 1))]) (rest := []) (st2 := [.int (ltI L ln (p + 1))]) (q := 109) dX10_readNumbers_106 [0, 1] (ct_X10_letterAt Z C E G sz ac kp ln (p + 1) L (p + 1) (hln) (hL) (by omega)) (fun h => h) cs_X10_letterAt gX10_readNumbers_X10_letterAt rfl ⟨Nat.le_of_ble_eq_true rfl, Nat.le_of_ble_eq_true rfl⟩ ⟨rfl, rfl⟩ 0 rfl (show vwCl[10]? = some (RX10, TX10, 25) from rfl) rfl (by decide) rfl rfl (Nat.le_of_ble_eq_true rfl) ⟨by decide, by decide⟩ rfl rfl ?_
            refine G_iload_n (q := 110) dX10_readNumbers_109 rfl 2 rfl rfl ?_
            refine G_iload_n (q := 111) dX10_readNumbers_110 rfl 1 rfl rfl ?_
            refine G_iconst (v := nI 1) (q := 112) dX10_readNumbers_111 (by decide) rfl ?_
            refine G_isubN (a := many) (b := 1) (q := 113) dX10_readNumbers_112 (by omega) rfl ?_
            have J123_2 : GG X ({ frames := 2, cells := 0, slots := 0, locals := 42 }) cX10_readNumbers 3 wsX10_readNumbers RX10 false false Z (fun v w => ∃ (t9 : Nat → Nat) (p9 : Nat), v = some (.int (bI (pnN L ln many pa many).isSome)) ∧ w = [((C 0), .inr (10, [.int (nI (Fn E)), .ref (C 1), .int (nI (Fk E)), .ref (C 2), .int (nI (Fh E)), .ref (C 3), .ref (C 4), .int (nI ac), .ref (C 5), .int (nI kp), .ref (C 6), .int (nI sz), .ref (C 7), .ref (C 8), .int (nI ln), .int (nI p9), .ref (C 9), .int (nI (Fn G)), .ref (C 10), .int (nI (Fk G)), .ref (C 11), .int (nI (Fdd G)), .int (nI (Fh G)), .ref (C 12), .ref (C 13)])), ((C 8), .inl (Z 0, 200, .inl (fun j_ => nI (L j_)))), ((C 9), .inl (Z 0, 3, .inl (fun j_ => nI (t9 j_))))] ∧ ∀ p g, pnN L ln many pa many = some (p, g) → p9 = p ∧ ∀ j, j < many → t9 j = g j) 0 0 0 0 [((C 0), .inr (10, [.int (nI (Fn E)), .ref (C 1), .int (nI (Fk E)), .ref (C 2), .int (nI (Fh E)), .ref (C 3), .ref (C 4), .int (nI ac), .ref (C 5), .int (nI kp), .ref (C 6), .int (nI sz), .ref (C 7), .ref (C 8), .int (nI ln), .int (nI (p + 1)), .ref (C 9), .int (nI (Fn G)), .ref (C 10), .int (nI (Fk G)), .ref (C 11), .int (nI (Fdd G)), .int (nI (Fh G)), .ref (C 12), .ref (C 13)])), ((C 8), .inl (Z 0, 200, .inl (fun j_ => nI (L j_)))), ((C 9), .inl (Z 0, 3, .inl (fun j_ => nI ((updN t8 kk a) j_))))] [(0, .ref (C 0)), (1, .int (nI many)), (2, .int (nI kk))] [.int (nI (sepN many kk)), .int (ltI L ln (p + 1))] 123 := by
              refine G_icmp_eq (tgt := 128) (q := 126) dX10_readNumbers_123 (by decide) rfl (fun c123 => ?_) (fun c123 => ?_)
              · have hsep := (lt_sep hL (by have := sepN_b many kk; omega)).mp c123
                refine G_aload_n (q := 129) dX10_readNumbers_128 rfl 0 rfl rfl ?_
                refine G_dup (q := 130) dX10_readNumbers_129 rfl rfl ?_
                refine G_get (q := 133) dX10_readNumbers_130 0 rfl (show vwCl[10]? = some (RX10, TX10, 25) from rfl) 15 (by decide) in_X10_readNumbers_X10 fl_X10_readNumbers_86 rfl rfl ?_
                refine G_iconst (v := nI 1) (q := 134) dX10_readNumbers_133 (by decide) rfl ?_
                refine G_iaddN (a := (p + 1)) (b := 1) (q := 135) dX10_readNumbers_134 rfl ?_
                refine G_put (ws2 := [((C 0), .inr (10, [.int (nI (Fn E)), .ref (C 1), .int (nI (Fk E)), .ref (C 2), .int (nI (Fh E)), .ref (C 3), .ref (C 4), .int (nI ac), .ref (C 5), .int (nI kp), .ref (C 6), .int (nI sz), .ref (C 7), .ref (C 8), .int (nI ln), .int (nI ((p + 1) + 1)), .ref (C 9), .int (nI (Fn G)), .ref (C 10), .int (nI (Fk G)), .ref (C 11), .int (nI (Fdd G)), .int (nI (Fh G)), .ref (C 12), .ref (C 13)])), ((C 8), .inl (Z 0, 200, .inl (fun j_ => nI (L j_)))), ((C 9), .inl (Z 0, 3, .inl (fun j_ => nI ((updN t8 kk a) j_))))]) (q := 138) dX10_readNumbers_135 0 rfl (show vwCl[10]? = some (RX10, TX10, 25) from rfl) cf_X10 15 (by decide) in_X10_readNumbers_X10 fl_X10_readNumbers_86 rfl (rfl) rfl (by simp only [List.length_cons, List.length_nil]; decide) rfl rfl ?_
                refine G_iincN (x := kk) (d := 1) (lv2 := [(0, .ref (C 0)), (1, .int (nI many)), (2, .int (nI (kk + 1)))]) (q := 141) dX10_readNumbers_138 2 rfl (by decide) (by decide) rfl rfl ?_
                refine G_goto (q := 2) dX10_readNumbers_141 (by decide) ?_
                refine GG.of (ws2 := [((C 0), .inr (10, [.int (nI (Fn E)), .ref (C 1), .int (nI (Fk E)), .ref (C 2), .int (nI (Fh E)), .ref (C 3), .ref (C 4), .int (nI ac), .ref (C 5), .int (nI kp), .ref (C 6), .int (nI sz), .ref (C 7), .ref (C 8), .int (nI ln), .int (nI (p + 1 + 1)), .ref (C 9), .int (nI (Fn G)), .ref (C 10), .int (nI (Fk G)), .ref (C 11), .int (nI (Fdd G)), .int (nI (Fh G)), .ref (C 12), .ref (C 13)])), ((C 8), .inl (Z 0, 200, .inl (fun j_ => nI (L j_)))), ((C 9), .inl (Z 0, 3, .inl (fun j_ => nI ((updN t8 kk a) j_))))]) (lv2 := [(0, .ref (C 0)), (1, .int (nI many)), (2, .int (nI (kk + 1)))]) (st2 := []) (ws_c (rfl) (ws_c (rfl) (ws_c (rfl) (rfl)))) (rfl) (rfl) ?_
                exact ih1 (kk + 1) (by omega) (by omega) (p + 1 + 1) (updN t8 kk a) (updN g kk a) (pnN_s hp hnum hsep) (fun j hj => by first | exact updN_ag hg hj | exact updN_ag2 hg hj)
              · have hno := pnN_f2 hp hnum (fun z => c123 ((lt_sep hL (by have := sepN_b many kk; omega)).mpr z))
                refine G_iconst (v := nI 0) (q := 127) dX10_readNumbers_126 (by decide) rfl ?_
                exact G_iret dX10_readNumbers_127 rfl rfl (⟨_, _, congrArg (fun z => some (Value.int (bI z))) (pnN_no1 hno (by omega)).symm, rfl, fun p9 g9 h9 => by rw [pnN_no hno (by omega)] at h9; cases h9⟩)
            refine G_icmp_geN (tgt := 121) (q := 116) dX10_readNumbers_113 (by decide) rfl (by omega) (by omega) (fun c113 => ?_) (fun c113 => ?_)
            · refine G_bipush (v := nI 59) (q := 123) dX10_readNumbers_121 (by decide) rfl ?_
              refine GG.of (ws2 := [((C 0), .inr (10, [.int (nI (Fn E)), .ref (C 1), .int (nI (Fk E)), .ref (C 2), .int (nI (Fh E)), .ref (C 3), .ref (C 4), .int (nI ac), .ref (C 5), .int (nI kp), .ref (C 6), .int (nI sz), .ref (C 7), .ref (C 8), .int (nI ln), .int (nI (p + 1)), .ref (C 9), .int (nI (Fn G)), .ref (C 10), .int (nI (Fk G)), .ref (C 11), .int (nI (Fdd G)), .int (nI (Fh G)), .ref (C 12), .ref (C 13)])), ((C 8), .inl (Z 0, 200, .inl (fun j_ => nI (L j_)))), ((C 9), .inl (Z 0, 3, .inl (fun j_ => nI ((updN t8 kk a) j_))))]) (lv2 := [(0, .ref (C 0)), (1, .int (nI many)), (2, .int (nI kk))]) (st2 := [.int (nI (sepN many kk)), .int (ltI L ln (p + 1))]) (rfl) (rfl) (st_c (vi_c (show nI 59 = nI (sepN many kk) from by first | (rw [sepN, if_pos (by omega)]) | (rw [sepN, if_neg (by omega)]))) (st_c rfl (rfl))) ?_
              exact J123_2
            · refine G_bipush (v := nI 44) (q := 118) dX10_readNumbers_116 (by decide) rfl ?_
              refine G_goto (q := 123) dX10_readNumbers_118 (by decide) ?_
              refine GG.of (ws2 := [((C 0), .inr (10, [.int (nI (Fn E)), .ref (C 1), .int (nI (Fk E)), .ref (C 2), .int (nI (Fh E)), .ref (C 3), .ref (C 4), .int (nI ac), .ref (C 5), .int (nI kp), .ref (C 6), .int (nI sz), .ref (C 7), .ref (C 8), .int (nI ln), .int (nI (p + 1)), .ref (C 9), .int (nI (Fn G)), .ref (C 10), .int (nI (Fk G)), .ref (C 11), .int (nI (Fdd G)), .int (nI (Fh G)), .ref (C 12), .ref (C 13)])), ((C 8), .inl (Z 0, 200, .inl (fun j_ => nI (L j_)))), ((C 9), .inl (Z 0, 3, .inl (fun j_ => nI ((updN t8 kk a) j_))))]) (lv2 := [(0, .ref (C 0)), (1, .int (nI many)), (2, .int (nI kk))]) (st2 := [.int (nI (sepN many kk)), .int (ltI L ln (p + 1))]) (rfl) (rfl) (st_c (vi_c (show nI 44 = nI (sepN many kk) from by first | (rw [sepN, if_pos (by omega)]) | (rw [sepN, if_neg (by omega)]))) (st_c rfl (rfl))) ?_
              exact J123_2
          · have hb9 := (figN_lt ho2).1
            have hpl2 := (figN_lt ho2).2
            have hnum := numN_2 ho ho2
            refine G_top (y := bI true) (congrArg bI (fig_y ho2).1) ?_
            refine G_if_eqF (tgt := 101) (q := 64) dX10_readNumbers_61 (by decide) rfl (by decide) ?_
            refine G_aload_n (q := 65) dX10_readNumbers_64 rfl 0 rfl rfl ?_
            refine G_get (q := 68) dX10_readNumbers_65 0 rfl (show vwCl[10]? = some (RX10, TX10, 25) from rfl) 16 (by decide) in_X10_readNumbers_X10 fl_X10_readNumbers_34 rfl rfl ?_
            refine G_iload_n (q := 69) dX10_readNumbers_68 rfl 2 rfl rfl ?_
            refine G_bipush (v := nI 10) (q := 71) dX10_readNumbers_69 (by decide) rfl ?_
            refine G_aload_n (q := 72) dX10_readNumbers_71 rfl 0 rfl rfl ?_
            refine G_get (q := 75) dX10_readNumbers_72 0 rfl (show vwCl[10]? = some (RX10, TX10, 25) from rfl) 16 (by decide) in_X10_readNumbers_X10 fl_X10_readNumbers_34 rfl rfl ?_
            refine G_iload_n (q := 76) dX10_readNumbers_75 rfl 2 rfl rfl ?_
            refine G_iald (q := 77) dX10_readNumbers_76 2 rfl kk (rfl) (by omega) (by omega) rfl ?_
            refine G_top (y := nI a) (by rw [updN_self]) ?_
            refine G_imulN (a := 10) (b := a) (q := 78) dX10_readNumbers_77 rfl ?_
            refine G_aload_n (q := 79) dX10_readNumbers_78 rfl 0 rfl rfl ?_
            refine G_aload_n (q := 80) dX10_readNumbers_79 rfl 0 rfl rfl ?_
            refine G_get (q := 83) dX10_readNumbers_80 0 rfl (show vwCl[10]? = some (RX10, TX10, 25) from rfl) 15 (by decide) in_X10_readNumbers_X10 fl_X10_readNumbers_86 rfl rfl ?_
            refine G_callVP (As := [.int (nI (p + 1))]) (rest := [.int (nI (10 * a)), .int (nI kk), .ref (C 9)]) (st2 := [.int (ltI L ln (p + 1)), .int (nI (10 * a)), .int (nI kk), .ref (C 9)]) (q := 86) dX10_readNumbers_83 [0, 1] (ct_X10_letterAt Z C E G sz ac kp ln (p + 1) L (p + 1) (hln) (hL) (by omega)) (fun h => h) cs_X10_letterAt gX10_readNumbers_X10_letterAt rfl ⟨Nat.le_of_ble_eq_true rfl, Nat.le_of_ble_eq_true rfl⟩ ⟨rfl, rfl⟩ 0 rfl (show vwCl[10]? = some (RX10, TX10, 25) from rfl) rfl (by decide) rfl rfl (Nat.le_of_ble_eq_true rfl) ⟨by decide, by decide⟩ rfl rfl ?_
            refine G_top (y := nI (48 + b)) ((fig_y ho2).2) ?_
            refine G_iaddN (a := (10 * a)) (b := (48 + b)) (q := 87) dX10_readNumbers_86 rfl ?_
            refine G_bipush (v := nI 48) (q := 89) dX10_readNumbers_87 (by decide) rfl ?_
            refine G_isubN (a := ((10 * a) + (48 + b))) (b := 48) (q := 90) dX10_readNumbers_89 (by omega) rfl ?_
            refine G_top (y := nI (10 * a + b)) (by rw [show 10 * a + (48 + b) - 48 = 10 * a + b by omega]) ?_
            refine G_iast (ws2 := [((C 0), .inr (10, [.int (nI (Fn E)), .ref (C 1), .int (nI (Fk E)), .ref (C 2), .int (nI (Fh E)), .ref (C 3), .ref (C 4), .int (nI ac), .ref (C 5), .int (nI kp), .ref (C 6), .int (nI sz), .ref (C 7), .ref (C 8), .int (nI ln), .int (nI (p + 1)), .ref (C 9), .int (nI (Fn G)), .ref (C 10), .int (nI (Fk G)), .ref (C 11), .int (nI (Fdd G)), .int (nI (Fh G)), .ref (C 12), .ref (C 13)])), ((C 8), .inl (Z 0, 200, .inl (fun j_ => nI (L j_)))), ((C 9), .inl (Z 0, 3, .inl (upd (fun j_ => nI ((updN t8 kk a) j_)) kk (nI (10 * a + b)))))]) (q := 91) dX10_readNumbers_90 2 rfl kk (rfl) (by omega) (by omega) rfl rfl ?_
            refine GG.of (ws2 := [((C 0), .inr (10, [.int (nI (Fn E)), .ref (C 1), .int (nI (Fk E)), .ref (C 2), .int (nI (Fh E)), .ref (C 3), .ref (C 4), .int (nI ac), .ref (C 5), .int (nI kp), .ref (C 6), .int (nI sz), .ref (C 7), .ref (C 8), .int (nI ln), .int (nI (p + 1)), .ref (C 9), .int (nI (Fn G)), .ref (C 10), .int (nI (Fk G)), .ref (C 11), .int (nI (Fdd G)), .int (nI (Fh G)), .ref (C 12), .ref (C 13)])), ((C 8), .inl (Z 0, 200, .inl (fun j_ => nI (L j_)))), ((C 9), .inl (Z 0, 3, .inl (fun j_ => nI ((updN (updN t8 kk a) kk (10 * a + b)) j_))))]) (ws_c (rfl) (ws_c (rfl) (ws_c (cell_i (updN_eq _ _ _)) (rfl)))) rfl rfl ?_
            refine G_aload_n (q := 92) dX10_readNumbers_91 rfl 0 rfl rfl ?_
            refine G_dup (q := 93) dX10_readNumbers_92 rfl rfl ?_
            refine G_get (q := 96) dX10_readNumbers_93 0 rfl (show vwCl[10]? = some (RX10, TX10, 25) from rfl) 15 (by decide) in_X10_readNumbers_X10 fl_X10_readNumbers_86 rfl rfl ?_
            refine G_iconst (v := nI 1) (q := 97) dX10_readNumbers_96 (by decide) rfl ?_
            refine G_iaddN (a := (p + 1)) (b := 1) (q := 98) dX10_readNumbers_97 rfl ?_
            refine G_put (ws2 := [((C 0), .inr (10, [.int (nI (Fn E)), .ref (C 1), .int (nI (Fk E)), .ref (C 2), .int (nI (Fh E)), .ref (C 3), .ref (C 4), .int (nI ac), .ref (C 5), .int (nI kp), .ref (C 6), .int (nI sz), .ref (C 7), .ref (C 8), .int (nI ln), .int (nI ((p + 1) + 1)), .ref (C 9), .int (nI (Fn G)), .ref (C 10), .int (nI (Fk G)), .ref (C 11), .int (nI (Fdd G)), .int (nI (Fh G)), .ref (C 12), .ref (C 13)])), ((C 8), .inl (Z 0, 200, .inl (fun j_ => nI (L j_)))), ((C 9), .inl (Z 0, 3, .inl (fun j_ => nI ((updN (updN t8 kk a) kk (10 * a + b)) j_))))]) (q := 101) dX10_readNumbers_98 0 rfl (show vwCl[10]? = some (RX10, TX10, 25) from rfl) cf_X10 15 (by decide) in_X10_readNumbers_X10 fl_X10_readNumbers_86 rfl (rfl) rfl (by simp only [List.length_cons, List.length_nil]; decide) rfl rfl ?_
            refine G_aload_n (q := 102) dX10_readNumbers_101 rfl 0 rfl rfl ?_
            refine G_aload_n (q := 103) dX10_readNumbers_102 rfl 0 rfl rfl ?_
            refine G_get (q := 106) dX10_readNumbers_103 0 rfl (show vwCl[10]? = some (RX10, TX10, 25) from rfl) 15 (by decide) in_X10_readNumbers_X10 fl_X10_readNumbers_86 rfl rfl ?_
            refine G_callVP (As := [.int (nI ((p + 1) + 1))]) (rest := []) (st2 := [.int (ltI L ln ((p + 1) + 1))]) (q := 109) dX10_readNumbers_106 [0, 1] (ct_X10_letterAt Z C E G sz ac kp ln ((p + 1) + 1) L ((p + 1) + 1) (hln) (hL) (by omega)) (fun h => h) cs_X10_letterAt gX10_readNumbers_X10_letterAt rfl ⟨Nat.le_of_ble_eq_true rfl, Nat.le_of_ble_eq_true rfl⟩ ⟨rfl, rfl⟩ 0 rfl (show vwCl[10]? = some (RX10, TX10, 25) from rfl) rfl (by decide) rfl rfl (Nat.le_of_ble_eq_true rfl) ⟨by decide, by decide⟩ rfl rfl ?_
            refine G_iload_n (q := 110) dX10_readNumbers_109 rfl 2 rfl rfl ?_
            refine G_iload_n (q := 111) dX10_readNumbers_110 rfl 1 rfl rfl ?_
            refine G_iconst (v := nI 1) (q := 112) dX10_readNumbers_111 (by decide) rfl ?_
            refine G_isubN (a := many) (b := 1) (q := 113) dX10_readNumbers_112 (by omega) rfl ?_
            have J123_3 : GG X ({ frames := 2, cells := 0, slots := 0, locals := 42 }) cX10_readNumbers 3 wsX10_readNumbers RX10 false false Z (fun v w => ∃ (t9 : Nat → Nat) (p9 : Nat), v = some (.int (bI (pnN L ln many pa many).isSome)) ∧ w = [((C 0), .inr (10, [.int (nI (Fn E)), .ref (C 1), .int (nI (Fk E)), .ref (C 2), .int (nI (Fh E)), .ref (C 3), .ref (C 4), .int (nI ac), .ref (C 5), .int (nI kp), .ref (C 6), .int (nI sz), .ref (C 7), .ref (C 8), .int (nI ln), .int (nI p9), .ref (C 9), .int (nI (Fn G)), .ref (C 10), .int (nI (Fk G)), .ref (C 11), .int (nI (Fdd G)), .int (nI (Fh G)), .ref (C 12), .ref (C 13)])), ((C 8), .inl (Z 0, 200, .inl (fun j_ => nI (L j_)))), ((C 9), .inl (Z 0, 3, .inl (fun j_ => nI (t9 j_))))] ∧ ∀ p g, pnN L ln many pa many = some (p, g) → p9 = p ∧ ∀ j, j < many → t9 j = g j) 0 0 0 0 [((C 0), .inr (10, [.int (nI (Fn E)), .ref (C 1), .int (nI (Fk E)), .ref (C 2), .int (nI (Fh E)), .ref (C 3), .ref (C 4), .int (nI ac), .ref (C 5), .int (nI kp), .ref (C 6), .int (nI sz), .ref (C 7), .ref (C 8), .int (nI ln), .int (nI ((p + 1) + 1)), .ref (C 9), .int (nI (Fn G)), .ref (C 10), .int (nI (Fk G)), .ref (C 11), .int (nI (Fdd G)), .int (nI (Fh G)), .ref (C 12), .ref (C 13)])), ((C 8), .inl (Z 0, 200, .inl (fun j_ => nI (L j_)))), ((C 9), .inl (Z 0, 3, .inl (fun j_ => nI ((updN (updN t8 kk a) kk (10 * a + b)) j_))))] [(0, .ref (C 0)), (1, .int (nI many)), (2, .int (nI kk))] [.int (nI (sepN many kk)), .int (ltI L ln ((p + 1) + 1))] 123 := by
              refine G_icmp_eq (tgt := 128) (q := 126) dX10_readNumbers_123 (by decide) rfl (fun c123 => ?_) (fun c123 => ?_)
              · have hsep := (lt_sep hL (by have := sepN_b many kk; omega)).mp c123
                refine G_aload_n (q := 129) dX10_readNumbers_128 rfl 0 rfl rfl ?_
                refine G_dup (q := 130) dX10_readNumbers_129 rfl rfl ?_
                refine G_get (q := 133) dX10_readNumbers_130 0 rfl (show vwCl[10]? = some (RX10, TX10, 25) from rfl) 15 (by decide) in_X10_readNumbers_X10 fl_X10_readNumbers_86 rfl rfl ?_
                refine G_iconst (v := nI 1) (q := 134) dX10_readNumbers_133 (by decide) rfl ?_
                refine G_iaddN (a := ((p + 1) + 1)) (b := 1) (q := 135) dX10_readNumbers_134 rfl ?_
                refine G_put (ws2 := [((C 0), .inr (10, [.int (nI (Fn E)), .ref (C 1), .int (nI (Fk E)), .ref (C 2), .int (nI (Fh E)), .ref (C 3), .ref (C 4), .int (nI ac), .ref (C 5), .int (nI kp), .ref (C 6), .int (nI sz), .ref (C 7), .ref (C 8), .int (nI ln), .int (nI (((p + 1) + 1) + 1)), .ref (C 9), .int (nI (Fn G)), .ref (C 10), .int (nI (Fk G)), .ref (C 11), .int (nI (Fdd G)), .int (nI (Fh G)), .ref (C 12), .ref (C 13)])), ((C 8), .inl (Z 0, 200, .inl (fun j_ => nI (L j_)))), ((C 9), .inl (Z 0, 3, .inl (fun j_ => nI ((updN (updN t8 kk a) kk (10 * a + b)) j_))))]) (q := 138) dX10_readNumbers_135 0 rfl (show vwCl[10]? = some (RX10, TX10, 25) from rfl) cf_X10 15 (by decide) in_X10_readNumbers_X10 fl_X10_readNumbers_86 rfl (rfl) rfl (by simp only [List.length_cons, List.length_nil]; decide) rfl rfl ?_
                refine G_iincN (x := kk) (d := 1) (lv2 := [(0, .ref (C 0)), (1, .int (nI many)), (2, .int (nI (kk + 1)))]) (q := 141) dX10_readNumbers_138 2 rfl (by decide) (by decide) rfl rfl ?_
                refine G_goto (q := 2) dX10_readNumbers_141 (by decide) ?_
                refine GG.of (ws2 := [((C 0), .inr (10, [.int (nI (Fn E)), .ref (C 1), .int (nI (Fk E)), .ref (C 2), .int (nI (Fh E)), .ref (C 3), .ref (C 4), .int (nI ac), .ref (C 5), .int (nI kp), .ref (C 6), .int (nI sz), .ref (C 7), .ref (C 8), .int (nI ln), .int (nI (p + 1 + 1 + 1)), .ref (C 9), .int (nI (Fn G)), .ref (C 10), .int (nI (Fk G)), .ref (C 11), .int (nI (Fdd G)), .int (nI (Fh G)), .ref (C 12), .ref (C 13)])), ((C 8), .inl (Z 0, 200, .inl (fun j_ => nI (L j_)))), ((C 9), .inl (Z 0, 3, .inl (fun j_ => nI ((updN (updN t8 kk a) kk (10 * a + b)) j_))))]) (lv2 := [(0, .ref (C 0)), (1, .int (nI many)), (2, .int (nI (kk + 1)))]) (st2 := []) (ws_c (rfl) (ws_c (rfl) (ws_c (rfl) (rfl)))) (rfl) (rfl) ?_
                exact ih1 (kk + 1) (by omega) (by omega) (p + 1 + 1 + 1) (updN (updN t8 kk a) kk (10 * a + b)) (updN g kk (10 * a + b)) (pnN_s hp hnum hsep) (fun j hj => by first | exact updN_ag hg hj | exact updN_ag2 hg hj)
              · have hno := pnN_f2 hp hnum (fun z => c123 ((lt_sep hL (by have := sepN_b many kk; omega)).mpr z))
                refine G_iconst (v := nI 0) (q := 127) dX10_readNumbers_126 (by decide) rfl ?_
                exact G_iret dX10_readNumbers_127 rfl rfl (⟨_, _, congrArg (fun z => some (Value.int (bI z))) (pnN_no1 hno (by omega)).symm, rfl, fun p9 g9 h9 => by rw [pnN_no hno (by omega)] at h9; cases h9⟩)
            refine G_icmp_geN (tgt := 121) (q := 116) dX10_readNumbers_113 (by decide) rfl (by omega) (by omega) (fun c113 => ?_) (fun c113 => ?_)
            · refine G_bipush (v := nI 59) (q := 123) dX10_readNumbers_121 (by decide) rfl ?_
              refine GG.of (ws2 := [((C 0), .inr (10, [.int (nI (Fn E)), .ref (C 1), .int (nI (Fk E)), .ref (C 2), .int (nI (Fh E)), .ref (C 3), .ref (C 4), .int (nI ac), .ref (C 5), .int (nI kp), .ref (C 6), .int (nI sz), .ref (C 7), .ref (C 8), .int (nI ln), .int (nI ((p + 1) + 1)), .ref (C 9), .int (nI (Fn G)), .ref (C 10), .int (nI (Fk G)), .ref (C 11), .int (nI (Fdd G)), .int (nI (Fh G)), .ref (C 12), .ref (C 13)])), ((C 8), .inl (Z 0, 200, .inl (fun j_ => nI (L j_)))), ((C 9), .inl (Z 0, 3, .inl (fun j_ => nI ((updN (updN t8 kk a) kk (10 * a + b)) j_))))]) (lv2 := [(0, .ref (C 0)), (1, .int (nI many)), (2, .int (nI kk))]) (st2 := [.int (nI (sepN many kk)), .int (ltI L ln ((p + 1) + 1))]) (rfl) (rfl) (st_c (vi_c (show nI 59 = nI (sepN many kk) from by first | (rw [sepN, if_pos (by omega)]) | (rw [sepN, if_neg (by omega)]))) (st_c rfl (rfl))) ?_
              exact J123_3
            · refine G_bipush (v := nI 44) (q := 118) dX10_readNumbers_116 (by decide) rfl ?_
              refine G_goto (q := 123) dX10_readNumbers_118 (by decide) ?_
              refine GG.of (ws2 := [((C 0), .inr (10, [.int (nI (Fn E)), .ref (C 1), .int (nI (Fk E)), .ref (C 2), .int (nI (Fh E)), .ref (C 3), .ref (C 4), .int (nI ac), .ref (C 5), .int (nI kp), .ref (C 6), .int (nI sz), .ref (C 7), .ref (C 8), .int (nI ln), .int (nI ((p + 1) + 1)), .ref (C 9), .int (nI (Fn G)), .ref (C 10), .int (nI (Fk G)), .ref (C 11), .int (nI (Fdd G)), .int (nI (Fh G)), .ref (C 12), .ref (C 13)])), ((C 8), .inl (Z 0, 200, .inl (fun j_ => nI (L j_)))), ((C 9), .inl (Z 0, 3, .inl (fun j_ => nI ((updN (updN t8 kk a) kk (10 * a + b)) j_))))]) (lv2 := [(0, .ref (C 0)), (1, .int (nI many)), (2, .int (nI kk))]) (st2 := [.int (nI (sepN many kk)), .int (ltI L ln ((p + 1) + 1))]) (rfl) (rfl) (st_c (vi_c (show nI 44 = nI (sepN many kk) from by first | (rw [sepN, if_pos (by omega)]) | (rw [sepN, if_neg (by omega)]))) (st_c rfl (rfl))) ?_
              exact J123_3
  exact L2_1 (many + 1) (0) (Nat.zero_le _) (by omega) pa tg (fun _ => 0) (rfl) (fun j hj => absurd hj (Nat.not_lt_zero j))
theorem cs_X10_readRelativeOf : CS yX10_readRelativeOf wsX10_readRelativeOf cX10_readRelativeOf 1 (some .boolean) 0 := ⟨⟨_, rfl⟩, by decide +kernel, by decide +kernel, by decide +kernel⟩
theorem fl_X10_readRelativeOf_34 : Cond.fieldLink RX10 34 (TX10 16).1 (TX10 16).2.1 (TX10 16).2.2.1 ∈ wsX10_readRelativeOf := by decide +kernel
theorem fl_X10_readRelativeOf_70 : Cond.fieldLink RX10 70 (TX10 17).1 (TX10 17).2.1 (TX10 17).2.2.1 ∈ wsX10_readRelativeOf := by decide +kernel
theorem in_X10_readRelativeOf_X10 : ∀ w ∈ u_ws RX10 TX10 25, w ∈ wsX10_readRelativeOf := by decide +kernel
set_option maxHeartbeats 4000000 in
set_option maxRecDepth 100000 in
theorem ct_X10_readRelativeOf (Z : Nat → ClassId) (C : Nat → Nat) (E : FS) (G : FS) (sz : Nat) (ac : Nat) (kp : Nat) (ln : Nat) (pa : Nat) (L : Nat → Nat) (tg : Nat → Nat) (hln : ln ≤ 200) (hL : ∀ j, L j < 128) (hG : okF G) (hpa : pa ≤ ln): Ct false yX10_readRelativeOf wsX10_readRelativeOf ({ frames := 3, cells := 0, slots := 0, locals := 64 }) [.ref (C 0)] Z [((C 0), .inr (10, [.int (nI (Fn E)), .ref (C 1), .int (nI (Fk E)), .ref (C 2), .int (nI (Fh E)), .ref (C 3), .ref (C 4), .int (nI ac), .ref (C 5), .int (nI kp), .ref (C 6), .int (nI sz), .ref (C 7), .ref (C 8), .int (nI ln), .int (nI pa), .ref (C 9), .int (nI (Fn G)), .ref (C 10), .int (nI (Fk G)), .ref (C 11), .int (nI (Fdd G)), .int (nI (Fh G)), .ref (C 12), .ref (C 13)])), ((C 8), .inl (Z 0, 200, .inl (fun j_ => nI (L j_)))), ((C 9), .inl (Z 0, 3, .inl (fun j_ => nI (tg j_)))), ((C 10), .inl (Z 0, 18, .inl (fun j_ => nI ((rrN G) j_))))] (fun v w => ∃ (t9 : Nat → Nat) (p9 : Nat), v = some (.int (bI (itR L ln pa G 114).isSome)) ∧ w = [((C 0), .inr (10, [.int (nI (Fn E)), .ref (C 1), .int (nI (Fk E)), .ref (C 2), .int (nI (Fh E)), .ref (C 3), .ref (C 4), .int (nI ac), .ref (C 5), .int (nI kp), .ref (C 6), .int (nI sz), .ref (C 7), .ref (C 8), .int (nI ln), .int (nI p9), .ref (C 9), .int (nI (Fn (((itR L ln pa G 114).map (fun x => x.1)).getD G))), .ref (C 10), .int (nI (Fk (((itR L ln pa G 114).map (fun x => x.1)).getD G))), .ref (C 11), .int (nI (Fdd (((itR L ln pa G 114).map (fun x => x.1)).getD G))), .int (nI (Fh (((itR L ln pa G 114).map (fun x => x.1)).getD G))), .ref (C 12), .ref (C 13)])), ((C 8), .inl (Z 0, 200, .inl (fun j_ => nI (L j_)))), ((C 9), .inl (Z 0, 3, .inl (fun j_ => nI (t9 j_)))), ((C 10), .inl (Z 0, 18, .inl (fun j_ => nI ((rrN (((itR L ln pa G 114).map (fun x => x.1)).getD G)) j_))))] ∧ ∀ x, itR L ln pa G 114 = some x → p9 = x.2) 0 0 := by
  obtain ⟨gn, gk, gkd, gag, gml, gtp, gdd, gh⟩ := id hG
  refine Ct_of (cc := cX10_readRelativeOf) (maxL := 1) (ret := (some .boolean)) (own := RX10) false false (by decide +kernel) rfl rfl (by decide) (fun v w h9 => by obtain ⟨t9, p9, rfl, -⟩ := h9; exact ⟨_, rfl, bI_01 _⟩) (Nat.le_of_ble_eq_true rfl) (fun X => ?_)
  show GG X _ _ _ _ _ _ _ _ _ _ _ _ _ _ [(0, .ref (C 0))] _ _
  refine G_aload_n (q := 1) dX10_readRelativeOf_0 rfl 0 rfl rfl ?_
  refine G_get (q := 4) dX10_readRelativeOf_1 0 rfl (show vwCl[10]? = some (RX10, TX10, 25) from rfl) 17 (by decide) in_X10_readRelativeOf_X10 fl_X10_readRelativeOf_70 rfl rfl ?_
  refine G_bipush (v := nI 6) (q := 6) dX10_readRelativeOf_4 (by decide) rfl ?_
  refine G_icmp_eqN (tgt := 49) (q := 9) dX10_readRelativeOf_6 (by decide) rfl (by omega) (by omega) (fun c6 => ?_) (fun c6 => ?_)
  · have hI : itR L ln pa G 114 = none := itR_n (fun g => by unfold addF; rw [if_pos rfl, if_neg (by omega)])
    refine G_iconst (v := nI 0) (q := 50) dX10_readRelativeOf_49 (by decide) rfl ?_
    exact G_iret dX10_readRelativeOf_50 rfl rfl (⟨_, _, v_f (by rw [hI]; rfl), by rw [hI]; rfl, fun x hx => by rw [hI] at hx; cases hx⟩)
  · refine G_aload_n (q := 10) dX10_readRelativeOf_9 rfl 0 rfl rfl ?_
    refine G_iconst (v := nI 3) (q := 11) dX10_readRelativeOf_10 (by decide) rfl ?_
    refine G_callV (As := [.int (nI 3)]) (rest := []) (q := 14) dX10_readRelativeOf_11 [0, 1, 2] (ct_X10_readNumbers Z C E G sz ac kp ln pa L tg 3 (hln) (hL) (hpa) (by decide)) (fun h => h) cs_X10_readNumbers gX10_readRelativeOf_X10_readNumbers rfl ⟨Nat.le_of_ble_eq_true rfl, Nat.le_of_ble_eq_true rfl⟩ ⟨rfl, rfl⟩ 0 rfl (show vwCl[10]? = some (RX10, TX10, 25) from rfl) rfl (by decide) rfl rfl (Nat.le_of_ble_eq_true rfl) ⟨by decide, by decide⟩ (fun v w h9 => by obtain ⟨t9, p9, rfl, rfl, -⟩ := h9; rfl) rfl (fun v9 w9 h9 => ?_)
    obtain ⟨t8, p8, rfl, rfl, hn8⟩ := h9
    refine GG.of (ws2 := [((C 0), .inr (10, [.int (nI (Fn E)), .ref (C 1), .int (nI (Fk E)), .ref (C 2), .int (nI (Fh E)), .ref (C 3), .ref (C 4), .int (nI ac), .ref (C 5), .int (nI kp), .ref (C 6), .int (nI sz), .ref (C 7), .ref (C 8), .int (nI ln), .int (nI p8), .ref (C 9), .int (nI (Fn G)), .ref (C 10), .int (nI (Fk G)), .ref (C 11), .int (nI (Fdd G)), .int (nI (Fh G)), .ref (C 12), .ref (C 13)])), ((C 8), .inl (Z 0, 200, .inl (fun j_ => nI (L j_)))), ((C 9), .inl (Z 0, 3, .inl (fun j_ => nI (t8 j_)))), ((C 10), .inl (Z 0, 18, .inl (fun j_ => nI ((rrN G) j_))))]) (st2 := [.int (bI ((pnN L ln 3 pa 3).isSome))]) rfl rfl rfl ?_
    rcases pn_cases (L := L) (ln := ln) (many := 3) (p0 := pa) 3 with ho | ⟨q, g, ho⟩
    · have hI : itR L ln pa G 114 = none := itR_0 ho
      refine G_top (y := bI false) (by rw [ho]; rfl) ?_
      refine G_if_eqT (tgt := 49) dX10_readRelativeOf_14 (by decide) (by decide) ?_
      refine G_iconst (v := nI 0) (q := 50) dX10_readRelativeOf_49 (by decide) rfl ?_
      exact G_iret dX10_readRelativeOf_50 rfl rfl (⟨_, _, v_f (by rw [hI]; rfl), by rw [hI]; rfl, fun x hx => by rw [hI] at hx; cases hx⟩)
    · obtain ⟨e8, hg8⟩ := hn8 q g ho
      have hgb := (pnN_bd hpa ho).1
      have h_0 := hg8 0 (by decide)
      have b_0 := hgb 0
      have h_1 := hg8 1 (by decide)
      have b_1 := hgb 1
      have h_2 := hg8 2 (by decide)
      have b_2 := hgb 2
      refine G_top (y := bI true) (by rw [ho]; rfl) ?_
      refine G_if_eqF (tgt := 49) (q := 17) dX10_readRelativeOf_14 (by decide) rfl (by decide) ?_
      refine G_aload_n (q := 18) dX10_readRelativeOf_17 rfl 0 rfl rfl ?_
      refine G_iconst (v := nI 0) (q := 19) dX10_readRelativeOf_18 (by decide) rfl ?_
      refine G_iconst (v := nI 0) (q := 20) dX10_readRelativeOf_19 (by decide) rfl ?_
      refine G_iconst (v := nI 4) (q := 21) dX10_readRelativeOf_20 (by decide) rfl ?_
      refine G_callVP (As := [.int (nI 0), .int (nI 0), .int (nI 4)]) (rest := []) (st2 := [.int (bI (inB (nI (t8 0)) (nI 0) (nI 4)))]) (q := 24) dX10_readRelativeOf_21 [0, 2] (ct_X10_isTold Z C E G sz ac kp ln p8 t8 0 0 4 (by omega)) (fun h => h) cs_X10_isTold gX10_readRelativeOf_X10_isTold rfl ⟨Nat.le_of_ble_eq_true rfl, Nat.le_of_ble_eq_true rfl⟩ ⟨rfl, rfl⟩ 0 rfl (show vwCl[10]? = some (RX10, TX10, 25) from rfl) rfl (by decide) rfl rfl (Nat.le_of_ble_eq_true rfl) ⟨by decide, by decide⟩ rfl rfl ?_
      rcases Decidable.em (0 ≤ t8 0 ∧ t8 0 ≤ 4) with hr0 | hr0
      · refine G_top (y := bI true) (congrArg bI (inB_y (by omega) (by decide) hr0)) ?_
        refine G_if_eqF (tgt := 49) (q := 27) dX10_readRelativeOf_24 (by decide) rfl (by decide) ?_
        refine G_aload_n (q := 28) dX10_readRelativeOf_27 rfl 0 rfl rfl ?_
        refine G_iconst (v := nI 1) (q := 29) dX10_readRelativeOf_28 (by decide) rfl ?_
        refine G_iconst (v := nI 0) (q := 30) dX10_readRelativeOf_29 (by decide) rfl ?_
        refine G_bipush (v := nI 99) (q := 32) dX10_readRelativeOf_30 (by decide) rfl ?_
        refine G_callVP (As := [.int (nI 1), .int (nI 0), .int (nI 99)]) (rest := []) (st2 := [.int (bI (inB (nI (t8 1)) (nI 0) (nI 99)))]) (q := 35) dX10_readRelativeOf_32 [0, 2] (ct_X10_isTold Z C E G sz ac kp ln p8 t8 1 0 99 (by omega)) (fun h => h) cs_X10_isTold gX10_readRelativeOf_X10_isTold rfl ⟨Nat.le_of_ble_eq_true rfl, Nat.le_of_ble_eq_true rfl⟩ ⟨rfl, rfl⟩ 0 rfl (show vwCl[10]? = some (RX10, TX10, 25) from rfl) rfl (by decide) rfl rfl (Nat.le_of_ble_eq_true rfl) ⟨by decide, by decide⟩ rfl rfl ?_
        rcases Decidable.em (0 ≤ t8 1 ∧ t8 1 ≤ 99) with hr1 | hr1
        · refine G_top (y := bI true) (congrArg bI (inB_y (by omega) (by decide) hr1)) ?_
          refine G_if_eqF (tgt := 49) (q := 38) dX10_readRelativeOf_35 (by decide) rfl (by decide) ?_
          refine G_aload_n (q := 39) dX10_readRelativeOf_38 rfl 0 rfl rfl ?_
          refine G_iconst (v := nI 2) (q := 40) dX10_readRelativeOf_39 (by decide) rfl ?_
          refine G_iconst (v := nI 0) (q := 41) dX10_readRelativeOf_40 (by decide) rfl ?_
          refine G_bipush (v := nI 9) (q := 43) dX10_readRelativeOf_41 (by decide) rfl ?_
          refine G_callVP (As := [.int (nI 2), .int (nI 0), .int (nI 9)]) (rest := []) (st2 := [.int (bI (inB (nI (t8 2)) (nI 0) (nI 9)))]) (q := 46) dX10_readRelativeOf_43 [0, 2] (ct_X10_isTold Z C E G sz ac kp ln p8 t8 2 0 9 (by omega)) (fun h => h) cs_X10_isTold gX10_readRelativeOf_X10_isTold rfl ⟨Nat.le_of_ble_eq_true rfl, Nat.le_of_ble_eq_true rfl⟩ ⟨rfl, rfl⟩ 0 rfl (show vwCl[10]? = some (RX10, TX10, 25) from rfl) rfl (by decide) rfl rfl (Nat.le_of_ble_eq_true rfl) ⟨by decide, by decide⟩ rfl rfl ?_
          rcases Decidable.em (0 ≤ t8 2 ∧ t8 2 ≤ 9) with hr2 | hr2
          · have hI : itR L ln pa G 114 = some (addR G g, q) := itR_2 ho (by unfold addF; rw [if_pos rfl, if_pos (by omega)])
            refine G_top (y := bI true) (congrArg bI (inB_y (by omega) (by decide) hr2)) ?_
            refine G_if_neT (tgt := 51) dX10_readRelativeOf_46 (by decide) (by decide) ?_
            refine G_aload_n (q := 52) dX10_readRelativeOf_51 rfl 0 rfl rfl ?_
            refine G_aload_n (q := 53) dX10_readRelativeOf_52 rfl 0 rfl rfl ?_
            refine G_get (q := 56) dX10_readRelativeOf_53 0 rfl (show vwCl[10]? = some (RX10, TX10, 25) from rfl) 16 (by decide) in_X10_readRelativeOf_X10 fl_X10_readRelativeOf_34 rfl rfl ?_
            refine G_iconst (v := nI 0) (q := 57) dX10_readRelativeOf_56 (by decide) rfl ?_
            refine G_iald (q := 58) dX10_readRelativeOf_57 2 rfl 0 (rfl) (by omega) (by omega) rfl ?_
            refine G_aload_n (q := 59) dX10_readRelativeOf_58 rfl 0 rfl rfl ?_
            refine G_get (q := 62) dX10_readRelativeOf_59 0 rfl (show vwCl[10]? = some (RX10, TX10, 25) from rfl) 16 (by decide) in_X10_readRelativeOf_X10 fl_X10_readRelativeOf_34 rfl rfl ?_
            refine G_iconst (v := nI 1) (q := 63) dX10_readRelativeOf_62 (by decide) rfl ?_
            refine G_iald (q := 64) dX10_readRelativeOf_63 2 rfl 1 (rfl) (by omega) (by omega) rfl ?_
            refine G_aload_n (q := 65) dX10_readRelativeOf_64 rfl 0 rfl rfl ?_
            refine G_get (q := 68) dX10_readRelativeOf_65 0 rfl (show vwCl[10]? = some (RX10, TX10, 25) from rfl) 16 (by decide) in_X10_readRelativeOf_X10 fl_X10_readRelativeOf_34 rfl rfl ?_
            refine G_iconst (v := nI 2) (q := 69) dX10_readRelativeOf_68 (by decide) rfl ?_
            refine G_iald (q := 70) dX10_readRelativeOf_69 2 rfl 2 (rfl) (by omega) (by omega) rfl ?_
            refine G_callVX (As := [.int (nI (t8 0)), .int (nI (t8 1)), .int (nI (t8 2))]) (rest := []) (st2 := []) (ws2 := [((C 0), .inr (10, [.int (nI (Fn E)), .ref (C 1), .int (nI (Fk E)), .ref (C 2), .int (nI (Fh E)), .ref (C 3), .ref (C 4), .int (nI ac), .ref (C 5), .int (nI kp), .ref (C 6), .int (nI sz), .ref (C 7), .ref (C 8), .int (nI ln), .int (nI p8), .ref (C 9), .int (nI (Fn (addR3 G (t8 0) (t8 1) (t8 2)))), .ref (C 10), .int (nI (Fk (addR3 G (t8 0) (t8 1) (t8 2)))), .ref (C 11), .int (nI (Fdd (addR3 G (t8 0) (t8 1) (t8 2)))), .int (nI (Fh (addR3 G (t8 0) (t8 1) (t8 2)))), .ref (C 12), .ref (C 13)])), ((C 8), .inl (Z 0, 200, .inl (fun j_ => nI (L j_)))), ((C 9), .inl (Z 0, 3, .inl (fun j_ => nI (t8 j_)))), ((C 10), .inl (Z 0, 18, .inl (fun j_ => nI ((rrN (addR3 G (t8 0) (t8 1) (t8 2))) j_))))]) (q := 73) dX10_readRelativeOf_70 [0, 3] (ct_X10_tellsRelative Z C E G sz ac kp ln p8 (t8 0) (t8 1) (t8 2) (by omega)) (fun h => h) cs_X10_tellsRelative gX10_readRelativeOf_X10_tellsRelative rfl ⟨Nat.le_of_ble_eq_true rfl, Nat.le_of_ble_eq_true rfl⟩ ⟨rfl, rfl⟩ 0 rfl (show vwCl[10]? = some (RX10, TX10, 25) from rfl) rfl (by decide) rfl rfl (Nat.le_of_ble_eq_true rfl) ⟨by decide, by decide⟩ rfl rfl rfl rfl ?_
            refine G_iconst (v := nI 1) (q := 74) dX10_readRelativeOf_73 (by decide) rfl ?_
            exact G_iret dX10_readRelativeOf_74 rfl rfl (⟨_, _, v_t (by rw [hI]; rfl), by rw [hI, ← addR3_eq G g, ← h_0, ← h_1, ← h_2]; rfl, fun x hx => by rw [hI] at hx; cases hx; exact e8⟩)
          · have hI : itR L ln pa G 114 = none := itR_1 ho (by unfold addF; rw [if_pos rfl, if_neg (by omega)])
            refine G_top (y := bI false) (congrArg bI (inB_n (by omega) (by decide) (by decide) hr2)) ?_
            refine G_if_neF (tgt := 51) (q := 49) dX10_readRelativeOf_46 (by decide) rfl (by decide) ?_
            refine G_iconst (v := nI 0) (q := 50) dX10_readRelativeOf_49 (by decide) rfl ?_
            exact G_iret dX10_readRelativeOf_50 rfl rfl (⟨_, _, v_f (by rw [hI]; rfl), by rw [hI]; rfl, fun x hx => by rw [hI] at hx; cases hx⟩)
        · have hI : itR L ln pa G 114 = none := itR_1 ho (by unfold addF; rw [if_pos rfl, if_neg (by omega)])
          refine G_top (y := bI false) (congrArg bI (inB_n (by omega) (by decide) (by decide) hr1)) ?_
          refine G_if_eqT (tgt := 49) dX10_readRelativeOf_35 (by decide) (by decide) ?_
          refine G_iconst (v := nI 0) (q := 50) dX10_readRelativeOf_49 (by decide) rfl ?_
          exact G_iret dX10_readRelativeOf_50 rfl rfl (⟨_, _, v_f (by rw [hI]; rfl), by rw [hI]; rfl, fun x hx => by rw [hI] at hx; cases hx⟩)
      · have hI : itR L ln pa G 114 = none := itR_1 ho (by unfold addF; rw [if_pos rfl, if_neg (by omega)])
        refine G_top (y := bI false) (congrArg bI (inB_n (by omega) (by decide) (by decide) hr0)) ?_
        refine G_if_eqT (tgt := 49) dX10_readRelativeOf_24 (by decide) (by decide) ?_
        refine G_iconst (v := nI 0) (q := 50) dX10_readRelativeOf_49 (by decide) rfl ?_
        exact G_iret dX10_readRelativeOf_50 rfl rfl (⟨_, _, v_f (by rw [hI]; rfl), by rw [hI]; rfl, fun x hx => by rw [hI] at hx; cases hx⟩)
theorem cs_X10_readSayingOf : CS yX10_readSayingOf wsX10_readSayingOf cX10_readSayingOf 1 (some .boolean) 0 := ⟨⟨_, rfl⟩, by decide +kernel, by decide +kernel, by decide +kernel⟩
theorem fl_X10_readSayingOf_34 : Cond.fieldLink RX10 34 (TX10 16).1 (TX10 16).2.1 (TX10 16).2.2.1 ∈ wsX10_readSayingOf := by decide +kernel
theorem fl_X10_readSayingOf_73 : Cond.fieldLink RX10 73 (TX10 19).1 (TX10 19).2.1 (TX10 19).2.2.1 ∈ wsX10_readSayingOf := by decide +kernel
theorem in_X10_readSayingOf_X10 : ∀ w ∈ u_ws RX10 TX10 25, w ∈ wsX10_readSayingOf := by decide +kernel
set_option maxHeartbeats 4000000 in
set_option maxRecDepth 100000 in
theorem ct_X10_readSayingOf (Z : Nat → ClassId) (C : Nat → Nat) (E : FS) (G : FS) (sz : Nat) (ac : Nat) (kp : Nat) (ln : Nat) (pa : Nat) (L : Nat → Nat) (tg : Nat → Nat) (hln : ln ≤ 200) (hL : ∀ j, L j < 128) (hG : okF G) (hpa : pa ≤ ln): Ct false yX10_readSayingOf wsX10_readSayingOf ({ frames := 3, cells := 0, slots := 0, locals := 64 }) [.ref (C 0)] Z [((C 0), .inr (10, [.int (nI (Fn E)), .ref (C 1), .int (nI (Fk E)), .ref (C 2), .int (nI (Fh E)), .ref (C 3), .ref (C 4), .int (nI ac), .ref (C 5), .int (nI kp), .ref (C 6), .int (nI sz), .ref (C 7), .ref (C 8), .int (nI ln), .int (nI pa), .ref (C 9), .int (nI (Fn G)), .ref (C 10), .int (nI (Fk G)), .ref (C 11), .int (nI (Fdd G)), .int (nI (Fh G)), .ref (C 12), .ref (C 13)])), ((C 8), .inl (Z 0, 200, .inl (fun j_ => nI (L j_)))), ((C 9), .inl (Z 0, 3, .inl (fun j_ => nI (tg j_)))), ((C 11), .inl (Z 0, 16, .inl (fun j_ => nI ((rsN G) j_))))] (fun v w => ∃ (t9 : Nat → Nat) (p9 : Nat), v = some (.int (bI (itR L ln pa G 115).isSome)) ∧ w = [((C 0), .inr (10, [.int (nI (Fn E)), .ref (C 1), .int (nI (Fk E)), .ref (C 2), .int (nI (Fh E)), .ref (C 3), .ref (C 4), .int (nI ac), .ref (C 5), .int (nI kp), .ref (C 6), .int (nI sz), .ref (C 7), .ref (C 8), .int (nI ln), .int (nI p9), .ref (C 9), .int (nI (Fn (((itR L ln pa G 115).map (fun x => x.1)).getD G))), .ref (C 10), .int (nI (Fk (((itR L ln pa G 115).map (fun x => x.1)).getD G))), .ref (C 11), .int (nI (Fdd (((itR L ln pa G 115).map (fun x => x.1)).getD G))), .int (nI (Fh (((itR L ln pa G 115).map (fun x => x.1)).getD G))), .ref (C 12), .ref (C 13)])), ((C 8), .inl (Z 0, 200, .inl (fun j_ => nI (L j_)))), ((C 9), .inl (Z 0, 3, .inl (fun j_ => nI (t9 j_)))), ((C 11), .inl (Z 0, 16, .inl (fun j_ => nI ((rsN (((itR L ln pa G 115).map (fun x => x.1)).getD G)) j_))))] ∧ ∀ x, itR L ln pa G 115 = some x → p9 = x.2) 0 0 := by
  obtain ⟨gn, gk, gkd, gag, gml, gtp, gdd, gh⟩ := id hG
  refine Ct_of (cc := cX10_readSayingOf) (maxL := 1) (ret := (some .boolean)) (own := RX10) false false (by decide +kernel) rfl rfl (by decide) (fun v w h9 => by obtain ⟨t9, p9, rfl, -⟩ := h9; exact ⟨_, rfl, bI_01 _⟩) (Nat.le_of_ble_eq_true rfl) (fun X => ?_)
  show GG X _ _ _ _ _ _ _ _ _ _ _ _ _ _ [(0, .ref (C 0))] _ _
  refine G_aload_n (q := 1) dX10_readSayingOf_0 rfl 0 rfl rfl ?_
  refine G_get (q := 4) dX10_readSayingOf_1 0 rfl (show vwCl[10]? = some (RX10, TX10, 25) from rfl) 19 (by decide) in_X10_readSayingOf_X10 fl_X10_readSayingOf_73 rfl rfl ?_
  refine G_bipush (v := nI 8) (q := 6) dX10_readSayingOf_4 (by decide) rfl ?_
  refine G_icmp_eqN (tgt := 38) (q := 9) dX10_readSayingOf_6 (by decide) rfl (by omega) (by omega) (fun c6 => ?_) (fun c6 => ?_)
  · have hI : itR L ln pa G 115 = none := itR_n (fun g => by unfold addF; rw [if_neg (show ¬ (115 : Nat) = 114 by decide), if_pos rfl, if_neg (by omega)])
    refine G_iconst (v := nI 0) (q := 39) dX10_readSayingOf_38 (by decide) rfl ?_
    exact G_iret dX10_readSayingOf_39 rfl rfl (⟨_, _, v_f (by rw [hI]; rfl), by rw [hI]; rfl, fun x hx => by rw [hI] at hx; cases hx⟩)
  · refine G_aload_n (q := 10) dX10_readSayingOf_9 rfl 0 rfl rfl ?_
    refine G_iconst (v := nI 2) (q := 11) dX10_readSayingOf_10 (by decide) rfl ?_
    refine G_callV (As := [.int (nI 2)]) (rest := []) (q := 14) dX10_readSayingOf_11 [0, 1, 2] (ct_X10_readNumbers Z C E G sz ac kp ln pa L tg 2 (hln) (hL) (hpa) (by decide)) (fun h => h) cs_X10_readNumbers gX10_readSayingOf_X10_readNumbers rfl ⟨Nat.le_of_ble_eq_true rfl, Nat.le_of_ble_eq_true rfl⟩ ⟨rfl, rfl⟩ 0 rfl (show vwCl[10]? = some (RX10, TX10, 25) from rfl) rfl (by decide) rfl rfl (Nat.le_of_ble_eq_true rfl) ⟨by decide, by decide⟩ (fun v w h9 => by obtain ⟨t9, p9, rfl, rfl, -⟩ := h9; rfl) rfl (fun v9 w9 h9 => ?_)
    obtain ⟨t8, p8, rfl, rfl, hn8⟩ := h9
    refine GG.of (ws2 := [((C 0), .inr (10, [.int (nI (Fn E)), .ref (C 1), .int (nI (Fk E)), .ref (C 2), .int (nI (Fh E)), .ref (C 3), .ref (C 4), .int (nI ac), .ref (C 5), .int (nI kp), .ref (C 6), .int (nI sz), .ref (C 7), .ref (C 8), .int (nI ln), .int (nI p8), .ref (C 9), .int (nI (Fn G)), .ref (C 10), .int (nI (Fk G)), .ref (C 11), .int (nI (Fdd G)), .int (nI (Fh G)), .ref (C 12), .ref (C 13)])), ((C 8), .inl (Z 0, 200, .inl (fun j_ => nI (L j_)))), ((C 9), .inl (Z 0, 3, .inl (fun j_ => nI (t8 j_)))), ((C 11), .inl (Z 0, 16, .inl (fun j_ => nI ((rsN G) j_))))]) (st2 := [.int (bI ((pnN L ln 2 pa 2).isSome))]) rfl rfl rfl ?_
    rcases pn_cases (L := L) (ln := ln) (many := 2) (p0 := pa) 2 with ho | ⟨q, g, ho⟩
    · have hI : itR L ln pa G 115 = none := itR_0 ho
      refine G_top (y := bI false) (by rw [ho]; rfl) ?_
      refine G_if_eqT (tgt := 38) dX10_readSayingOf_14 (by decide) (by decide) ?_
      refine G_iconst (v := nI 0) (q := 39) dX10_readSayingOf_38 (by decide) rfl ?_
      exact G_iret dX10_readSayingOf_39 rfl rfl (⟨_, _, v_f (by rw [hI]; rfl), by rw [hI]; rfl, fun x hx => by rw [hI] at hx; cases hx⟩)
    · obtain ⟨e8, hg8⟩ := hn8 q g ho
      have hgb := (pnN_bd hpa ho).1
      have h_0 := hg8 0 (by decide)
      have b_0 := hgb 0
      have h_1 := hg8 1 (by decide)
      have b_1 := hgb 1
      refine G_top (y := bI true) (by rw [ho]; rfl) ?_
      refine G_if_eqF (tgt := 38) (q := 17) dX10_readSayingOf_14 (by decide) rfl (by decide) ?_
      refine G_aload_n (q := 18) dX10_readSayingOf_17 rfl 0 rfl rfl ?_
      refine G_iconst (v := nI 0) (q := 19) dX10_readSayingOf_18 (by decide) rfl ?_
      refine G_iconst (v := nI 0) (q := 20) dX10_readSayingOf_19 (by decide) rfl ?_
      refine G_bipush (v := nI 63) (q := 22) dX10_readSayingOf_20 (by decide) rfl ?_
      refine G_callVP (As := [.int (nI 0), .int (nI 0), .int (nI 63)]) (rest := []) (st2 := [.int (bI (inB (nI (t8 0)) (nI 0) (nI 63)))]) (q := 25) dX10_readSayingOf_22 [0, 2] (ct_X10_isTold Z C E G sz ac kp ln p8 t8 0 0 63 (by omega)) (fun h => h) cs_X10_isTold gX10_readSayingOf_X10_isTold rfl ⟨Nat.le_of_ble_eq_true rfl, Nat.le_of_ble_eq_true rfl⟩ ⟨rfl, rfl⟩ 0 rfl (show vwCl[10]? = some (RX10, TX10, 25) from rfl) rfl (by decide) rfl rfl (Nat.le_of_ble_eq_true rfl) ⟨by decide, by decide⟩ rfl rfl ?_
      rcases Decidable.em (0 ≤ t8 0 ∧ t8 0 ≤ 63) with hr0 | hr0
      · refine G_top (y := bI true) (congrArg bI (inB_y (by omega) (by decide) hr0)) ?_
        refine G_if_eqF (tgt := 38) (q := 28) dX10_readSayingOf_25 (by decide) rfl (by decide) ?_
        refine G_aload_n (q := 29) dX10_readSayingOf_28 rfl 0 rfl rfl ?_
        refine G_iconst (v := nI 1) (q := 30) dX10_readSayingOf_29 (by decide) rfl ?_
        refine G_iconst (v := nI 0) (q := 31) dX10_readSayingOf_30 (by decide) rfl ?_
        refine G_iconst (v := nI 1) (q := 32) dX10_readSayingOf_31 (by decide) rfl ?_
        refine G_callVP (As := [.int (nI 1), .int (nI 0), .int (nI 1)]) (rest := []) (st2 := [.int (bI (inB (nI (t8 1)) (nI 0) (nI 1)))]) (q := 35) dX10_readSayingOf_32 [0, 2] (ct_X10_isTold Z C E G sz ac kp ln p8 t8 1 0 1 (by omega)) (fun h => h) cs_X10_isTold gX10_readSayingOf_X10_isTold rfl ⟨Nat.le_of_ble_eq_true rfl, Nat.le_of_ble_eq_true rfl⟩ ⟨rfl, rfl⟩ 0 rfl (show vwCl[10]? = some (RX10, TX10, 25) from rfl) rfl (by decide) rfl rfl (Nat.le_of_ble_eq_true rfl) ⟨by decide, by decide⟩ rfl rfl ?_
        rcases Decidable.em (0 ≤ t8 1 ∧ t8 1 ≤ 1) with hr1 | hr1
        · have hI : itR L ln pa G 115 = some (addS G g, q) := itR_2 ho (by unfold addF; rw [if_neg (show ¬ (115 : Nat) = 114 by decide), if_pos rfl, if_pos (by omega)])
          refine G_top (y := bI true) (congrArg bI (inB_y (by omega) (by decide) hr1)) ?_
          refine G_if_neT (tgt := 40) dX10_readSayingOf_35 (by decide) (by decide) ?_
          refine G_aload_n (q := 41) dX10_readSayingOf_40 rfl 0 rfl rfl ?_
          refine G_aload_n (q := 42) dX10_readSayingOf_41 rfl 0 rfl rfl ?_
          refine G_get (q := 45) dX10_readSayingOf_42 0 rfl (show vwCl[10]? = some (RX10, TX10, 25) from rfl) 16 (by decide) in_X10_readSayingOf_X10 fl_X10_readSayingOf_34 rfl rfl ?_
          refine G_iconst (v := nI 0) (q := 46) dX10_readSayingOf_45 (by decide) rfl ?_
          refine G_iald (q := 47) dX10_readSayingOf_46 2 rfl 0 (rfl) (by omega) (by omega) rfl ?_
          refine G_aload_n (q := 48) dX10_readSayingOf_47 rfl 0 rfl rfl ?_
          refine G_get (q := 51) dX10_readSayingOf_48 0 rfl (show vwCl[10]? = some (RX10, TX10, 25) from rfl) 16 (by decide) in_X10_readSayingOf_X10 fl_X10_readSayingOf_34 rfl rfl ?_
          refine G_iconst (v := nI 1) (q := 52) dX10_readSayingOf_51 (by decide) rfl ?_
          refine G_iald (q := 53) dX10_readSayingOf_52 2 rfl 1 (rfl) (by omega) (by omega) rfl ?_
          refine G_callVX (As := [.int (nI (t8 0)), .int (nI (t8 1))]) (rest := []) (st2 := []) (ws2 := [((C 0), .inr (10, [.int (nI (Fn E)), .ref (C 1), .int (nI (Fk E)), .ref (C 2), .int (nI (Fh E)), .ref (C 3), .ref (C 4), .int (nI ac), .ref (C 5), .int (nI kp), .ref (C 6), .int (nI sz), .ref (C 7), .ref (C 8), .int (nI ln), .int (nI p8), .ref (C 9), .int (nI (Fn (addS2 G (t8 0) (t8 1)))), .ref (C 10), .int (nI (Fk (addS2 G (t8 0) (t8 1)))), .ref (C 11), .int (nI (Fdd (addS2 G (t8 0) (t8 1)))), .int (nI (Fh (addS2 G (t8 0) (t8 1)))), .ref (C 12), .ref (C 13)])), ((C 8), .inl (Z 0, 200, .inl (fun j_ => nI (L j_)))), ((C 9), .inl (Z 0, 3, .inl (fun j_ => nI (t8 j_)))), ((C 11), .inl (Z 0, 16, .inl (fun j_ => nI ((rsN (addS2 G (t8 0) (t8 1))) j_))))]) (q := 56) dX10_readSayingOf_53 [0, 3] (ct_X10_tellsSaying Z C E G sz ac kp ln p8 (t8 0) (t8 1) (by omega) (by omega)) (fun h => h) cs_X10_tellsSaying gX10_readSayingOf_X10_tellsSaying rfl ⟨Nat.le_of_ble_eq_true rfl, Nat.le_of_ble_eq_true rfl⟩ ⟨rfl, rfl⟩ 0 rfl (show vwCl[10]? = some (RX10, TX10, 25) from rfl) rfl (by decide) rfl rfl (Nat.le_of_ble_eq_true rfl) ⟨by decide, by decide⟩ rfl rfl rfl rfl ?_
          refine G_iconst (v := nI 1) (q := 57) dX10_readSayingOf_56 (by decide) rfl ?_
          exact G_iret dX10_readSayingOf_57 rfl rfl (⟨_, _, v_t (by rw [hI]; rfl), by rw [hI, ← addS2_eq G g, ← h_0, ← h_1]; rfl, fun x hx => by rw [hI] at hx; cases hx; exact e8⟩)
        · have hI : itR L ln pa G 115 = none := itR_1 ho (by unfold addF; rw [if_neg (show ¬ (115 : Nat) = 114 by decide), if_pos rfl, if_neg (by omega)])
          refine G_top (y := bI false) (congrArg bI (inB_n (by omega) (by decide) (by decide) hr1)) ?_
          refine G_if_neF (tgt := 40) (q := 38) dX10_readSayingOf_35 (by decide) rfl (by decide) ?_
          refine G_iconst (v := nI 0) (q := 39) dX10_readSayingOf_38 (by decide) rfl ?_
          exact G_iret dX10_readSayingOf_39 rfl rfl (⟨_, _, v_f (by rw [hI]; rfl), by rw [hI]; rfl, fun x hx => by rw [hI] at hx; cases hx⟩)
      · have hI : itR L ln pa G 115 = none := itR_1 ho (by unfold addF; rw [if_neg (show ¬ (115 : Nat) = 114 by decide), if_pos rfl, if_neg (by omega)])
        refine G_top (y := bI false) (congrArg bI (inB_n (by omega) (by decide) (by decide) hr0)) ?_
        refine G_if_eqT (tgt := 38) dX10_readSayingOf_25 (by decide) (by decide) ?_
        refine G_iconst (v := nI 0) (q := 39) dX10_readSayingOf_38 (by decide) rfl ?_
        exact G_iret dX10_readSayingOf_39 rfl rfl (⟨_, _, v_f (by rw [hI]; rfl), by rw [hI]; rfl, fun x hx => by rw [hI] at hx; cases hx⟩)
theorem cs_X10_readDeedOf : CS yX10_readDeedOf wsX10_readDeedOf cX10_readDeedOf 2 (some .boolean) 0 := ⟨⟨_, rfl⟩, by decide +kernel, by decide +kernel, by decide +kernel⟩
theorem fl_X10_readDeedOf_34 : Cond.fieldLink RX10 34 (TX10 16).1 (TX10 16).2.1 (TX10 16).2.2.1 ∈ wsX10_readDeedOf := by decide +kernel
theorem fl_X10_readDeedOf_60 : Cond.fieldLink RX10 60 (TX10 21).1 (TX10 21).2.1 (TX10 21).2.2.1 ∈ wsX10_readDeedOf := by decide +kernel
theorem in_X10_readDeedOf_X10 : ∀ w ∈ u_ws RX10 TX10 25, w ∈ wsX10_readDeedOf := by decide +kernel
set_option maxHeartbeats 4000000 in
set_option maxRecDepth 100000 in
theorem ct_X10_readDeedOf (Z : Nat → ClassId) (C : Nat → Nat) (E : FS) (G : FS) (sz : Nat) (ac : Nat) (kp : Nat) (ln : Nat) (pa : Nat) (L : Nat → Nat) (tg : Nat → Nat) (hln : ln ≤ 200) (hL : ∀ j, L j < 128) (hG : okF G) (hpa : pa ≤ ln): Ct false yX10_readDeedOf wsX10_readDeedOf ({ frames := 3, cells := 0, slots := 0, locals := 64 }) [.ref (C 0)] Z [((C 0), .inr (10, [.int (nI (Fn E)), .ref (C 1), .int (nI (Fk E)), .ref (C 2), .int (nI (Fh E)), .ref (C 3), .ref (C 4), .int (nI ac), .ref (C 5), .int (nI kp), .ref (C 6), .int (nI sz), .ref (C 7), .ref (C 8), .int (nI ln), .int (nI pa), .ref (C 9), .int (nI (Fn G)), .ref (C 10), .int (nI (Fk G)), .ref (C 11), .int (nI (Fdd G)), .int (nI (Fh G)), .ref (C 12), .ref (C 13)])), ((C 8), .inl (Z 0, 200, .inl (fun j_ => nI (L j_)))), ((C 9), .inl (Z 0, 3, .inl (fun j_ => nI (tg j_))))] (fun v w => ∃ (t9 : Nat → Nat) (p9 : Nat), v = some (.int (bI (itR L ln pa G 100).isSome)) ∧ w = [((C 0), .inr (10, [.int (nI (Fn E)), .ref (C 1), .int (nI (Fk E)), .ref (C 2), .int (nI (Fh E)), .ref (C 3), .ref (C 4), .int (nI ac), .ref (C 5), .int (nI kp), .ref (C 6), .int (nI sz), .ref (C 7), .ref (C 8), .int (nI ln), .int (nI p9), .ref (C 9), .int (nI (Fn (((itR L ln pa G 100).map (fun x => x.1)).getD G))), .ref (C 10), .int (nI (Fk (((itR L ln pa G 100).map (fun x => x.1)).getD G))), .ref (C 11), .int (nI (Fdd (((itR L ln pa G 100).map (fun x => x.1)).getD G))), .int (nI (Fh (((itR L ln pa G 100).map (fun x => x.1)).getD G))), .ref (C 12), .ref (C 13)])), ((C 8), .inl (Z 0, 200, .inl (fun j_ => nI (L j_)))), ((C 9), .inl (Z 0, 3, .inl (fun j_ => nI (t9 j_))))] ∧ ∀ x, itR L ln pa G 100 = some x → p9 = x.2) 0 0 := by
  obtain ⟨gn, gk, gkd, gag, gml, gtp, gdd, gh⟩ := id hG
  refine Ct_of (cc := cX10_readDeedOf) (maxL := 2) (ret := (some .boolean)) (own := RX10) false false (by decide +kernel) rfl rfl (by decide) (fun v w h9 => by obtain ⟨t9, p9, rfl, -⟩ := h9; exact ⟨_, rfl, bI_01 _⟩) (Nat.le_of_ble_eq_true rfl) (fun X => ?_)
  show GG X _ _ _ _ _ _ _ _ _ _ _ _ _ _ [(0, .ref (C 0))] _ _
  refine G_aload_n (q := 1) dX10_readDeedOf_0 rfl 0 rfl rfl ?_
  refine G_iconst (v := nI 1) (q := 2) dX10_readDeedOf_1 (by decide) rfl ?_
  refine G_callV (As := [.int (nI 1)]) (rest := []) (q := 5) dX10_readDeedOf_2 [0, 1, 2] (ct_X10_readNumbers Z C E G sz ac kp ln pa L tg 1 (hln) (hL) (hpa) (by decide)) (fun h => h) cs_X10_readNumbers gX10_readDeedOf_X10_readNumbers rfl ⟨Nat.le_of_ble_eq_true rfl, Nat.le_of_ble_eq_true rfl⟩ ⟨rfl, rfl⟩ 0 rfl (show vwCl[10]? = some (RX10, TX10, 25) from rfl) rfl (by decide) rfl rfl (Nat.le_of_ble_eq_true rfl) ⟨by decide, by decide⟩ (fun v w h9 => by obtain ⟨t9, p9, rfl, rfl, -⟩ := h9; rfl) rfl (fun v9 w9 h9 => ?_)
  obtain ⟨t8, p8, rfl, rfl, hn8⟩ := h9
  refine GG.of (ws2 := [((C 0), .inr (10, [.int (nI (Fn E)), .ref (C 1), .int (nI (Fk E)), .ref (C 2), .int (nI (Fh E)), .ref (C 3), .ref (C 4), .int (nI ac), .ref (C 5), .int (nI kp), .ref (C 6), .int (nI sz), .ref (C 7), .ref (C 8), .int (nI ln), .int (nI p8), .ref (C 9), .int (nI (Fn G)), .ref (C 10), .int (nI (Fk G)), .ref (C 11), .int (nI (Fdd G)), .int (nI (Fh G)), .ref (C 12), .ref (C 13)])), ((C 8), .inl (Z 0, 200, .inl (fun j_ => nI (L j_)))), ((C 9), .inl (Z 0, 3, .inl (fun j_ => nI (t8 j_))))]) (st2 := [.int (bI ((pnN L ln 1 pa 1).isSome))]) rfl rfl rfl ?_
  rcases pn_cases (L := L) (ln := ln) (many := 1) (p0 := pa) 1 with ho | ⟨q, g, ho⟩
  · have hI : itR L ln pa G 100 = none := itR_0 ho
    refine G_top (y := bI false) (by rw [ho]; rfl) ?_
    refine G_if_eqT (tgt := 23) dX10_readDeedOf_5 (by decide) (by decide) ?_
    refine G_iconst (v := nI 0) (q := 24) dX10_readDeedOf_23 (by decide) rfl ?_
    refine G_istore_n (lv2 := [(0, .ref (C 0)), (1, .int (nI 0))]) (q := 25) dX10_readDeedOf_24 rfl (by decide) rfl rfl ?_
    refine G_aload_n (q := 26) dX10_readDeedOf_25 rfl 0 rfl rfl ?_
    refine G_iload_n (q := 27) dX10_readDeedOf_26 rfl 1 rfl rfl ?_
    refine G_if_eqT (tgt := 39) dX10_readDeedOf_27 (by decide) (by decide) ?_
    refine G_aload_n (q := 40) dX10_readDeedOf_39 rfl 0 rfl rfl ?_
    refine G_get (q := 43) dX10_readDeedOf_40 0 rfl (show vwCl[10]? = some (RX10, TX10, 25) from rfl) 21 (by decide) in_X10_readDeedOf_X10 fl_X10_readDeedOf_60 rfl rfl ?_
    refine G_put (ws2 := [((C 0), .inr (10, [.int (nI (Fn E)), .ref (C 1), .int (nI (Fk E)), .ref (C 2), .int (nI (Fh E)), .ref (C 3), .ref (C 4), .int (nI ac), .ref (C 5), .int (nI kp), .ref (C 6), .int (nI sz), .ref (C 7), .ref (C 8), .int (nI ln), .int (nI p8), .ref (C 9), .int (nI (Fn G)), .ref (C 10), .int (nI (Fk G)), .ref (C 11), .int (nI (Fdd G)), .int (nI (Fh G)), .ref (C 12), .ref (C 13)])), ((C 8), .inl (Z 0, 200, .inl (fun j_ => nI (L j_)))), ((C 9), .inl (Z 0, 3, .inl (fun j_ => nI (t8 j_))))]) (q := 46) dX10_readDeedOf_43 0 rfl (show vwCl[10]? = some (RX10, TX10, 25) from rfl) cf_X10 21 (by decide) in_X10_readDeedOf_X10 fl_X10_readDeedOf_60 rfl (rfl) rfl (by simp only [List.length_cons, List.length_nil]; decide) rfl rfl ?_
    refine G_iload_n (q := 47) dX10_readDeedOf_46 rfl 1 rfl rfl ?_
    exact G_iret dX10_readDeedOf_47 rfl rfl (by first | exact ⟨_, _, v_f (by rw [hI]; rfl), by rw [hI]; rfl, fun x hx => by rw [hI] at hx; cases hx⟩ | exact ⟨_, _, v_t (by rw [hI]; rfl), by rw [hI, h_0]; rfl, fun x hx => by rw [hI] at hx; cases hx; exact e8⟩)
  · obtain ⟨e8, hg8⟩ := hn8 q g ho
    have hgb := (pnN_bd hpa ho).1
    have h_0 := hg8 0 (by decide)
    have b_0 := hgb 0
    refine G_top (y := bI true) (by rw [ho]; rfl) ?_
    refine G_if_eqF (tgt := 23) (q := 8) dX10_readDeedOf_5 (by decide) rfl (by decide) ?_
    refine G_aload_n (q := 9) dX10_readDeedOf_8 rfl 0 rfl rfl ?_
    refine G_iconst (v := nI 0) (q := 10) dX10_readDeedOf_9 (by decide) rfl ?_
    refine G_iconst (v := nI 0) (q := 11) dX10_readDeedOf_10 (by decide) rfl ?_
    refine G_bipush (v := nI 63) (q := 13) dX10_readDeedOf_11 (by decide) rfl ?_
    refine G_callVP (As := [.int (nI 0), .int (nI 0), .int (nI 63)]) (rest := []) (st2 := [.int (bI (inB (nI (t8 0)) (nI 0) (nI 63)))]) (q := 16) dX10_readDeedOf_13 [0, 2] (ct_X10_isTold Z C E G sz ac kp ln p8 t8 0 0 63 (by omega)) (fun h => h) cs_X10_isTold gX10_readDeedOf_X10_isTold rfl ⟨Nat.le_of_ble_eq_true rfl, Nat.le_of_ble_eq_true rfl⟩ ⟨rfl, rfl⟩ 0 rfl (show vwCl[10]? = some (RX10, TX10, 25) from rfl) rfl (by decide) rfl rfl (Nat.le_of_ble_eq_true rfl) ⟨by decide, by decide⟩ rfl rfl ?_
    rcases Decidable.em (0 ≤ t8 0 ∧ t8 0 ≤ 63) with hr0 | hr0
    · have hI : itR L ln pa G 100 = some (addD G g, q) := itR_2 ho (by unfold addF; rw [if_neg (show ¬ (100 : Nat) = 114 by decide), if_neg (show ¬ (100 : Nat) = 115 by decide), if_pos rfl, if_pos (by omega)])
      refine G_top (y := bI true) (congrArg bI (inB_y (by omega) (by decide) hr0)) ?_
      refine G_if_eqF (tgt := 23) (q := 19) dX10_readDeedOf_16 (by decide) rfl (by decide) ?_
      refine G_iconst (v := nI 1) (q := 20) dX10_readDeedOf_19 (by decide) rfl ?_
      refine G_goto (q := 24) dX10_readDeedOf_20 (by decide) ?_
      refine G_istore_n (lv2 := [(0, .ref (C 0)), (1, .int (nI 1))]) (q := 25) dX10_readDeedOf_24 rfl (by decide) rfl rfl ?_
      refine G_aload_n (q := 26) dX10_readDeedOf_25 rfl 0 rfl rfl ?_
      refine G_iload_n (q := 27) dX10_readDeedOf_26 rfl 1 rfl rfl ?_
      refine G_if_eqF (tgt := 39) (q := 30) dX10_readDeedOf_27 (by decide) rfl (by decide) ?_
      refine G_aload_n (q := 31) dX10_readDeedOf_30 rfl 0 rfl rfl ?_
      refine G_get (q := 34) dX10_readDeedOf_31 0 rfl (show vwCl[10]? = some (RX10, TX10, 25) from rfl) 16 (by decide) in_X10_readDeedOf_X10 fl_X10_readDeedOf_34 rfl rfl ?_
      refine G_iconst (v := nI 0) (q := 35) dX10_readDeedOf_34 (by decide) rfl ?_
      refine G_iald (q := 36) dX10_readDeedOf_35 2 rfl 0 (rfl) (by omega) (by omega) rfl ?_
      refine G_goto (q := 43) dX10_readDeedOf_36 (by decide) ?_
      refine G_put (ws2 := [((C 0), .inr (10, [.int (nI (Fn E)), .ref (C 1), .int (nI (Fk E)), .ref (C 2), .int (nI (Fh E)), .ref (C 3), .ref (C 4), .int (nI ac), .ref (C 5), .int (nI kp), .ref (C 6), .int (nI sz), .ref (C 7), .ref (C 8), .int (nI ln), .int (nI p8), .ref (C 9), .int (nI (Fn G)), .ref (C 10), .int (nI (Fk G)), .ref (C 11), .int (nI (t8 0)), .int (nI (Fh G)), .ref (C 12), .ref (C 13)])), ((C 8), .inl (Z 0, 200, .inl (fun j_ => nI (L j_)))), ((C 9), .inl (Z 0, 3, .inl (fun j_ => nI (t8 j_))))]) (q := 46) dX10_readDeedOf_43 0 rfl (show vwCl[10]? = some (RX10, TX10, 25) from rfl) cf_X10 21 (by decide) in_X10_readDeedOf_X10 fl_X10_readDeedOf_60 rfl (rfl) rfl (by simp only [List.length_cons, List.length_nil]; decide) rfl rfl ?_
      refine G_iload_n (q := 47) dX10_readDeedOf_46 rfl 1 rfl rfl ?_
      exact G_iret dX10_readDeedOf_47 rfl rfl (by first | exact ⟨_, _, v_f (by rw [hI]; rfl), by rw [hI]; rfl, fun x hx => by rw [hI] at hx; cases hx⟩ | exact ⟨_, _, v_t (by rw [hI]; rfl), by rw [hI, h_0]; rfl, fun x hx => by rw [hI] at hx; cases hx; exact e8⟩)
    · have hI : itR L ln pa G 100 = none := itR_1 ho (by unfold addF; rw [if_neg (show ¬ (100 : Nat) = 114 by decide), if_neg (show ¬ (100 : Nat) = 115 by decide), if_pos rfl, if_neg (by omega)])
      refine G_top (y := bI false) (congrArg bI (inB_n (by omega) (by decide) (by decide) hr0)) ?_
      refine G_if_eqT (tgt := 23) dX10_readDeedOf_16 (by decide) (by decide) ?_
      refine G_iconst (v := nI 0) (q := 24) dX10_readDeedOf_23 (by decide) rfl ?_
      refine G_istore_n (lv2 := [(0, .ref (C 0)), (1, .int (nI 0))]) (q := 25) dX10_readDeedOf_24 rfl (by decide) rfl rfl ?_
      refine G_aload_n (q := 26) dX10_readDeedOf_25 rfl 0 rfl rfl ?_
      refine G_iload_n (q := 27) dX10_readDeedOf_26 rfl 1 rfl rfl ?_
      refine G_if_eqT (tgt := 39) dX10_readDeedOf_27 (by decide) (by decide) ?_
      refine G_aload_n (q := 40) dX10_readDeedOf_39 rfl 0 rfl rfl ?_
      refine G_get (q := 43) dX10_readDeedOf_40 0 rfl (show vwCl[10]? = some (RX10, TX10, 25) from rfl) 21 (by decide) in_X10_readDeedOf_X10 fl_X10_readDeedOf_60 rfl rfl ?_
      refine G_put (ws2 := [((C 0), .inr (10, [.int (nI (Fn E)), .ref (C 1), .int (nI (Fk E)), .ref (C 2), .int (nI (Fh E)), .ref (C 3), .ref (C 4), .int (nI ac), .ref (C 5), .int (nI kp), .ref (C 6), .int (nI sz), .ref (C 7), .ref (C 8), .int (nI ln), .int (nI p8), .ref (C 9), .int (nI (Fn G)), .ref (C 10), .int (nI (Fk G)), .ref (C 11), .int (nI (Fdd G)), .int (nI (Fh G)), .ref (C 12), .ref (C 13)])), ((C 8), .inl (Z 0, 200, .inl (fun j_ => nI (L j_)))), ((C 9), .inl (Z 0, 3, .inl (fun j_ => nI (t8 j_))))]) (q := 46) dX10_readDeedOf_43 0 rfl (show vwCl[10]? = some (RX10, TX10, 25) from rfl) cf_X10 21 (by decide) in_X10_readDeedOf_X10 fl_X10_readDeedOf_60 rfl (rfl) rfl (by simp only [List.length_cons, List.length_nil]; decide) rfl rfl ?_
      refine G_iload_n (q := 47) dX10_readDeedOf_46 rfl 1 rfl rfl ?_
      exact G_iret dX10_readDeedOf_47 rfl rfl (by first | exact ⟨_, _, v_f (by rw [hI]; rfl), by rw [hI]; rfl, fun x hx => by rw [hI] at hx; cases hx⟩ | exact ⟨_, _, v_t (by rw [hI]; rfl), by rw [hI, h_0]; rfl, fun x hx => by rw [hI] at hx; cases hx; exact e8⟩)
theorem cs_X10_readHintOf : CS yX10_readHintOf wsX10_readHintOf cX10_readHintOf 2 (some .boolean) 0 := ⟨⟨_, rfl⟩, by decide +kernel, by decide +kernel, by decide +kernel⟩
theorem fl_X10_readHintOf_34 : Cond.fieldLink RX10 34 (TX10 16).1 (TX10 16).2.1 (TX10 16).2.2.1 ∈ wsX10_readHintOf := by decide +kernel
theorem fl_X10_readHintOf_64 : Cond.fieldLink RX10 64 (TX10 22).1 (TX10 22).2.1 (TX10 22).2.2.1 ∈ wsX10_readHintOf := by decide +kernel
theorem in_X10_readHintOf_X10 : ∀ w ∈ u_ws RX10 TX10 25, w ∈ wsX10_readHintOf := by decide +kernel
set_option maxHeartbeats 4000000 in
set_option maxRecDepth 100000 in
theorem ct_X10_readHintOf (Z : Nat → ClassId) (C : Nat → Nat) (E : FS) (G : FS) (sz : Nat) (ac : Nat) (kp : Nat) (ln : Nat) (pa : Nat) (L : Nat → Nat) (tg : Nat → Nat) (hln : ln ≤ 200) (hL : ∀ j, L j < 128) (hG : okF G) (hpa : pa ≤ ln): Ct false yX10_readHintOf wsX10_readHintOf ({ frames := 3, cells := 0, slots := 0, locals := 64 }) [.ref (C 0)] Z [((C 0), .inr (10, [.int (nI (Fn E)), .ref (C 1), .int (nI (Fk E)), .ref (C 2), .int (nI (Fh E)), .ref (C 3), .ref (C 4), .int (nI ac), .ref (C 5), .int (nI kp), .ref (C 6), .int (nI sz), .ref (C 7), .ref (C 8), .int (nI ln), .int (nI pa), .ref (C 9), .int (nI (Fn G)), .ref (C 10), .int (nI (Fk G)), .ref (C 11), .int (nI (Fdd G)), .int (nI (Fh G)), .ref (C 12), .ref (C 13)])), ((C 8), .inl (Z 0, 200, .inl (fun j_ => nI (L j_)))), ((C 9), .inl (Z 0, 3, .inl (fun j_ => nI (tg j_))))] (fun v w => ∃ (t9 : Nat → Nat) (p9 : Nat), v = some (.int (bI (itR L ln pa G 104).isSome)) ∧ w = [((C 0), .inr (10, [.int (nI (Fn E)), .ref (C 1), .int (nI (Fk E)), .ref (C 2), .int (nI (Fh E)), .ref (C 3), .ref (C 4), .int (nI ac), .ref (C 5), .int (nI kp), .ref (C 6), .int (nI sz), .ref (C 7), .ref (C 8), .int (nI ln), .int (nI p9), .ref (C 9), .int (nI (Fn (((itR L ln pa G 104).map (fun x => x.1)).getD G))), .ref (C 10), .int (nI (Fk (((itR L ln pa G 104).map (fun x => x.1)).getD G))), .ref (C 11), .int (nI (Fdd (((itR L ln pa G 104).map (fun x => x.1)).getD G))), .int (nI (Fh (((itR L ln pa G 104).map (fun x => x.1)).getD G))), .ref (C 12), .ref (C 13)])), ((C 8), .inl (Z 0, 200, .inl (fun j_ => nI (L j_)))), ((C 9), .inl (Z 0, 3, .inl (fun j_ => nI (t9 j_))))] ∧ ∀ x, itR L ln pa G 104 = some x → p9 = x.2) 0 0 := by
  obtain ⟨gn, gk, gkd, gag, gml, gtp, gdd, gh⟩ := id hG
  refine Ct_of (cc := cX10_readHintOf) (maxL := 2) (ret := (some .boolean)) (own := RX10) false false (by decide +kernel) rfl rfl (by decide) (fun v w h9 => by obtain ⟨t9, p9, rfl, -⟩ := h9; exact ⟨_, rfl, bI_01 _⟩) (Nat.le_of_ble_eq_true rfl) (fun X => ?_)
  show GG X _ _ _ _ _ _ _ _ _ _ _ _ _ _ [(0, .ref (C 0))] _ _
  refine G_aload_n (q := 1) dX10_readHintOf_0 rfl 0 rfl rfl ?_
  refine G_iconst (v := nI 1) (q := 2) dX10_readHintOf_1 (by decide) rfl ?_
  refine G_callV (As := [.int (nI 1)]) (rest := []) (q := 5) dX10_readHintOf_2 [0, 1, 2] (ct_X10_readNumbers Z C E G sz ac kp ln pa L tg 1 (hln) (hL) (hpa) (by decide)) (fun h => h) cs_X10_readNumbers gX10_readHintOf_X10_readNumbers rfl ⟨Nat.le_of_ble_eq_true rfl, Nat.le_of_ble_eq_true rfl⟩ ⟨rfl, rfl⟩ 0 rfl (show vwCl[10]? = some (RX10, TX10, 25) from rfl) rfl (by decide) rfl rfl (Nat.le_of_ble_eq_true rfl) ⟨by decide, by decide⟩ (fun v w h9 => by obtain ⟨t9, p9, rfl, rfl, -⟩ := h9; rfl) rfl (fun v9 w9 h9 => ?_)
  obtain ⟨t8, p8, rfl, rfl, hn8⟩ := h9
  refine GG.of (ws2 := [((C 0), .inr (10, [.int (nI (Fn E)), .ref (C 1), .int (nI (Fk E)), .ref (C 2), .int (nI (Fh E)), .ref (C 3), .ref (C 4), .int (nI ac), .ref (C 5), .int (nI kp), .ref (C 6), .int (nI sz), .ref (C 7), .ref (C 8), .int (nI ln), .int (nI p8), .ref (C 9), .int (nI (Fn G)), .ref (C 10), .int (nI (Fk G)), .ref (C 11), .int (nI (Fdd G)), .int (nI (Fh G)), .ref (C 12), .ref (C 13)])), ((C 8), .inl (Z 0, 200, .inl (fun j_ => nI (L j_)))), ((C 9), .inl (Z 0, 3, .inl (fun j_ => nI (t8 j_))))]) (st2 := [.int (bI ((pnN L ln 1 pa 1).isSome))]) rfl rfl rfl ?_
  rcases pn_cases (L := L) (ln := ln) (many := 1) (p0 := pa) 1 with ho | ⟨q, g, ho⟩
  · have hI : itR L ln pa G 104 = none := itR_0 ho
    refine G_top (y := bI false) (by rw [ho]; rfl) ?_
    refine G_if_eqT (tgt := 23) dX10_readHintOf_5 (by decide) (by decide) ?_
    refine G_iconst (v := nI 0) (q := 24) dX10_readHintOf_23 (by decide) rfl ?_
    refine G_istore_n (lv2 := [(0, .ref (C 0)), (1, .int (nI 0))]) (q := 25) dX10_readHintOf_24 rfl (by decide) rfl rfl ?_
    refine G_aload_n (q := 26) dX10_readHintOf_25 rfl 0 rfl rfl ?_
    refine G_iload_n (q := 27) dX10_readHintOf_26 rfl 1 rfl rfl ?_
    refine G_if_eqT (tgt := 39) dX10_readHintOf_27 (by decide) (by decide) ?_
    refine G_aload_n (q := 40) dX10_readHintOf_39 rfl 0 rfl rfl ?_
    refine G_get (q := 43) dX10_readHintOf_40 0 rfl (show vwCl[10]? = some (RX10, TX10, 25) from rfl) 22 (by decide) in_X10_readHintOf_X10 fl_X10_readHintOf_64 rfl rfl ?_
    refine G_put (ws2 := [((C 0), .inr (10, [.int (nI (Fn E)), .ref (C 1), .int (nI (Fk E)), .ref (C 2), .int (nI (Fh E)), .ref (C 3), .ref (C 4), .int (nI ac), .ref (C 5), .int (nI kp), .ref (C 6), .int (nI sz), .ref (C 7), .ref (C 8), .int (nI ln), .int (nI p8), .ref (C 9), .int (nI (Fn G)), .ref (C 10), .int (nI (Fk G)), .ref (C 11), .int (nI (Fdd G)), .int (nI (Fh G)), .ref (C 12), .ref (C 13)])), ((C 8), .inl (Z 0, 200, .inl (fun j_ => nI (L j_)))), ((C 9), .inl (Z 0, 3, .inl (fun j_ => nI (t8 j_))))]) (q := 46) dX10_readHintOf_43 0 rfl (show vwCl[10]? = some (RX10, TX10, 25) from rfl) cf_X10 22 (by decide) in_X10_readHintOf_X10 fl_X10_readHintOf_64 rfl (rfl) rfl (by simp only [List.length_cons, List.length_nil]; decide) rfl rfl ?_
    refine G_iload_n (q := 47) dX10_readHintOf_46 rfl 1 rfl rfl ?_
    exact G_iret dX10_readHintOf_47 rfl rfl (by first | exact ⟨_, _, v_f (by rw [hI]; rfl), by rw [hI]; rfl, fun x hx => by rw [hI] at hx; cases hx⟩ | exact ⟨_, _, v_t (by rw [hI]; rfl), by rw [hI, h_0]; rfl, fun x hx => by rw [hI] at hx; cases hx; exact e8⟩)
  · obtain ⟨e8, hg8⟩ := hn8 q g ho
    have hgb := (pnN_bd hpa ho).1
    have h_0 := hg8 0 (by decide)
    have b_0 := hgb 0
    refine G_top (y := bI true) (by rw [ho]; rfl) ?_
    refine G_if_eqF (tgt := 23) (q := 8) dX10_readHintOf_5 (by decide) rfl (by decide) ?_
    refine G_aload_n (q := 9) dX10_readHintOf_8 rfl 0 rfl rfl ?_
    refine G_iconst (v := nI 0) (q := 10) dX10_readHintOf_9 (by decide) rfl ?_
    refine G_iconst (v := nI 1) (q := 11) dX10_readHintOf_10 (by decide) rfl ?_
    refine G_bipush (v := nI 6) (q := 13) dX10_readHintOf_11 (by decide) rfl ?_
    refine G_callVP (As := [.int (nI 0), .int (nI 1), .int (nI 6)]) (rest := []) (st2 := [.int (bI (inB (nI (t8 0)) (nI 1) (nI 6)))]) (q := 16) dX10_readHintOf_13 [0, 2] (ct_X10_isTold Z C E G sz ac kp ln p8 t8 0 1 6 (by omega)) (fun h => h) cs_X10_isTold gX10_readHintOf_X10_isTold rfl ⟨Nat.le_of_ble_eq_true rfl, Nat.le_of_ble_eq_true rfl⟩ ⟨rfl, rfl⟩ 0 rfl (show vwCl[10]? = some (RX10, TX10, 25) from rfl) rfl (by decide) rfl rfl (Nat.le_of_ble_eq_true rfl) ⟨by decide, by decide⟩ rfl rfl ?_
    rcases Decidable.em (1 ≤ t8 0 ∧ t8 0 ≤ 6) with hr0 | hr0
    · have hI : itR L ln pa G 104 = some (addH G g, q) := itR_2 ho (by unfold addF; rw [if_neg (show ¬ (104 : Nat) = 114 by decide), if_neg (show ¬ (104 : Nat) = 115 by decide), if_neg (show ¬ (104 : Nat) = 100 by decide), if_pos rfl, if_pos (by omega)])
      refine G_top (y := bI true) (congrArg bI (inB_y (by omega) (by decide) hr0)) ?_
      refine G_if_eqF (tgt := 23) (q := 19) dX10_readHintOf_16 (by decide) rfl (by decide) ?_
      refine G_iconst (v := nI 1) (q := 20) dX10_readHintOf_19 (by decide) rfl ?_
      refine G_goto (q := 24) dX10_readHintOf_20 (by decide) ?_
      refine G_istore_n (lv2 := [(0, .ref (C 0)), (1, .int (nI 1))]) (q := 25) dX10_readHintOf_24 rfl (by decide) rfl rfl ?_
      refine G_aload_n (q := 26) dX10_readHintOf_25 rfl 0 rfl rfl ?_
      refine G_iload_n (q := 27) dX10_readHintOf_26 rfl 1 rfl rfl ?_
      refine G_if_eqF (tgt := 39) (q := 30) dX10_readHintOf_27 (by decide) rfl (by decide) ?_
      refine G_aload_n (q := 31) dX10_readHintOf_30 rfl 0 rfl rfl ?_
      refine G_get (q := 34) dX10_readHintOf_31 0 rfl (show vwCl[10]? = some (RX10, TX10, 25) from rfl) 16 (by decide) in_X10_readHintOf_X10 fl_X10_readHintOf_34 rfl rfl ?_
      refine G_iconst (v := nI 0) (q := 35) dX10_readHintOf_34 (by decide) rfl ?_
      refine G_iald (q := 36) dX10_readHintOf_35 2 rfl 0 (rfl) (by omega) (by omega) rfl ?_
      refine G_goto (q := 43) dX10_readHintOf_36 (by decide) ?_
      refine G_put (ws2 := [((C 0), .inr (10, [.int (nI (Fn E)), .ref (C 1), .int (nI (Fk E)), .ref (C 2), .int (nI (Fh E)), .ref (C 3), .ref (C 4), .int (nI ac), .ref (C 5), .int (nI kp), .ref (C 6), .int (nI sz), .ref (C 7), .ref (C 8), .int (nI ln), .int (nI p8), .ref (C 9), .int (nI (Fn G)), .ref (C 10), .int (nI (Fk G)), .ref (C 11), .int (nI (Fdd G)), .int (nI (t8 0)), .ref (C 12), .ref (C 13)])), ((C 8), .inl (Z 0, 200, .inl (fun j_ => nI (L j_)))), ((C 9), .inl (Z 0, 3, .inl (fun j_ => nI (t8 j_))))]) (q := 46) dX10_readHintOf_43 0 rfl (show vwCl[10]? = some (RX10, TX10, 25) from rfl) cf_X10 22 (by decide) in_X10_readHintOf_X10 fl_X10_readHintOf_64 rfl (rfl) rfl (by simp only [List.length_cons, List.length_nil]; decide) rfl rfl ?_
      refine G_iload_n (q := 47) dX10_readHintOf_46 rfl 1 rfl rfl ?_
      exact G_iret dX10_readHintOf_47 rfl rfl (by first | exact ⟨_, _, v_f (by rw [hI]; rfl), by rw [hI]; rfl, fun x hx => by rw [hI] at hx; cases hx⟩ | exact ⟨_, _, v_t (by rw [hI]; rfl), by rw [hI, h_0]; rfl, fun x hx => by rw [hI] at hx; cases hx; exact e8⟩)
    · have hI : itR L ln pa G 104 = none := itR_1 ho (by unfold addF; rw [if_neg (show ¬ (104 : Nat) = 114 by decide), if_neg (show ¬ (104 : Nat) = 115 by decide), if_neg (show ¬ (104 : Nat) = 100 by decide), if_pos rfl, if_neg (by omega)])
      refine G_top (y := bI false) (congrArg bI (inB_n (by omega) (by decide) (by decide) hr0)) ?_
      refine G_if_eqT (tgt := 23) dX10_readHintOf_16 (by decide) (by decide) ?_
      refine G_iconst (v := nI 0) (q := 24) dX10_readHintOf_23 (by decide) rfl ?_
      refine G_istore_n (lv2 := [(0, .ref (C 0)), (1, .int (nI 0))]) (q := 25) dX10_readHintOf_24 rfl (by decide) rfl rfl ?_
      refine G_aload_n (q := 26) dX10_readHintOf_25 rfl 0 rfl rfl ?_
      refine G_iload_n (q := 27) dX10_readHintOf_26 rfl 1 rfl rfl ?_
      refine G_if_eqT (tgt := 39) dX10_readHintOf_27 (by decide) (by decide) ?_
      refine G_aload_n (q := 40) dX10_readHintOf_39 rfl 0 rfl rfl ?_
      refine G_get (q := 43) dX10_readHintOf_40 0 rfl (show vwCl[10]? = some (RX10, TX10, 25) from rfl) 22 (by decide) in_X10_readHintOf_X10 fl_X10_readHintOf_64 rfl rfl ?_
      refine G_put (ws2 := [((C 0), .inr (10, [.int (nI (Fn E)), .ref (C 1), .int (nI (Fk E)), .ref (C 2), .int (nI (Fh E)), .ref (C 3), .ref (C 4), .int (nI ac), .ref (C 5), .int (nI kp), .ref (C 6), .int (nI sz), .ref (C 7), .ref (C 8), .int (nI ln), .int (nI p8), .ref (C 9), .int (nI (Fn G)), .ref (C 10), .int (nI (Fk G)), .ref (C 11), .int (nI (Fdd G)), .int (nI (Fh G)), .ref (C 12), .ref (C 13)])), ((C 8), .inl (Z 0, 200, .inl (fun j_ => nI (L j_)))), ((C 9), .inl (Z 0, 3, .inl (fun j_ => nI (t8 j_))))]) (q := 46) dX10_readHintOf_43 0 rfl (show vwCl[10]? = some (RX10, TX10, 25) from rfl) cf_X10 22 (by decide) in_X10_readHintOf_X10 fl_X10_readHintOf_64 rfl (rfl) rfl (by simp only [List.length_cons, List.length_nil]; decide) rfl rfl ?_
      refine G_iload_n (q := 47) dX10_readHintOf_46 rfl 1 rfl rfl ?_
      exact G_iret dX10_readHintOf_47 rfl rfl (by first | exact ⟨_, _, v_f (by rw [hI]; rfl), by rw [hI]; rfl, fun x hx => by rw [hI] at hx; cases hx⟩ | exact ⟨_, _, v_t (by rw [hI]; rfl), by rw [hI, h_0]; rfl, fun x hx => by rw [hI] at hx; cases hx; exact e8⟩)
