
/-! PART 03: mathematics that both sides are tied to -/
theorem and1_lt (x : Nat) : (x &&& 1) < 2147483648 := by
  rw [Nat.and_one_is_mod]; omega
/-- how long ago, when those of the set S ask now -/
def agoS (ago : Nat → Int32) (S i : Nat) : Int32 := if (S >>> i) &&& 1 = 1 then nI 0 else ago i
/-- the first of the greatest among the first i, and how long -/
def hb (ago : Nat → Int32) (S : Nat) : Nat → Nat × Int32
  | 0 => (0, -1)
  | i + 1 => if agoS ago S i ≤ (hb ago S i).2 then hb ago S i else (i, agoS ago S i)
theorem hb_le {ago : Nat → Int32} {S i : Nat} (h : agoS ago S i ≤ (hb ago S i).2) : hb ago S (i + 1) = hb ago S i := if_pos h
theorem hb_nle {ago : Nat → Int32} {S i : Nat} (h : ¬ agoS ago S i ≤ (hb ago S i).2) : hb ago S (i + 1) = (i, agoS ago S i) := if_neg h
theorem hb_lt (ago : Nat → Int32) (S : Nat) : ∀ i, (hb ago S i).1 ≤ i
  | 0 => Nat.le_refl _
  | i + 1 => by
    by_cases h : agoS ago S i ≤ (hb ago S i).2
    · rw [hb_le h]; exact Nat.le_succ_of_le (hb_lt ago S i)
    · rw [hb_nle h]; exact Nat.le_succ i
theorem hb_bd (ago : Nat → Int32) (S : Nat) : ∀ i, 0 < i → (hb ago S i).1 < i
  | 1, _ => by
    by_cases h : agoS ago S 0 ≤ (hb ago S 0).2
    · rw [hb_le h]; exact Nat.one_pos
    · rw [hb_nle h]; exact Nat.one_pos
  | i + 2, _ => by
    by_cases h : agoS ago S (i + 1) ≤ (hb ago S (i + 1)).2
    · rw [hb_le h]; exact Nat.lt_succ_of_lt (hb_bd ago S (i + 1) (Nat.succ_pos i))
    · rw [hb_nle h]; exact Nat.lt_succ_self (i + 1)
def hbw (ago : Nat → Int32) (n S : Nat) : Nat := (hb ago S n).1
def agoF (day : Int32) (f : Nat → Int32) : Nat → Int32 := fun i => day - f i

theorem cf_X0 : CF TX0 3 tyX0 := ⟨tyX0_ok, nmX0⟩
theorem cf_X1 : CF TX1 8 tyX1 := ⟨tyX1_ok, nmX1⟩
theorem cf_X2 : CF TX2 9 tyX2 := ⟨tyX2_ok, nmX2⟩
theorem cf_X3 : CF TX3 3 tyX3 := ⟨tyX3_ok, nmX3⟩
theorem cf_X4 : CF TX4 3 tyX4 := ⟨tyX4_ok, nmX4⟩
theorem cf_X5 : CF TX5 4 tyX5 := ⟨tyX5_ok, nmX5⟩
theorem cf_X6 : CF TX6 5 tyX6 := ⟨tyX6_ok, nmX6⟩
theorem cf_X7 : CF TX7 3 tyX7 := ⟨tyX7_ok, nmX7⟩
theorem cf_X8 : CF TX8 2 tyX8 := ⟨tyX8_ok, nmX8⟩
theorem cf_X9 : CF TX9 10 tyX9 := ⟨tyX9_ok, nmX9⟩
theorem cf_X10 : CF TX10 25 tyX10 := ⟨tyX10_ok, nmX10⟩
theorem cs_X6_relatives : CS yX6_relatives wsX6_relatives cX6_relatives 1 (some .int) 0 := ⟨⟨_, rfl⟩, by decide +kernel, by decide +kernel, by decide +kernel⟩
theorem fl_X6_relatives_27 : Cond.fieldLink RX6 27 (TX6 1).1 (TX6 1).2.1 (TX6 1).2.2.1 ∈ wsX6_relatives := by decide +kernel
theorem in_X6_relatives_X6 : ∀ w ∈ u_ws RX6 TX6 5, w ∈ wsX6_relatives := by decide +kernel
set_option maxHeartbeats 4000000 in
set_option maxRecDepth 100000 in
theorem ct_X6_relatives (Z : Nat → ClassId) (h : Nat) (a : Nat) (f : Nat → Int32) (n : Nat) (day : Int32) (ak : Bool) (ow : Int32) : Ct false yX6_relatives wsX6_relatives ({ frames := 0, cells := 0, slots := 0, locals := 0 }) [.ref h] Z [(h, .inr (6, [.ref a, .int (nI n), .int day, .int (bI ak), .int ow])), (a, .inl (Z 0, 6, .inl f))] (rI (nI n) [(h, .inr (6, [.ref a, .int (nI n), .int day, .int (bI ak), .int ow])), (a, .inl (Z 0, 6, .inl f))]) 0 0 := by
  refine Ct_of (cc := cX6_relatives) (maxL := 1) (ret := (some .int)) (own := RX6) false false (by decide +kernel) rfl rfl (by decide) (fun v w h => by rw [h.1]; exact ⟨_, rfl, rfl⟩) (Nat.le_of_ble_eq_true rfl) (fun X => ?_)
  show GG X _ _ _ _ _ _ _ _ _ _ _ _ _ _ [(0, .ref h)] _ _
  refine G_aload_n (q := 1) dX6_relatives_0 rfl 0 rfl rfl ?_
  refine G_get (q := 4) dX6_relatives_1 0 rfl (show vwCl[6]? = some (RX6, TX6, 5) from rfl) 1 (by decide) in_X6_relatives_X6 fl_X6_relatives_27 rfl rfl ?_
  exact G_iret dX6_relatives_4 rfl rfl ⟨rfl, rfl⟩
theorem cs_X6_day : CS yX6_day wsX6_day cX6_day 1 (some .int) 0 := ⟨⟨_, rfl⟩, by decide +kernel, by decide +kernel, by decide +kernel⟩
theorem fl_X6_day_34 : Cond.fieldLink RX6 34 (TX6 2).1 (TX6 2).2.1 (TX6 2).2.2.1 ∈ wsX6_day := by decide +kernel
theorem in_X6_day_X6 : ∀ w ∈ u_ws RX6 TX6 5, w ∈ wsX6_day := by decide +kernel
set_option maxHeartbeats 4000000 in
set_option maxRecDepth 100000 in
theorem ct_X6_day (Z : Nat → ClassId) (h : Nat) (a : Nat) (f : Nat → Int32) (n : Nat) (day : Int32) (ak : Bool) (ow : Int32) : Ct false yX6_day wsX6_day ({ frames := 0, cells := 0, slots := 0, locals := 0 }) [.ref h] Z [(h, .inr (6, [.ref a, .int (nI n), .int day, .int (bI ak), .int ow])), (a, .inl (Z 0, 6, .inl f))] (rI (day) [(h, .inr (6, [.ref a, .int (nI n), .int day, .int (bI ak), .int ow])), (a, .inl (Z 0, 6, .inl f))]) 0 0 := by
  refine Ct_of (cc := cX6_day) (maxL := 1) (ret := (some .int)) (own := RX6) false false (by decide +kernel) rfl rfl (by decide) (fun v w h => by rw [h.1]; exact ⟨_, rfl, rfl⟩) (Nat.le_of_ble_eq_true rfl) (fun X => ?_)
  show GG X _ _ _ _ _ _ _ _ _ _ _ _ _ _ [(0, .ref h)] _ _
  refine G_aload_n (q := 1) dX6_day_0 rfl 0 rfl rfl ?_
  refine G_get (q := 4) dX6_day_1 0 rfl (show vwCl[6]? = some (RX6, TX6, 5) from rfl) 2 (by decide) in_X6_day_X6 fl_X6_day_34 rfl rfl ?_
  exact G_iret dX6_day_4 rfl rfl ⟨rfl, rfl⟩
theorem cs_X6_owner : CS yX6_owner wsX6_owner cX6_owner 1 (some .int) 0 := ⟨⟨_, rfl⟩, by decide +kernel, by decide +kernel, by decide +kernel⟩
theorem fl_X6_owner_41 : Cond.fieldLink RX6 41 (TX6 4).1 (TX6 4).2.1 (TX6 4).2.2.1 ∈ wsX6_owner := by decide +kernel
theorem in_X6_owner_X6 : ∀ w ∈ u_ws RX6 TX6 5, w ∈ wsX6_owner := by decide +kernel
set_option maxHeartbeats 4000000 in
set_option maxRecDepth 100000 in
theorem ct_X6_owner (Z : Nat → ClassId) (h : Nat) (a : Nat) (f : Nat → Int32) (n : Nat) (day : Int32) (ak : Bool) (ow : Int32) : Ct false yX6_owner wsX6_owner ({ frames := 0, cells := 0, slots := 0, locals := 0 }) [.ref h] Z [(h, .inr (6, [.ref a, .int (nI n), .int day, .int (bI ak), .int ow])), (a, .inl (Z 0, 6, .inl f))] (rI (ow) [(h, .inr (6, [.ref a, .int (nI n), .int day, .int (bI ak), .int ow])), (a, .inl (Z 0, 6, .inl f))]) 0 0 := by
  refine Ct_of (cc := cX6_owner) (maxL := 1) (ret := (some .int)) (own := RX6) false false (by decide +kernel) rfl rfl (by decide) (fun v w h => by rw [h.1]; exact ⟨_, rfl, rfl⟩) (Nat.le_of_ble_eq_true rfl) (fun X => ?_)
  show GG X _ _ _ _ _ _ _ _ _ _ _ _ _ _ [(0, .ref h)] _ _
  refine G_aload_n (q := 1) dX6_owner_0 rfl 0 rfl rfl ?_
  refine G_get (q := 4) dX6_owner_1 0 rfl (show vwCl[6]? = some (RX6, TX6, 5) from rfl) 4 (by decide) in_X6_owner_X6 fl_X6_owner_41 rfl rfl ?_
  exact G_iret dX6_owner_4 rfl rfl ⟨rfl, rfl⟩
theorem cs_X6_ago : CS yX6_ago wsX6_ago cX6_ago 2 (some .int) 1 := ⟨⟨_, rfl⟩, by decide +kernel, by decide +kernel, by decide +kernel⟩
theorem fl_X6_ago_27 : Cond.fieldLink RX6 27 (TX6 1).1 (TX6 1).2.1 (TX6 1).2.2.1 ∈ wsX6_ago := by decide +kernel
theorem fl_X6_ago_34 : Cond.fieldLink RX6 34 (TX6 2).1 (TX6 2).2.1 (TX6 2).2.2.1 ∈ wsX6_ago := by decide +kernel
theorem fl_X6_ago_9 : Cond.fieldLink RX6 9 (TX6 0).1 (TX6 0).2.1 (TX6 0).2.2.1 ∈ wsX6_ago := by decide +kernel
theorem in_X6_ago_X6 : ∀ w ∈ u_ws RX6 TX6 5, w ∈ wsX6_ago := by decide +kernel
set_option maxHeartbeats 4000000 in
set_option maxRecDepth 100000 in
/-- ago(i) of a relative -/
theorem ct_X6_ago (Z : Nat → ClassId) (h : Nat) (a : Nat) (f : Nat → Int32) (n : Nat) (day : Int32) (ak : Bool) (ow : Int32) (j : Nat) (hn : n ≤ 6) (hj : j < n): Ct false yX6_ago wsX6_ago ({ frames := 0, cells := 0, slots := 0, locals := 0 }) [.ref h, .int (nI j)] Z [(h, .inr (6, [.ref a, .int (nI n), .int day, .int (bI ak), .int ow])), (a, .inl (Z 0, 6, .inl f))] (rI (agoF day f j) [(h, .inr (6, [.ref a, .int (nI n), .int day, .int (bI ak), .int ow])), (a, .inl (Z 0, 6, .inl f))]) 0 0 := by
  refine Ct_of (cc := cX6_ago) (maxL := 2) (ret := (some .int)) (own := RX6) false false (by decide +kernel) rfl rfl (by decide) (fun v w h => by rw [h.1]; exact ⟨_, rfl, rfl⟩) (Nat.le_of_ble_eq_true rfl) (fun X => ?_)
  show GG X _ _ _ _ _ _ _ _ _ _ _ _ _ _ [(0, .ref h), (1, .int (nI j))] _ _
  refine G_iload_n (q := 1) dX6_ago_0 rfl 1 rfl rfl ?_
  refine G_if_ltN (tgt := 26) (q := 4) dX6_ago_1 (by decide) rfl (by omega) (fun c1 => ?_) (fun c1 => ?_)
  · exact c1.elim
  · refine G_iload_n (q := 5) dX6_ago_4 rfl 1 rfl rfl ?_
    refine G_aload_n (q := 6) dX6_ago_5 rfl 0 rfl rfl ?_
    refine G_get (q := 9) dX6_ago_6 0 rfl (show vwCl[6]? = some (RX6, TX6, 5) from rfl) 1 (by decide) in_X6_ago_X6 fl_X6_ago_27 rfl rfl ?_
    refine G_icmp_geN (tgt := 26) (q := 12) dX6_ago_9 (by decide) rfl (by omega) (by omega) (fun c9 => ?_) (fun c9 => ?_)
    · exfalso; omega
    · refine G_aload_n (q := 13) dX6_ago_12 rfl 0 rfl rfl ?_
      refine G_get (q := 16) dX6_ago_13 0 rfl (show vwCl[6]? = some (RX6, TX6, 5) from rfl) 2 (by decide) in_X6_ago_X6 fl_X6_ago_34 rfl rfl ?_
      refine G_aload_n (q := 17) dX6_ago_16 rfl 0 rfl rfl ?_
      refine G_get (q := 20) dX6_ago_17 0 rfl (show vwCl[6]? = some (RX6, TX6, 5) from rfl) 0 (by decide) in_X6_ago_X6 fl_X6_ago_9 rfl rfl ?_
      refine G_iload_n (q := 21) dX6_ago_20 rfl 1 rfl rfl ?_
      refine G_iald (q := 22) dX6_ago_21 1 rfl j (rfl) (by omega) (by omega) rfl ?_
      refine G_isub (q := 23) dX6_ago_22 rfl ?_
      refine G_goto (q := 27) dX6_ago_23 (by decide) ?_
      refine GG.of (ws2 := [(h, .inr (6, [.ref a, .int (nI n), .int day, .int (bI ak), .int ow])), (a, .inl (Z 0, 6, .inl f))]) (lv2 := [(0, .ref h), (1, .int (nI j))]) (st2 := [.int (agoF day f j)]) (rfl) (rfl) (st_c (vi_c (show day - (f j) = agoF day f j from rfl)) (rfl)) ?_
      exact G_iret dX6_ago_27 rfl rfl ⟨rfl, rfl⟩
theorem cs_X6_ask : CS yX6_ask wsX6_ask cX6_ask 2 none 1 := ⟨⟨_, rfl⟩, by decide +kernel, by decide +kernel, by decide +kernel⟩
theorem fl_X6_ask_27 : Cond.fieldLink RX6 27 (TX6 1).1 (TX6 1).2.1 (TX6 1).2.2.1 ∈ wsX6_ask := by decide +kernel
theorem fl_X6_ask_34 : Cond.fieldLink RX6 34 (TX6 2).1 (TX6 2).2.1 (TX6 2).2.2.1 ∈ wsX6_ask := by decide +kernel
theorem fl_X6_ask_37 : Cond.fieldLink RX6 37 (TX6 3).1 (TX6 3).2.1 (TX6 3).2.2.1 ∈ wsX6_ask := by decide +kernel
theorem fl_X6_ask_9 : Cond.fieldLink RX6 9 (TX6 0).1 (TX6 0).2.1 (TX6 0).2.2.1 ∈ wsX6_ask := by decide +kernel
theorem in_X6_ask_X6 : ∀ w ∈ u_ws RX6 TX6 5, w ∈ wsX6_ask := by decide +kernel
set_option maxHeartbeats 4000000 in
set_option maxRecDepth 100000 in
theorem ct_X6_ask (Z : Nat → ClassId) (h : Nat) (a : Nat) (f : Nat → Int32) (n : Nat) (day : Int32) (ak : Bool) (ow : Int32) (j : Nat) (hn : n ≤ 6) (hj : j < n): Ct false yX6_ask wsX6_ask ({ frames := 0, cells := 0, slots := 0, locals := 0 }) [.ref h, .int (nI j)] Z [(h, .inr (6, [.ref a, .int (nI n), .int day, .int (bI ak), .int ow])), (a, .inl (Z 0, 6, .inl f))] (rV [(h, .inr (6, [.ref a, .int (nI n), .int day, .int (bI true), .int ow])), (a, .inl (Z 0, 6, .inl (upd f j day)))]) 0 0 := by
  refine Ct_of (cc := cX6_ask) (maxL := 2) (ret := none) (own := RX6) false false (by decide +kernel) rfl rfl (by decide) (fun v w h => by rw [h.1]; rfl) (Nat.le_of_ble_eq_true rfl) (fun X => ?_)
  show GG X _ _ _ _ _ _ _ _ _ _ _ _ _ _ [(0, .ref h), (1, .int (nI j))] _ _
  refine G_iload_n (q := 1) dX6_ask_0 rfl 1 rfl rfl ?_
  refine G_if_ltN (tgt := 27) (q := 4) dX6_ask_1 (by decide) rfl (by omega) (fun c1 => ?_) (fun c1 => ?_)
  · exact c1.elim
  · refine G_iload_n (q := 5) dX6_ask_4 rfl 1 rfl rfl ?_
    refine G_aload_n (q := 6) dX6_ask_5 rfl 0 rfl rfl ?_
    refine G_get (q := 9) dX6_ask_6 0 rfl (show vwCl[6]? = some (RX6, TX6, 5) from rfl) 1 (by decide) in_X6_ask_X6 fl_X6_ask_27 rfl rfl ?_
    refine G_icmp_geN (tgt := 27) (q := 12) dX6_ask_9 (by decide) rfl (by omega) (by omega) (fun c9 => ?_) (fun c9 => ?_)
    · exfalso; omega
    · refine G_aload_n (q := 13) dX6_ask_12 rfl 0 rfl rfl ?_
      refine G_get (q := 16) dX6_ask_13 0 rfl (show vwCl[6]? = some (RX6, TX6, 5) from rfl) 0 (by decide) in_X6_ask_X6 fl_X6_ask_9 rfl rfl ?_
      refine G_iload_n (q := 17) dX6_ask_16 rfl 1 rfl rfl ?_
      refine G_aload_n (q := 18) dX6_ask_17 rfl 0 rfl rfl ?_
      refine G_get (q := 21) dX6_ask_18 0 rfl (show vwCl[6]? = some (RX6, TX6, 5) from rfl) 2 (by decide) in_X6_ask_X6 fl_X6_ask_34 rfl rfl ?_
      refine G_iast (ws2 := [(h, .inr (6, [.ref a, .int (nI n), .int day, .int (bI ak), .int ow])), (a, .inl (Z 0, 6, .inl (upd f j day)))]) (q := 22) dX6_ask_21 1 rfl j (rfl) (by omega) (by omega) rfl rfl ?_
      refine G_aload_n (q := 23) dX6_ask_22 rfl 0 rfl rfl ?_
      refine G_iconst (v := nI 1) (q := 24) dX6_ask_23 (by decide) rfl ?_
      refine G_put (ws2 := [(h, .inr (6, [.ref a, .int (nI n), .int day, .int (nI 1), .int ow])), (a, .inl (Z 0, 6, .inl (upd f j day)))]) (q := 27) dX6_ask_24 0 rfl (show vwCl[6]? = some (RX6, TX6, 5) from rfl) cf_X6 3 (by decide) in_X6_ask_X6 fl_X6_ask_37 rfl (by decide) rfl (by simp only [List.length_cons, List.length_nil]; decide) rfl rfl ?_
      refine GG.of (ws2 := [(h, .inr (6, [.ref a, .int (nI n), .int day, .int (bI true), .int ow])), (a, .inl (Z 0, 6, .inl (upd f j day)))]) (lv2 := [(0, .ref h), (1, .int (nI j))]) (st2 := []) (ws_c (rfl) (ws_c (rfl) (rfl))) (rfl) (rfl) ?_
      exact G_ret dX6_ask_27 rfl rfl ⟨rfl, rfl⟩
theorem cs_X6_longestIf : CS yX6_longestIf wsX6_longestIf cX6_longestIf 6 (some .int) 1 := ⟨⟨_, rfl⟩, by decide +kernel, by decide +kernel, by decide +kernel⟩
theorem fl_X6_longestIf_27 : Cond.fieldLink RX6 27 (TX6 1).1 (TX6 1).2.1 (TX6 1).2.2.1 ∈ wsX6_longestIf := by decide +kernel
theorem in_X6_longestIf_X6 : ∀ w ∈ u_ws RX6 TX6 5, w ∈ wsX6_longestIf := by decide +kernel
set_option maxHeartbeats 4000000 in
set_option maxRecDepth 100000 in
/-- longestIf(set) -/
theorem ct_X6_longestIf (Z : Nat → ClassId) (h : Nat) (a : Nat) (f : Nat → Int32) (n : Nat) (day : Int32) (ak : Bool) (ow : Int32) (S : Nat) (hn : n ≤ 6) (hS : S < 64): Ct false yX6_longestIf wsX6_longestIf ({ frames := 1, cells := 0, slots := 0, locals := 21 }) [.ref h, .int (nI S)] Z [(h, .inr (6, [.ref a, .int (nI n), .int day, .int (bI ak), .int ow])), (a, .inl (Z 0, 6, .inl f))] (rI (nI (hbw (agoF day f) n S)) [(h, .inr (6, [.ref a, .int (nI n), .int day, .int (bI ak), .int ow])), (a, .inl (Z 0, 6, .inl f))]) 0 0 := by
  refine Ct_of (cc := cX6_longestIf) (maxL := 6) (ret := (some .int)) (own := RX6) false false (by decide +kernel) rfl rfl (by decide) (fun v w h => by rw [h.1]; exact ⟨_, rfl, rfl⟩) (Nat.le_of_ble_eq_true rfl) (fun X => ?_)
  show GG X _ _ _ _ _ _ _ _ _ _ _ _ _ _ [(0, .ref h), (1, .int (nI S))] _ _
  refine G_iconst (v := nI 0) (q := 1) dX6_longestIf_0 (by decide) rfl ?_
  refine G_istore_n (lv2 := [(0, .ref h), (1, .int (nI S)), (2, .int (nI 0))]) (q := 2) dX6_longestIf_1 rfl (by decide) rfl rfl ?_
  refine G_iconst (v := -1) (q := 3) dX6_longestIf_2 (by decide) rfl ?_
  refine G_istore_n (lv2 := [(0, .ref h), (1, .int (nI S)), (2, .int (nI 0)), (3, .int (-1))]) (q := 4) dX6_longestIf_3 rfl (by decide) rfl rfl ?_
  refine G_iconst (v := nI 0) (q := 5) dX6_longestIf_4 (by decide) rfl ?_
  refine G_istore (lv2 := [(0, .ref h), (1, .int (nI S)), (2, .int (nI 0)), (3, .int (-1)), (4, .int (nI 0))]) (q := 7) dX6_longestIf_5 (by decide) rfl rfl ?_
  have L7_1 : ∀ fu1 i : Nat, i ≤ n → n + 1 ≤ i + fu1 → GG X ({ frames := 1, cells := 0, slots := 0, locals := 21 }) cX6_longestIf 6 wsX6_longestIf RX6 false false Z (rI (nI (hbw (agoF day f) n S)) [(h, .inr (6, [.ref a, .int (nI n), .int day, .int (bI ak), .int ow])), (a, .inl (Z 0, 6, .inl f))]) 0 0 0 0 [(h, .inr (6, [.ref a, .int (nI n), .int day, .int (bI ak), .int ow])), (a, .inl (Z 0, 6, .inl f))] [(0, .ref h), (1, .int (nI S)), (2, .int (nI ((hb (agoF day f) S i).1))), (3, .int ((hb (agoF day f) S i).2)), (4, .int (nI i))] [] 7 := by
    intro fu1
    induction fu1 with
    | zero => intro i q1 q2; exact absurd q2 (by omega)
    | succ fu1 ih1 =>
      intro i hi1 hf1 
      refine G_iload (q := 9) dX6_longestIf_7 4 rfl rfl ?_
      refine G_aload_n (q := 10) dX6_longestIf_9 rfl 0 rfl rfl ?_
      refine G_get (q := 13) dX6_longestIf_10 0 rfl (show vwCl[6]? = some (RX6, TX6, 5) from rfl) 1 (by decide) in_X6_longestIf_X6 fl_X6_longestIf_27 rfl rfl ?_
      refine G_icmp_geN (tgt := 56) (q := 16) dX6_longestIf_13 (by decide) rfl (by omega) (by omega) (fun c13 => ?_) (fun c13 => ?_)
      · have e9 : n = i := by omega
        subst e9
        refine G_iload_n (q := 57) dX6_longestIf_56 rfl 2 rfl rfl ?_
        refine GG.of (ws2 := [(h, .inr (6, [.ref a, .int (nI n), .int day, .int (bI ak), .int ow])), (a, .inl (Z 0, 6, .inl f))]) (lv2 := [(0, .ref h), (1, .int (nI S)), (2, .int (nI ((hb (agoF day f) S n).1))), (3, .int ((hb (agoF day f) S n).2)), (4, .int (nI n))]) (st2 := [.int (nI (hbw (agoF day f) n S))]) (rfl) (rfl) (st_c (vi_c (show nI ((hb (agoF day f) S n).1) = nI (hbw (agoF day f) n S) from rfl)) (rfl)) ?_
        exact G_iret dX6_longestIf_57 rfl rfl ⟨rfl, rfl⟩
      · refine G_iload_n (q := 17) dX6_longestIf_16 rfl 1 rfl rfl ?_
        refine G_iload (q := 19) dX6_longestIf_17 4 rfl rfl ?_
        refine G_ishrN (a := S) (b := i) (q := 20) dX6_longestIf_19 (by omega) (by omega) rfl ?_
        refine G_iconst (v := nI 1) (q := 21) dX6_longestIf_20 (by decide) rfl ?_
        refine G_iandN (a := (S >>> i)) (b := 1) (q := 22) dX6_longestIf_21 rfl ?_
        refine G_iconst (v := nI 1) (q := 23) dX6_longestIf_22 (by decide) rfl ?_
        have J36_2 : GG X ({ frames := 1, cells := 0, slots := 0, locals := 21 }) cX6_longestIf 6 wsX6_longestIf RX6 false false Z (rI (nI (hbw (agoF day f) n S)) [(h, .inr (6, [.ref a, .int (nI n), .int day, .int (bI ak), .int ow])), (a, .inl (Z 0, 6, .inl f))]) 0 0 0 0 [(h, .inr (6, [.ref a, .int (nI n), .int day, .int (bI ak), .int ow])), (a, .inl (Z 0, 6, .inl f))] [(0, .ref h), (1, .int (nI S)), (2, .int (nI ((hb (agoF day f) S i).1))), (3, .int ((hb (agoF day f) S i).2)), (4, .int (nI i))] [.int (agoS (agoF day f) S i)] 36 := by
          refine G_istore (lv2 := [(0, .ref h), (1, .int (nI S)), (2, .int (nI ((hb (agoF day f) S i).1))), (3, .int ((hb (agoF day f) S i).2)), (4, .int (nI i)), (5, .int (agoS (agoF day f) S i))]) (q := 38) dX6_longestIf_36 (by decide) rfl rfl ?_
          refine G_iload (q := 40) dX6_longestIf_38 5 rfl rfl ?_
          refine G_iload_n (q := 41) dX6_longestIf_40 rfl 3 rfl rfl ?_
          refine G_icmp_le (tgt := 50) (q := 44) dX6_longestIf_41 (by decide) rfl (fun c41 => ?_) (fun c41 => ?_)
          · refine G_iincN (x := i) (d := 1) (lv2 := [(0, .ref h), (1, .int (nI S)), (2, .int (nI ((hb (agoF day f) S i).1))), (3, .int ((hb (agoF day f) S i).2)), (4, .int (nI (i + 1))), (5, .int (agoS (agoF day f) S i))]) (q := 53) dX6_longestIf_50 4 rfl (by decide) (by decide) rfl rfl ?_
            refine G_goto (q := 7) dX6_longestIf_53 (by decide) ?_
            refine GG.pick (lv2 := [(0, .ref h), (1, .int (nI S)), (2, .int (nI ((hb (agoF day f) S i).1))), (3, .int ((hb (agoF day f) S i).2)), (4, .int (nI (i + 1)))]) [0, 1, 2, 3, 4] rfl ?_
            refine GG.of (ws2 := [(h, .inr (6, [.ref a, .int (nI n), .int day, .int (bI ak), .int ow])), (a, .inl (Z 0, 6, .inl f))]) (lv2 := [(0, .ref h), (1, .int (nI S)), (2, .int (nI ((hb (agoF day f) S (i + 1)).1))), (3, .int ((hb (agoF day f) S (i + 1)).2)), (4, .int (nI (i + 1)))]) (st2 := []) (rfl) (lv_c rfl (lv_c rfl (lv_c (vi_c (show nI ((hb (agoF day f) S i).1) = nI ((hb (agoF day f) S (i + 1)).1) from by first | rw [hb_le c41] | rw [hb_nle c41])) (lv_c (vi_c (show (hb (agoF day f) S i).2 = (hb (agoF day f) S (i + 1)).2 from by first | rw [hb_le c41] | rw [hb_nle c41])) (lv_c rfl (rfl)))))) (rfl) ?_
            exact ih1 (i + 1) (by omega) (by omega) 
          · refine G_iload (q := 46) dX6_longestIf_44 5 rfl rfl ?_
            refine G_istore_n (lv2 := [(0, .ref h), (1, .int (nI S)), (2, .int (nI ((hb (agoF day f) S i).1))), (3, .int (agoS (agoF day f) S i)), (4, .int (nI i)), (5, .int (agoS (agoF day f) S i))]) (q := 47) dX6_longestIf_46 rfl (by decide) rfl rfl ?_
            refine G_iload (q := 49) dX6_longestIf_47 4 rfl rfl ?_
            refine G_istore_n (lv2 := [(0, .ref h), (1, .int (nI S)), (2, .int (nI i)), (3, .int (agoS (agoF day f) S i)), (4, .int (nI i)), (5, .int (agoS (agoF day f) S i))]) (q := 50) dX6_longestIf_49 rfl (by decide) rfl rfl ?_
            refine G_iincN (x := i) (d := 1) (lv2 := [(0, .ref h), (1, .int (nI S)), (2, .int (nI i)), (3, .int (agoS (agoF day f) S i)), (4, .int (nI (i + 1))), (5, .int (agoS (agoF day f) S i))]) (q := 53) dX6_longestIf_50 4 rfl (by decide) (by decide) rfl rfl ?_
            refine G_goto (q := 7) dX6_longestIf_53 (by decide) ?_
            refine GG.pick (lv2 := [(0, .ref h), (1, .int (nI S)), (2, .int (nI i)), (3, .int (agoS (agoF day f) S i)), (4, .int (nI (i + 1)))]) [0, 1, 2, 3, 4] rfl ?_
            refine GG.of (ws2 := [(h, .inr (6, [.ref a, .int (nI n), .int day, .int (bI ak), .int ow])), (a, .inl (Z 0, 6, .inl f))]) (lv2 := [(0, .ref h), (1, .int (nI S)), (2, .int (nI ((hb (agoF day f) S (i + 1)).1))), (3, .int ((hb (agoF day f) S (i + 1)).2)), (4, .int (nI (i + 1)))]) (st2 := []) (rfl) (lv_c rfl (lv_c rfl (lv_c (vi_c (show nI i = nI ((hb (agoF day f) S (i + 1)).1) from by first | rw [hb_le c41] | rw [hb_nle c41])) (lv_c (vi_c (show agoS (agoF day f) S i = (hb (agoF day f) S (i + 1)).2 from by first | rw [hb_le c41] | rw [hb_nle c41])) (lv_c rfl (rfl)))))) (rfl) ?_
            exact ih1 (i + 1) (by omega) (by omega) 
        refine G_icmp_neN (tgt := 30) (q := 26) dX6_longestIf_23 (by decide) rfl (and1_lt _) (by omega) (fun c23 => ?_) (fun c23 => ?_)
        · refine G_aload_n (q := 31) dX6_longestIf_30 rfl 0 rfl rfl ?_
          refine G_iload (q := 33) dX6_longestIf_31 4 rfl rfl ?_
          refine G_callVP (As := [.int (nI i)]) (rest := []) (st2 := [.int (agoF day f i)]) (q := 36) dX6_longestIf_33 [0, 1] (ct_X6_ago Z h a f n day ak ow i (by omega) (by omega)) (fun h => h) cs_X6_ago gX6_longestIf_X6_ago rfl ⟨Nat.le_of_ble_eq_true rfl, Nat.le_of_ble_eq_true rfl⟩ ⟨rfl, rfl⟩ 0 rfl (show vwCl[6]? = some (RX6, TX6, 5) from rfl) rfl (by decide) rfl rfl (by decide) ⟨by decide, by decide⟩ rfl rfl ?_
          refine GG.of (ws2 := [(h, .inr (6, [.ref a, .int (nI n), .int day, .int (bI ak), .int ow])), (a, .inl (Z 0, 6, .inl f))]) (lv2 := [(0, .ref h), (1, .int (nI S)), (2, .int (nI ((hb (agoF day f) S i).1))), (3, .int ((hb (agoF day f) S i).2)), (4, .int (nI i))]) (st2 := [.int (agoS (agoF day f) S i)]) (rfl) (rfl) (st_c (vi_c (show agoF day f i = agoS (agoF day f) S i from by first | exact (if_pos c23).symm | exact (if_neg c23).symm)) (rfl)) ?_
          exact J36_2
        · refine G_iconst (v := nI 0) (q := 27) dX6_longestIf_26 (by decide) rfl ?_
          refine G_goto (q := 36) dX6_longestIf_27 (by decide) ?_
          refine GG.of (ws2 := [(h, .inr (6, [.ref a, .int (nI n), .int day, .int (bI ak), .int ow])), (a, .inl (Z 0, 6, .inl f))]) (lv2 := [(0, .ref h), (1, .int (nI S)), (2, .int (nI ((hb (agoF day f) S i).1))), (3, .int ((hb (agoF day f) S i).2)), (4, .int (nI i))]) (st2 := [.int (agoS (agoF day f) S i)]) (rfl) (rfl) (st_c (vi_c (show nI 0 = agoS (agoF day f) S i from by first | exact (if_pos c23).symm | exact (if_neg c23).symm)) (rfl)) ?_
          exact J36_2
  refine GG.of (ws2 := [(h, .inr (6, [.ref a, .int (nI n), .int day, .int (bI ak), .int ow])), (a, .inl (Z 0, 6, .inl f))]) (lv2 := [(0, .ref h), (1, .int (nI S)), (2, .int (nI ((hb (agoF day f) S 0).1))), (3, .int ((hb (agoF day f) S 0).2)), (4, .int (nI 0))]) (st2 := []) (rfl) (lv_c rfl (lv_c rfl (lv_c (vi_c (show nI 0 = nI ((hb (agoF day f) S 0).1) from rfl)) (lv_c (vi_c (show -1 = (hb (agoF day f) S 0).2 from rfl)) (lv_c rfl (rfl)))))) (rfl) ?_
  exact L7_1 (n + 1) (0) (Nat.zero_le _) (by omega) 
