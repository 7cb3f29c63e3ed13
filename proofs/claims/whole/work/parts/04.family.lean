theorem cs_X2_relatives : CS yX2_relatives wsX2_relatives cX2_relatives 1 (some .int) 0 := ⟨⟨_, rfl⟩, by decide +kernel, by decide +kernel, by decide +kernel⟩
theorem fl_X2_relatives_28 : Cond.fieldLink RX2 28 (TX2 5).1 (TX2 5).2.1 (TX2 5).2.2.1 ∈ wsX2_relatives := by decide +kernel
theorem in_X2_relatives_X2 : ∀ w ∈ u_ws RX2 TX2 9, w ∈ wsX2_relatives := by decide +kernel
set_option maxHeartbeats 4000000 in
set_option maxRecDepth 100000 in
theorem ct_X2_relatives (Z : Nat → ClassId) (h : Nat) (ka : Nat) (aa : Nat) (ma : Nat) (ta : Nat) (qa : Nat) (kd : Nat → Nat) (ag : Nat → Nat) (ml : Nat → Nat) (tp : Nat → Nat) (qu : Nat → Bool) (n : Nat) (k : Nat) (deed : Nat) (hint : Nat) : Ct false yX2_relatives wsX2_relatives ({ frames := 0, cells := 0, slots := 0, locals := 0 }) [.ref h] Z [(h, .inr (2, [.ref ka, .ref aa, .ref ma, .ref ta, .ref qa, .int (nI n), .int (nI k), .int (nI deed), .int (nI hint)])), (ka, .inl (Z 0, 6, .inl (fun j => nI (kd j)))), (aa, .inl (Z 0, 6, .inl (fun j => nI (ag j)))), (ma, .inl (Z 0, 6, .inl (fun j => nI (ml j)))), (ta, .inl (Z 0, 8, .inl (fun j => nI (tp j)))), (qa, .inl (Z 2, 8, .inl (fun j => bI (qu j))))] (rI (nI n) [(h, .inr (2, [.ref ka, .ref aa, .ref ma, .ref ta, .ref qa, .int (nI n), .int (nI k), .int (nI deed), .int (nI hint)])), (ka, .inl (Z 0, 6, .inl (fun j => nI (kd j)))), (aa, .inl (Z 0, 6, .inl (fun j => nI (ag j)))), (ma, .inl (Z 0, 6, .inl (fun j => nI (ml j)))), (ta, .inl (Z 0, 8, .inl (fun j => nI (tp j)))), (qa, .inl (Z 2, 8, .inl (fun j => bI (qu j))))]) 0 0 := by
  refine Ct_of (cc := cX2_relatives) (maxL := 1) (ret := (some .int)) (own := RX2) false false (by decide +kernel) rfl rfl (by decide) (fun v w h => by rw [h.1]; exact ⟨_, rfl, rfl⟩) (Nat.le_of_ble_eq_true rfl) (fun X => ?_)
  show GG X _ _ _ _ _ _ _ _ _ _ _ _ _ _ [(0, .ref h)] _ _
  refine G_aload_n (q := 1) dX2_relatives_0 rfl 0 rfl rfl ?_
  refine G_get (q := 4) dX2_relatives_1 0 rfl (show vwCl[2]? = some (RX2, TX2, 9) from rfl) 5 (by decide) in_X2_relatives_X2 fl_X2_relatives_28 rfl rfl ?_
  exact G_iret dX2_relatives_4 rfl rfl ⟨rfl, rfl⟩
theorem cs_X2_sayings : CS yX2_sayings wsX2_sayings cX2_sayings 1 (some .int) 0 := ⟨⟨_, rfl⟩, by decide +kernel, by decide +kernel, by decide +kernel⟩
theorem fl_X2_sayings_32 : Cond.fieldLink RX2 32 (TX2 6).1 (TX2 6).2.1 (TX2 6).2.2.1 ∈ wsX2_sayings := by decide +kernel
theorem in_X2_sayings_X2 : ∀ w ∈ u_ws RX2 TX2 9, w ∈ wsX2_sayings := by decide +kernel
set_option maxHeartbeats 4000000 in
set_option maxRecDepth 100000 in
theorem ct_X2_sayings (Z : Nat → ClassId) (h : Nat) (ka : Nat) (aa : Nat) (ma : Nat) (ta : Nat) (qa : Nat) (kd : Nat → Nat) (ag : Nat → Nat) (ml : Nat → Nat) (tp : Nat → Nat) (qu : Nat → Bool) (n : Nat) (k : Nat) (deed : Nat) (hint : Nat) : Ct false yX2_sayings wsX2_sayings ({ frames := 0, cells := 0, slots := 0, locals := 0 }) [.ref h] Z [(h, .inr (2, [.ref ka, .ref aa, .ref ma, .ref ta, .ref qa, .int (nI n), .int (nI k), .int (nI deed), .int (nI hint)])), (ka, .inl (Z 0, 6, .inl (fun j => nI (kd j)))), (aa, .inl (Z 0, 6, .inl (fun j => nI (ag j)))), (ma, .inl (Z 0, 6, .inl (fun j => nI (ml j)))), (ta, .inl (Z 0, 8, .inl (fun j => nI (tp j)))), (qa, .inl (Z 2, 8, .inl (fun j => bI (qu j))))] (rI (nI k) [(h, .inr (2, [.ref ka, .ref aa, .ref ma, .ref ta, .ref qa, .int (nI n), .int (nI k), .int (nI deed), .int (nI hint)])), (ka, .inl (Z 0, 6, .inl (fun j => nI (kd j)))), (aa, .inl (Z 0, 6, .inl (fun j => nI (ag j)))), (ma, .inl (Z 0, 6, .inl (fun j => nI (ml j)))), (ta, .inl (Z 0, 8, .inl (fun j => nI (tp j)))), (qa, .inl (Z 2, 8, .inl (fun j => bI (qu j))))]) 0 0 := by
  refine Ct_of (cc := cX2_sayings) (maxL := 1) (ret := (some .int)) (own := RX2) false false (by decide +kernel) rfl rfl (by decide) (fun v w h => by rw [h.1]; exact ⟨_, rfl, rfl⟩) (Nat.le_of_ble_eq_true rfl) (fun X => ?_)
  show GG X _ _ _ _ _ _ _ _ _ _ _ _ _ _ [(0, .ref h)] _ _
  refine G_aload_n (q := 1) dX2_sayings_0 rfl 0 rfl rfl ?_
  refine G_get (q := 4) dX2_sayings_1 0 rfl (show vwCl[2]? = some (RX2, TX2, 9) from rfl) 6 (by decide) in_X2_sayings_X2 fl_X2_sayings_32 rfl rfl ?_
  exact G_iret dX2_sayings_4 rfl rfl ⟨rfl, rfl⟩
theorem cs_X2_deed : CS yX2_deed wsX2_deed cX2_deed 1 (some .int) 0 := ⟨⟨_, rfl⟩, by decide +kernel, by decide +kernel, by decide +kernel⟩
theorem fl_X2_deed_35 : Cond.fieldLink RX2 35 (TX2 7).1 (TX2 7).2.1 (TX2 7).2.2.1 ∈ wsX2_deed := by decide +kernel
theorem in_X2_deed_X2 : ∀ w ∈ u_ws RX2 TX2 9, w ∈ wsX2_deed := by decide +kernel
set_option maxHeartbeats 4000000 in
set_option maxRecDepth 100000 in
theorem ct_X2_deed (Z : Nat → ClassId) (h : Nat) (ka : Nat) (aa : Nat) (ma : Nat) (ta : Nat) (qa : Nat) (kd : Nat → Nat) (ag : Nat → Nat) (ml : Nat → Nat) (tp : Nat → Nat) (qu : Nat → Bool) (n : Nat) (k : Nat) (deed : Nat) (hint : Nat) : Ct false yX2_deed wsX2_deed ({ frames := 0, cells := 0, slots := 0, locals := 0 }) [.ref h] Z [(h, .inr (2, [.ref ka, .ref aa, .ref ma, .ref ta, .ref qa, .int (nI n), .int (nI k), .int (nI deed), .int (nI hint)])), (ka, .inl (Z 0, 6, .inl (fun j => nI (kd j)))), (aa, .inl (Z 0, 6, .inl (fun j => nI (ag j)))), (ma, .inl (Z 0, 6, .inl (fun j => nI (ml j)))), (ta, .inl (Z 0, 8, .inl (fun j => nI (tp j)))), (qa, .inl (Z 2, 8, .inl (fun j => bI (qu j))))] (rI (nI deed) [(h, .inr (2, [.ref ka, .ref aa, .ref ma, .ref ta, .ref qa, .int (nI n), .int (nI k), .int (nI deed), .int (nI hint)])), (ka, .inl (Z 0, 6, .inl (fun j => nI (kd j)))), (aa, .inl (Z 0, 6, .inl (fun j => nI (ag j)))), (ma, .inl (Z 0, 6, .inl (fun j => nI (ml j)))), (ta, .inl (Z 0, 8, .inl (fun j => nI (tp j)))), (qa, .inl (Z 2, 8, .inl (fun j => bI (qu j))))]) 0 0 := by
  refine Ct_of (cc := cX2_deed) (maxL := 1) (ret := (some .int)) (own := RX2) false false (by decide +kernel) rfl rfl (by decide) (fun v w h => by rw [h.1]; exact ⟨_, rfl, rfl⟩) (Nat.le_of_ble_eq_true rfl) (fun X => ?_)
  show GG X _ _ _ _ _ _ _ _ _ _ _ _ _ _ [(0, .ref h)] _ _
  refine G_aload_n (q := 1) dX2_deed_0 rfl 0 rfl rfl ?_
  refine G_get (q := 4) dX2_deed_1 0 rfl (show vwCl[2]? = some (RX2, TX2, 9) from rfl) 7 (by decide) in_X2_deed_X2 fl_X2_deed_35 rfl rfl ?_
  exact G_iret dX2_deed_4 rfl rfl ⟨rfl, rfl⟩
theorem cs_X2_hint : CS yX2_hint wsX2_hint cX2_hint 1 (some .int) 0 := ⟨⟨_, rfl⟩, by decide +kernel, by decide +kernel, by decide +kernel⟩
theorem fl_X2_hint_38 : Cond.fieldLink RX2 38 (TX2 8).1 (TX2 8).2.1 (TX2 8).2.2.1 ∈ wsX2_hint := by decide +kernel
theorem in_X2_hint_X2 : ∀ w ∈ u_ws RX2 TX2 9, w ∈ wsX2_hint := by decide +kernel
set_option maxHeartbeats 4000000 in
set_option maxRecDepth 100000 in
theorem ct_X2_hint (Z : Nat → ClassId) (h : Nat) (ka : Nat) (aa : Nat) (ma : Nat) (ta : Nat) (qa : Nat) (kd : Nat → Nat) (ag : Nat → Nat) (ml : Nat → Nat) (tp : Nat → Nat) (qu : Nat → Bool) (n : Nat) (k : Nat) (deed : Nat) (hint : Nat) : Ct false yX2_hint wsX2_hint ({ frames := 0, cells := 0, slots := 0, locals := 0 }) [.ref h] Z [(h, .inr (2, [.ref ka, .ref aa, .ref ma, .ref ta, .ref qa, .int (nI n), .int (nI k), .int (nI deed), .int (nI hint)])), (ka, .inl (Z 0, 6, .inl (fun j => nI (kd j)))), (aa, .inl (Z 0, 6, .inl (fun j => nI (ag j)))), (ma, .inl (Z 0, 6, .inl (fun j => nI (ml j)))), (ta, .inl (Z 0, 8, .inl (fun j => nI (tp j)))), (qa, .inl (Z 2, 8, .inl (fun j => bI (qu j))))] (rI (nI hint) [(h, .inr (2, [.ref ka, .ref aa, .ref ma, .ref ta, .ref qa, .int (nI n), .int (nI k), .int (nI deed), .int (nI hint)])), (ka, .inl (Z 0, 6, .inl (fun j => nI (kd j)))), (aa, .inl (Z 0, 6, .inl (fun j => nI (ag j)))), (ma, .inl (Z 0, 6, .inl (fun j => nI (ml j)))), (ta, .inl (Z 0, 8, .inl (fun j => nI (tp j)))), (qa, .inl (Z 2, 8, .inl (fun j => bI (qu j))))]) 0 0 := by
  refine Ct_of (cc := cX2_hint) (maxL := 1) (ret := (some .int)) (own := RX2) false false (by decide +kernel) rfl rfl (by decide) (fun v w h => by rw [h.1]; exact ⟨_, rfl, rfl⟩) (Nat.le_of_ble_eq_true rfl) (fun X => ?_)
  show GG X _ _ _ _ _ _ _ _ _ _ _ _ _ _ [(0, .ref h)] _ _
  refine G_aload_n (q := 1) dX2_hint_0 rfl 0 rfl rfl ?_
  refine G_get (q := 4) dX2_hint_1 0 rfl (show vwCl[2]? = some (RX2, TX2, 9) from rfl) 8 (by decide) in_X2_hint_X2 fl_X2_hint_38 rfl rfl ?_
  exact G_iret dX2_hint_4 rfl rfl ⟨rfl, rfl⟩
theorem cs_X2_clear : CS yX2_clear wsX2_clear cX2_clear 1 none 0 := ⟨⟨_, rfl⟩, by decide +kernel, by decide +kernel, by decide +kernel⟩
theorem fl_X2_clear_28 : Cond.fieldLink RX2 28 (TX2 5).1 (TX2 5).2.1 (TX2 5).2.2.1 ∈ wsX2_clear := by decide +kernel
theorem fl_X2_clear_32 : Cond.fieldLink RX2 32 (TX2 6).1 (TX2 6).2.1 (TX2 6).2.2.1 ∈ wsX2_clear := by decide +kernel
theorem fl_X2_clear_35 : Cond.fieldLink RX2 35 (TX2 7).1 (TX2 7).2.1 (TX2 7).2.2.1 ∈ wsX2_clear := by decide +kernel
theorem fl_X2_clear_38 : Cond.fieldLink RX2 38 (TX2 8).1 (TX2 8).2.1 (TX2 8).2.2.1 ∈ wsX2_clear := by decide +kernel
theorem in_X2_clear_X2 : ∀ w ∈ u_ws RX2 TX2 9, w ∈ wsX2_clear := by decide +kernel
set_option maxHeartbeats 4000000 in
set_option maxRecDepth 100000 in
theorem ct_X2_clear (Z : Nat → ClassId) (h : Nat) (ka : Nat) (aa : Nat) (ma : Nat) (ta : Nat) (qa : Nat) (kd : Nat → Nat) (ag : Nat → Nat) (ml : Nat → Nat) (tp : Nat → Nat) (qu : Nat → Bool) (n : Nat) (k : Nat) (deed : Nat) (hint : Nat) : Ct false yX2_clear wsX2_clear ({ frames := 0, cells := 0, slots := 0, locals := 0 }) [.ref h] Z [(h, .inr (2, [.ref ka, .ref aa, .ref ma, .ref ta, .ref qa, .int (nI n), .int (nI k), .int (nI deed), .int (nI hint)])), (ka, .inl (Z 0, 6, .inl (fun j => nI (kd j)))), (aa, .inl (Z 0, 6, .inl (fun j => nI (ag j)))), (ma, .inl (Z 0, 6, .inl (fun j => nI (ml j)))), (ta, .inl (Z 0, 8, .inl (fun j => nI (tp j)))), (qa, .inl (Z 2, 8, .inl (fun j => bI (qu j))))] (rV [(h, .inr (2, [.ref ka, .ref aa, .ref ma, .ref ta, .ref qa, .int (nI 0), .int (nI 0), .int (nI 1), .int (nI 3)])), (ka, .inl (Z 0, 6, .inl (fun j => nI (kd j)))), (aa, .inl (Z 0, 6, .inl (fun j => nI (ag j)))), (ma, .inl (Z 0, 6, .inl (fun j => nI (ml j)))), (ta, .inl (Z 0, 8, .inl (fun j => nI (tp j)))), (qa, .inl (Z 2, 8, .inl (fun j => bI (qu j))))]) 0 0 := by
  refine Ct_of (cc := cX2_clear) (maxL := 1) (ret := none) (own := RX2) false false (by decide +kernel) rfl rfl (by decide) (fun v w h => by rw [h.1]; rfl) (Nat.le_of_ble_eq_true rfl) (fun X => ?_)
  show GG X _ _ _ _ _ _ _ _ _ _ _ _ _ _ [(0, .ref h)] _ _
  refine G_aload_n (q := 1) dX2_clear_0 rfl 0 rfl rfl ?_
  refine G_iconst (v := nI 0) (q := 2) dX2_clear_1 (by decide) rfl ?_
  refine G_put (ws2 := [(h, .inr (2, [.ref ka, .ref aa, .ref ma, .ref ta, .ref qa, .int (nI 0), .int (nI k), .int (nI deed), .int (nI hint)])), (ka, .inl (Z 0, 6, .inl (fun j => nI (kd j)))), (aa, .inl (Z 0, 6, .inl (fun j => nI (ag j)))), (ma, .inl (Z 0, 6, .inl (fun j => nI (ml j)))), (ta, .inl (Z 0, 8, .inl (fun j => nI (tp j)))), (qa, .inl (Z 2, 8, .inl (fun j => bI (qu j))))]) (q := 5) dX2_clear_2 0 rfl (show vwCl[2]? = some (RX2, TX2, 9) from rfl) cf_X2 5 (by decide) in_X2_clear_X2 fl_X2_clear_28 rfl (rfl) rfl (by simp only [List.length_cons, List.length_nil]; decide) rfl rfl ?_
  refine G_aload_n (q := 6) dX2_clear_5 rfl 0 rfl rfl ?_
  refine G_iconst (v := nI 0) (q := 7) dX2_clear_6 (by decide) rfl ?_
  refine G_put (ws2 := [(h, .inr (2, [.ref ka, .ref aa, .ref ma, .ref ta, .ref qa, .int (nI 0), .int (nI 0), .int (nI deed), .int (nI hint)])), (ka, .inl (Z 0, 6, .inl (fun j => nI (kd j)))), (aa, .inl (Z 0, 6, .inl (fun j => nI (ag j)))), (ma, .inl (Z 0, 6, .inl (fun j => nI (ml j)))), (ta, .inl (Z 0, 8, .inl (fun j => nI (tp j)))), (qa, .inl (Z 2, 8, .inl (fun j => bI (qu j))))]) (q := 10) dX2_clear_7 0 rfl (show vwCl[2]? = some (RX2, TX2, 9) from rfl) cf_X2 6 (by decide) in_X2_clear_X2 fl_X2_clear_32 rfl (rfl) rfl (by simp only [List.length_cons, List.length_nil]; decide) rfl rfl ?_
  refine G_aload_n (q := 11) dX2_clear_10 rfl 0 rfl rfl ?_
  refine G_iconst (v := nI 1) (q := 12) dX2_clear_11 (by decide) rfl ?_
  refine G_put (ws2 := [(h, .inr (2, [.ref ka, .ref aa, .ref ma, .ref ta, .ref qa, .int (nI 0), .int (nI 0), .int (nI 1), .int (nI hint)])), (ka, .inl (Z 0, 6, .inl (fun j => nI (kd j)))), (aa, .inl (Z 0, 6, .inl (fun j => nI (ag j)))), (ma, .inl (Z 0, 6, .inl (fun j => nI (ml j)))), (ta, .inl (Z 0, 8, .inl (fun j => nI (tp j)))), (qa, .inl (Z 2, 8, .inl (fun j => bI (qu j))))]) (q := 15) dX2_clear_12 0 rfl (show vwCl[2]? = some (RX2, TX2, 9) from rfl) cf_X2 7 (by decide) in_X2_clear_X2 fl_X2_clear_35 rfl (rfl) rfl (by simp only [List.length_cons, List.length_nil]; decide) rfl rfl ?_
  refine G_aload_n (q := 16) dX2_clear_15 rfl 0 rfl rfl ?_
  refine G_iconst (v := nI 3) (q := 17) dX2_clear_16 (by decide) rfl ?_
  refine G_put (ws2 := [(h, .inr (2, [.ref ka, .ref aa, .ref ma, .ref ta, .ref qa, .int (nI 0), .int (nI 0), .int (nI 1), .int (nI 3)])), (ka, .inl (Z 0, 6, .inl (fun j => nI (kd j)))), (aa, .inl (Z 0, 6, .inl (fun j => nI (ag j)))), (ma, .inl (Z 0, 6, .inl (fun j => nI (ml j)))), (ta, .inl (Z 0, 8, .inl (fun j => nI (tp j)))), (qa, .inl (Z 2, 8, .inl (fun j => bI (qu j))))]) (q := 20) dX2_clear_17 0 rfl (show vwCl[2]? = some (RX2, TX2, 9) from rfl) cf_X2 8 (by decide) in_X2_clear_X2 fl_X2_clear_38 rfl (rfl) rfl (by simp only [List.length_cons, List.length_nil]; decide) rfl rfl ?_
  exact G_ret dX2_clear_20 rfl rfl ⟨rfl, rfl⟩
theorem cs_X2_hasRelative : CS yX2_hasRelative wsX2_hasRelative cX2_hasRelative 2 (some .boolean) 1 := ⟨⟨_, rfl⟩, by decide +kernel, by decide +kernel, by decide +kernel⟩
theorem fl_X2_hasRelative_28 : Cond.fieldLink RX2 28 (TX2 5).1 (TX2 5).2.1 (TX2 5).2.2.1 ∈ wsX2_hasRelative := by decide +kernel
theorem in_X2_hasRelative_X2 : ∀ w ∈ u_ws RX2 TX2 9, w ∈ wsX2_hasRelative := by decide +kernel
set_option maxHeartbeats 4000000 in
set_option maxRecDepth 100000 in
theorem ct_X2_hasRelative_ok (Z : Nat → ClassId) (h : Nat) (ka : Nat) (aa : Nat) (ma : Nat) (ta : Nat) (qa : Nat) (kd : Nat → Nat) (ag : Nat → Nat) (ml : Nat → Nat) (tp : Nat → Nat) (qu : Nat → Bool) (n : Nat) (k : Nat) (deed : Nat) (hint : Nat) (j : Nat) (hn : n ≤ 6) (hj : j < n): Ct false yX2_hasRelative wsX2_hasRelative ({ frames := 0, cells := 0, slots := 0, locals := 0 }) [.ref h, .int (nI j)] Z [(h, .inr (2, [.ref ka, .ref aa, .ref ma, .ref ta, .ref qa, .int (nI n), .int (nI k), .int (nI deed), .int (nI hint)])), (ka, .inl (Z 0, 6, .inl (fun j => nI (kd j)))), (aa, .inl (Z 0, 6, .inl (fun j => nI (ag j)))), (ma, .inl (Z 0, 6, .inl (fun j => nI (ml j)))), (ta, .inl (Z 0, 8, .inl (fun j => nI (tp j)))), (qa, .inl (Z 2, 8, .inl (fun j => bI (qu j))))] (rI (bI true) [(h, .inr (2, [.ref ka, .ref aa, .ref ma, .ref ta, .ref qa, .int (nI n), .int (nI k), .int (nI deed), .int (nI hint)])), (ka, .inl (Z 0, 6, .inl (fun j => nI (kd j)))), (aa, .inl (Z 0, 6, .inl (fun j => nI (ag j)))), (ma, .inl (Z 0, 6, .inl (fun j => nI (ml j)))), (ta, .inl (Z 0, 8, .inl (fun j => nI (tp j)))), (qa, .inl (Z 2, 8, .inl (fun j => bI (qu j))))]) 0 0 := by
  refine Ct_of (cc := cX2_hasRelative) (maxL := 2) (ret := (some .boolean)) (own := RX2) false false (by decide +kernel) rfl rfl (by decide) (fun v w h => by rw [h.1]; exact ⟨_, rfl, bI_01 _⟩) (Nat.le_of_ble_eq_true rfl) (fun X => ?_)
  show GG X _ _ _ _ _ _ _ _ _ _ _ _ _ _ [(0, .ref h), (1, .int (nI j))] _ _
  refine G_iload_n (q := 1) dX2_hasRelative_0 rfl 1 rfl rfl ?_
  refine G_if_ltN (tgt := 22) (q := 4) dX2_hasRelative_1 (by decide) rfl (by omega) (fun c1 => ?_) (fun c1 => ?_)
  · exact c1.elim
  · refine G_iload_n (q := 5) dX2_hasRelative_4 rfl 1 rfl rfl ?_
    refine G_aload_n (q := 6) dX2_hasRelative_5 rfl 0 rfl rfl ?_
    refine G_get (q := 9) dX2_hasRelative_6 0 rfl (show vwCl[2]? = some (RX2, TX2, 9) from rfl) 5 (by decide) in_X2_hasRelative_X2 fl_X2_hasRelative_28 rfl rfl ?_
    refine G_icmp_geN (tgt := 22) (q := 12) dX2_hasRelative_9 (by decide) rfl (by omega) (by omega) (fun c9 => ?_) (fun c9 => ?_)
    · exfalso; omega
    · refine G_iload_n (q := 13) dX2_hasRelative_12 rfl 1 rfl rfl ?_
      refine G_bipush (v := nI 6) (q := 15) dX2_hasRelative_13 (by decide) rfl ?_
      refine G_icmp_geN (tgt := 22) (q := 18) dX2_hasRelative_15 (by decide) rfl (by omega) (by omega) (fun c15 => ?_) (fun c15 => ?_)
      · exfalso; omega
      · refine G_iconst (v := nI 1) (q := 19) dX2_hasRelative_18 (by decide) rfl ?_
        refine G_goto (q := 23) dX2_hasRelative_19 (by decide) ?_
        refine GG.of (ws2 := [(h, .inr (2, [.ref ka, .ref aa, .ref ma, .ref ta, .ref qa, .int (nI n), .int (nI k), .int (nI deed), .int (nI hint)])), (ka, .inl (Z 0, 6, .inl (fun j => nI (kd j)))), (aa, .inl (Z 0, 6, .inl (fun j => nI (ag j)))), (ma, .inl (Z 0, 6, .inl (fun j => nI (ml j)))), (ta, .inl (Z 0, 8, .inl (fun j => nI (tp j)))), (qa, .inl (Z 2, 8, .inl (fun j => bI (qu j))))]) (lv2 := [(0, .ref h), (1, .int (nI j))]) (st2 := [.int (bI true)]) (rfl) (rfl) (st_c (vi_c (show nI 1 = bI true from rfl)) (rfl)) ?_
        exact G_iret dX2_hasRelative_23 rfl rfl ⟨rfl, rfl⟩
set_option maxHeartbeats 4000000 in
set_option maxRecDepth 100000 in
theorem ct_X2_hasRelative_bad (Z : Nat → ClassId) (h : Nat) (ka : Nat) (aa : Nat) (ma : Nat) (ta : Nat) (qa : Nat) (kd : Nat → Nat) (ag : Nat → Nat) (ml : Nat → Nat) (tp : Nat → Nat) (qu : Nat → Bool) (n : Nat) (k : Nat) (deed : Nat) (hint : Nat) (x : Int32) (hn : n ≤ 6) (hx : bad x n): Ct false yX2_hasRelative wsX2_hasRelative ({ frames := 0, cells := 0, slots := 0, locals := 0 }) [.ref h, .int x] Z [(h, .inr (2, [.ref ka, .ref aa, .ref ma, .ref ta, .ref qa, .int (nI n), .int (nI k), .int (nI deed), .int (nI hint)])), (ka, .inl (Z 0, 6, .inl (fun j => nI (kd j)))), (aa, .inl (Z 0, 6, .inl (fun j => nI (ag j)))), (ma, .inl (Z 0, 6, .inl (fun j => nI (ml j)))), (ta, .inl (Z 0, 8, .inl (fun j => nI (tp j)))), (qa, .inl (Z 2, 8, .inl (fun j => bI (qu j))))] (rI (bI false) [(h, .inr (2, [.ref ka, .ref aa, .ref ma, .ref ta, .ref qa, .int (nI n), .int (nI k), .int (nI deed), .int (nI hint)])), (ka, .inl (Z 0, 6, .inl (fun j => nI (kd j)))), (aa, .inl (Z 0, 6, .inl (fun j => nI (ag j)))), (ma, .inl (Z 0, 6, .inl (fun j => nI (ml j)))), (ta, .inl (Z 0, 8, .inl (fun j => nI (tp j)))), (qa, .inl (Z 2, 8, .inl (fun j => bI (qu j))))]) 0 0 := by
  refine Ct_of (cc := cX2_hasRelative) (maxL := 2) (ret := (some .boolean)) (own := RX2) false false (by decide +kernel) rfl rfl (by decide) (fun v w h => by rw [h.1]; exact ⟨_, rfl, bI_01 _⟩) (Nat.le_of_ble_eq_true rfl) (fun X => ?_)
  show GG X _ _ _ _ _ _ _ _ _ _ _ _ _ _ [(0, .ref h), (1, .int x)] _ _
  refine G_iload_n (q := 1) dX2_hasRelative_0 rfl 1 rfl rfl ?_
  refine G_if_lt (tgt := 22) (q := 4) dX2_hasRelative_1 (by decide) rfl (fun c1 => ?_) (fun c1 => ?_)
  · refine G_iconst (v := nI 0) (q := 23) dX2_hasRelative_22 (by decide) rfl ?_
    refine GG.of (ws2 := [(h, .inr (2, [.ref ka, .ref aa, .ref ma, .ref ta, .ref qa, .int (nI n), .int (nI k), .int (nI deed), .int (nI hint)])), (ka, .inl (Z 0, 6, .inl (fun j => nI (kd j)))), (aa, .inl (Z 0, 6, .inl (fun j => nI (ag j)))), (ma, .inl (Z 0, 6, .inl (fun j => nI (ml j)))), (ta, .inl (Z 0, 8, .inl (fun j => nI (tp j)))), (qa, .inl (Z 2, 8, .inl (fun j => bI (qu j))))]) (lv2 := [(0, .ref h), (1, .int x)]) (st2 := [.int (bI false)]) (rfl) (rfl) (st_c (vi_c (show nI 0 = bI false from rfl)) (rfl)) ?_
    exact G_iret dX2_hasRelative_23 rfl rfl ⟨rfl, rfl⟩
  · refine G_iload_n (q := 5) dX2_hasRelative_4 rfl 1 rfl rfl ?_
    refine G_aload_n (q := 6) dX2_hasRelative_5 rfl 0 rfl rfl ?_
    refine G_get (q := 9) dX2_hasRelative_6 0 rfl (show vwCl[2]? = some (RX2, TX2, 9) from rfl) 5 (by decide) in_X2_hasRelative_X2 fl_X2_hasRelative_28 rfl rfl ?_
    refine G_icmp_ge (tgt := 22) (q := 12) dX2_hasRelative_9 (by decide) rfl (fun c9 => ?_) (fun c9 => ?_)
    · refine G_iconst (v := nI 0) (q := 23) dX2_hasRelative_22 (by decide) rfl ?_
      refine GG.of (ws2 := [(h, .inr (2, [.ref ka, .ref aa, .ref ma, .ref ta, .ref qa, .int (nI n), .int (nI k), .int (nI deed), .int (nI hint)])), (ka, .inl (Z 0, 6, .inl (fun j => nI (kd j)))), (aa, .inl (Z 0, 6, .inl (fun j => nI (ag j)))), (ma, .inl (Z 0, 6, .inl (fun j => nI (ml j)))), (ta, .inl (Z 0, 8, .inl (fun j => nI (tp j)))), (qa, .inl (Z 2, 8, .inl (fun j => bI (qu j))))]) (lv2 := [(0, .ref h), (1, .int x)]) (st2 := [.int (bI false)]) (rfl) (rfl) (st_c (vi_c (show nI 0 = bI false from rfl)) (rfl)) ?_
      exact G_iret dX2_hasRelative_23 rfl rfl ⟨rfl, rfl⟩
    · exact (bad_no hx (by omega) c1 c9).elim
      done
theorem cs_X2_hasSaying : CS yX2_hasSaying wsX2_hasSaying cX2_hasSaying 2 (some .boolean) 1 := ⟨⟨_, rfl⟩, by decide +kernel, by decide +kernel, by decide +kernel⟩
theorem fl_X2_hasSaying_32 : Cond.fieldLink RX2 32 (TX2 6).1 (TX2 6).2.1 (TX2 6).2.2.1 ∈ wsX2_hasSaying := by decide +kernel
theorem in_X2_hasSaying_X2 : ∀ w ∈ u_ws RX2 TX2 9, w ∈ wsX2_hasSaying := by decide +kernel
set_option maxHeartbeats 4000000 in
set_option maxRecDepth 100000 in
theorem ct_X2_hasSaying_ok (Z : Nat → ClassId) (h : Nat) (ka : Nat) (aa : Nat) (ma : Nat) (ta : Nat) (qa : Nat) (kd : Nat → Nat) (ag : Nat → Nat) (ml : Nat → Nat) (tp : Nat → Nat) (qu : Nat → Bool) (n : Nat) (k : Nat) (deed : Nat) (hint : Nat) (j : Nat) (hk : k ≤ 8) (hj : j < k): Ct false yX2_hasSaying wsX2_hasSaying ({ frames := 0, cells := 0, slots := 0, locals := 0 }) [.ref h, .int (nI j)] Z [(h, .inr (2, [.ref ka, .ref aa, .ref ma, .ref ta, .ref qa, .int (nI n), .int (nI k), .int (nI deed), .int (nI hint)])), (ka, .inl (Z 0, 6, .inl (fun j => nI (kd j)))), (aa, .inl (Z 0, 6, .inl (fun j => nI (ag j)))), (ma, .inl (Z 0, 6, .inl (fun j => nI (ml j)))), (ta, .inl (Z 0, 8, .inl (fun j => nI (tp j)))), (qa, .inl (Z 2, 8, .inl (fun j => bI (qu j))))] (rI (bI true) [(h, .inr (2, [.ref ka, .ref aa, .ref ma, .ref ta, .ref qa, .int (nI n), .int (nI k), .int (nI deed), .int (nI hint)])), (ka, .inl (Z 0, 6, .inl (fun j => nI (kd j)))), (aa, .inl (Z 0, 6, .inl (fun j => nI (ag j)))), (ma, .inl (Z 0, 6, .inl (fun j => nI (ml j)))), (ta, .inl (Z 0, 8, .inl (fun j => nI (tp j)))), (qa, .inl (Z 2, 8, .inl (fun j => bI (qu j))))]) 0 0 := by
  refine Ct_of (cc := cX2_hasSaying) (maxL := 2) (ret := (some .boolean)) (own := RX2) false false (by decide +kernel) rfl rfl (by decide) (fun v w h => by rw [h.1]; exact ⟨_, rfl, bI_01 _⟩) (Nat.le_of_ble_eq_true rfl) (fun X => ?_)
  show GG X _ _ _ _ _ _ _ _ _ _ _ _ _ _ [(0, .ref h), (1, .int (nI j))] _ _
  refine G_iload_n (q := 1) dX2_hasSaying_0 rfl 1 rfl rfl ?_
  refine G_if_ltN (tgt := 22) (q := 4) dX2_hasSaying_1 (by decide) rfl (by omega) (fun c1 => ?_) (fun c1 => ?_)
  · exact c1.elim
  · refine G_iload_n (q := 5) dX2_hasSaying_4 rfl 1 rfl rfl ?_
    refine G_aload_n (q := 6) dX2_hasSaying_5 rfl 0 rfl rfl ?_
    refine G_get (q := 9) dX2_hasSaying_6 0 rfl (show vwCl[2]? = some (RX2, TX2, 9) from rfl) 6 (by decide) in_X2_hasSaying_X2 fl_X2_hasSaying_32 rfl rfl ?_
    refine G_icmp_geN (tgt := 22) (q := 12) dX2_hasSaying_9 (by decide) rfl (by omega) (by omega) (fun c9 => ?_) (fun c9 => ?_)
    · exfalso; omega
    · refine G_iload_n (q := 13) dX2_hasSaying_12 rfl 1 rfl rfl ?_
      refine G_bipush (v := nI 8) (q := 15) dX2_hasSaying_13 (by decide) rfl ?_
      refine G_icmp_geN (tgt := 22) (q := 18) dX2_hasSaying_15 (by decide) rfl (by omega) (by omega) (fun c15 => ?_) (fun c15 => ?_)
      · exfalso; omega
      · refine G_iconst (v := nI 1) (q := 19) dX2_hasSaying_18 (by decide) rfl ?_
        refine G_goto (q := 23) dX2_hasSaying_19 (by decide) ?_
        refine GG.of (ws2 := [(h, .inr (2, [.ref ka, .ref aa, .ref ma, .ref ta, .ref qa, .int (nI n), .int (nI k), .int (nI deed), .int (nI hint)])), (ka, .inl (Z 0, 6, .inl (fun j => nI (kd j)))), (aa, .inl (Z 0, 6, .inl (fun j => nI (ag j)))), (ma, .inl (Z 0, 6, .inl (fun j => nI (ml j)))), (ta, .inl (Z 0, 8, .inl (fun j => nI (tp j)))), (qa, .inl (Z 2, 8, .inl (fun j => bI (qu j))))]) (lv2 := [(0, .ref h), (1, .int (nI j))]) (st2 := [.int (bI true)]) (rfl) (rfl) (st_c (vi_c (show nI 1 = bI true from rfl)) (rfl)) ?_
        exact G_iret dX2_hasSaying_23 rfl rfl ⟨rfl, rfl⟩
set_option maxHeartbeats 4000000 in
set_option maxRecDepth 100000 in
theorem ct_X2_hasSaying_bad (Z : Nat → ClassId) (h : Nat) (ka : Nat) (aa : Nat) (ma : Nat) (ta : Nat) (qa : Nat) (kd : Nat → Nat) (ag : Nat → Nat) (ml : Nat → Nat) (tp : Nat → Nat) (qu : Nat → Bool) (n : Nat) (k : Nat) (deed : Nat) (hint : Nat) (x : Int32) (hk : k ≤ 8) (hx : bad x k): Ct false yX2_hasSaying wsX2_hasSaying ({ frames := 0, cells := 0, slots := 0, locals := 0 }) [.ref h, .int x] Z [(h, .inr (2, [.ref ka, .ref aa, .ref ma, .ref ta, .ref qa, .int (nI n), .int (nI k), .int (nI deed), .int (nI hint)])), (ka, .inl (Z 0, 6, .inl (fun j => nI (kd j)))), (aa, .inl (Z 0, 6, .inl (fun j => nI (ag j)))), (ma, .inl (Z 0, 6, .inl (fun j => nI (ml j)))), (ta, .inl (Z 0, 8, .inl (fun j => nI (tp j)))), (qa, .inl (Z 2, 8, .inl (fun j => bI (qu j))))] (rI (bI false) [(h, .inr (2, [.ref ka, .ref aa, .ref ma, .ref ta, .ref qa, .int (nI n), .int (nI k), .int (nI deed), .int (nI hint)])), (ka, .inl (Z 0, 6, .inl (fun j => nI (kd j)))), (aa, .inl (Z 0, 6, .inl (fun j => nI (ag j)))), (ma, .inl (Z 0, 6, .inl (fun j => nI (ml j)))), (ta, .inl (Z 0, 8, .inl (fun j => nI (tp j)))), (qa, .inl (Z 2, 8, .inl (fun j => bI (qu j))))]) 0 0 := by
  refine Ct_of (cc := cX2_hasSaying) (maxL := 2) (ret := (some .boolean)) (own := RX2) false false (by decide +kernel) rfl rfl (by decide) (fun v w h => by rw [h.1]; exact ⟨_, rfl, bI_01 _⟩) (Nat.le_of_ble_eq_true rfl) (fun X => ?_)
  show GG X _ _ _ _ _ _ _ _ _ _ _ _ _ _ [(0, .ref h), (1, .int x)] _ _
  refine G_iload_n (q := 1) dX2_hasSaying_0 rfl 1 rfl rfl ?_
  refine G_if_lt (tgt := 22) (q := 4) dX2_hasSaying_1 (by decide) rfl (fun c1 => ?_) (fun c1 => ?_)
  · refine G_iconst (v := nI 0) (q := 23) dX2_hasSaying_22 (by decide) rfl ?_
    refine GG.of (ws2 := [(h, .inr (2, [.ref ka, .ref aa, .ref ma, .ref ta, .ref qa, .int (nI n), .int (nI k), .int (nI deed), .int (nI hint)])), (ka, .inl (Z 0, 6, .inl (fun j => nI (kd j)))), (aa, .inl (Z 0, 6, .inl (fun j => nI (ag j)))), (ma, .inl (Z 0, 6, .inl (fun j => nI (ml j)))), (ta, .inl (Z 0, 8, .inl (fun j => nI (tp j)))), (qa, .inl (Z 2, 8, .inl (fun j => bI (qu j))))]) (lv2 := [(0, .ref h), (1, .int x)]) (st2 := [.int (bI false)]) (rfl) (rfl) (st_c (vi_c (show nI 0 = bI false from rfl)) (rfl)) ?_
    exact G_iret dX2_hasSaying_23 rfl rfl ⟨rfl, rfl⟩
  · refine G_iload_n (q := 5) dX2_hasSaying_4 rfl 1 rfl rfl ?_
    refine G_aload_n (q := 6) dX2_hasSaying_5 rfl 0 rfl rfl ?_
    refine G_get (q := 9) dX2_hasSaying_6 0 rfl (show vwCl[2]? = some (RX2, TX2, 9) from rfl) 6 (by decide) in_X2_hasSaying_X2 fl_X2_hasSaying_32 rfl rfl ?_
    refine G_icmp_ge (tgt := 22) (q := 12) dX2_hasSaying_9 (by decide) rfl (fun c9 => ?_) (fun c9 => ?_)
    · refine G_iconst (v := nI 0) (q := 23) dX2_hasSaying_22 (by decide) rfl ?_
      refine GG.of (ws2 := [(h, .inr (2, [.ref ka, .ref aa, .ref ma, .ref ta, .ref qa, .int (nI n), .int (nI k), .int (nI deed), .int (nI hint)])), (ka, .inl (Z 0, 6, .inl (fun j => nI (kd j)))), (aa, .inl (Z 0, 6, .inl (fun j => nI (ag j)))), (ma, .inl (Z 0, 6, .inl (fun j => nI (ml j)))), (ta, .inl (Z 0, 8, .inl (fun j => nI (tp j)))), (qa, .inl (Z 2, 8, .inl (fun j => bI (qu j))))]) (lv2 := [(0, .ref h), (1, .int x)]) (st2 := [.int (bI false)]) (rfl) (rfl) (st_c (vi_c (show nI 0 = bI false from rfl)) (rfl)) ?_
      exact G_iret dX2_hasSaying_23 rfl rfl ⟨rfl, rfl⟩
    · exact (bad_no hx (by omega) c1 c9).elim
      done
theorem cs_X2_kind : CS yX2_kind wsX2_kind cX2_kind 2 (some .int) 1 := ⟨⟨_, rfl⟩, by decide +kernel, by decide +kernel, by decide +kernel⟩
theorem fl_X2_kind_9 : Cond.fieldLink RX2 9 (TX2 0).1 (TX2 0).2.1 (TX2 0).2.2.1 ∈ wsX2_kind := by decide +kernel
theorem in_X2_kind_X2 : ∀ w ∈ u_ws RX2 TX2 9, w ∈ wsX2_kind := by decide +kernel
set_option maxHeartbeats 4000000 in
set_option maxRecDepth 100000 in
theorem ct_X2_kind (Z : Nat → ClassId) (h : Nat) (ka : Nat) (aa : Nat) (ma : Nat) (ta : Nat) (qa : Nat) (kd : Nat → Nat) (ag : Nat → Nat) (ml : Nat → Nat) (tp : Nat → Nat) (qu : Nat → Bool) (n : Nat) (k : Nat) (deed : Nat) (hint : Nat) (j : Nat) (hn : n ≤ 6) (hj : j < n): Ct false yX2_kind wsX2_kind ({ frames := 1, cells := 0, slots := 0, locals := 21 }) [.ref h, .int (nI j)] Z [(h, .inr (2, [.ref ka, .ref aa, .ref ma, .ref ta, .ref qa, .int (nI n), .int (nI k), .int (nI deed), .int (nI hint)])), (ka, .inl (Z 0, 6, .inl (fun j => nI (kd j)))), (aa, .inl (Z 0, 6, .inl (fun j => nI (ag j)))), (ma, .inl (Z 0, 6, .inl (fun j => nI (ml j)))), (ta, .inl (Z 0, 8, .inl (fun j => nI (tp j)))), (qa, .inl (Z 2, 8, .inl (fun j => bI (qu j))))] (rI (nI (kd j)) [(h, .inr (2, [.ref ka, .ref aa, .ref ma, .ref ta, .ref qa, .int (nI n), .int (nI k), .int (nI deed), .int (nI hint)])), (ka, .inl (Z 0, 6, .inl (fun j => nI (kd j)))), (aa, .inl (Z 0, 6, .inl (fun j => nI (ag j)))), (ma, .inl (Z 0, 6, .inl (fun j => nI (ml j)))), (ta, .inl (Z 0, 8, .inl (fun j => nI (tp j)))), (qa, .inl (Z 2, 8, .inl (fun j => bI (qu j))))]) 0 0 := by
  refine Ct_of (cc := cX2_kind) (maxL := 2) (ret := (some .int)) (own := RX2) false false (by decide +kernel) rfl rfl (by decide) (fun v w h => by rw [h.1]; exact ⟨_, rfl, rfl⟩) (Nat.le_of_ble_eq_true rfl) (fun X => ?_)
  show GG X _ _ _ _ _ _ _ _ _ _ _ _ _ _ [(0, .ref h), (1, .int (nI j))] _ _
  refine G_aload_n (q := 1) dX2_kind_0 rfl 0 rfl rfl ?_
  refine G_iload_n (q := 2) dX2_kind_1 rfl 1 rfl rfl ?_
  refine G_callVP (As := [.int (nI j)]) (rest := []) (st2 := [.int (bI true)]) (q := 5) dX2_kind_2 [0, 1, 2, 3, 4, 5] (ct_X2_hasRelative_ok Z h ka aa ma ta qa kd ag ml tp qu n k deed hint j (by omega) (by omega)) (fun h => h) cs_X2_hasRelative gX2_kind_X2_hasRelative rfl ⟨Nat.le_of_ble_eq_true rfl, Nat.le_of_ble_eq_true rfl⟩ ⟨rfl, rfl⟩ 0 rfl (show vwCl[2]? = some (RX2, TX2, 9) from rfl) rfl (by decide) rfl rfl (Nat.le_of_ble_eq_true rfl) ⟨by decide, by decide⟩ rfl rfl ?_
  refine G_if_eqF (tgt := 17) (q := 8) dX2_kind_5 (by decide) rfl (by decide) ?_
  refine G_aload_n (q := 9) dX2_kind_8 rfl 0 rfl rfl ?_
  refine G_get (q := 12) dX2_kind_9 0 rfl (show vwCl[2]? = some (RX2, TX2, 9) from rfl) 0 (by decide) in_X2_kind_X2 fl_X2_kind_9 rfl rfl ?_
  refine G_iload_n (q := 13) dX2_kind_12 rfl 1 rfl rfl ?_
  refine G_iald (q := 14) dX2_kind_13 1 rfl j (rfl) (by omega) (by omega) rfl ?_
  refine G_goto (q := 18) dX2_kind_14 (by decide) ?_
  exact G_iret dX2_kind_18 rfl rfl ⟨rfl, rfl⟩
theorem cs_X2_ago : CS yX2_ago wsX2_ago cX2_ago 2 (some .int) 1 := ⟨⟨_, rfl⟩, by decide +kernel, by decide +kernel, by decide +kernel⟩
theorem fl_X2_ago_15 : Cond.fieldLink RX2 15 (TX2 1).1 (TX2 1).2.1 (TX2 1).2.2.1 ∈ wsX2_ago := by decide +kernel
theorem in_X2_ago_X2 : ∀ w ∈ u_ws RX2 TX2 9, w ∈ wsX2_ago := by decide +kernel
set_option maxHeartbeats 4000000 in
set_option maxRecDepth 100000 in
theorem ct_X2_ago (Z : Nat → ClassId) (h : Nat) (ka : Nat) (aa : Nat) (ma : Nat) (ta : Nat) (qa : Nat) (kd : Nat → Nat) (ag : Nat → Nat) (ml : Nat → Nat) (tp : Nat → Nat) (qu : Nat → Bool) (n : Nat) (k : Nat) (deed : Nat) (hint : Nat) (j : Nat) (hn : n ≤ 6) (hj : j < n): Ct false yX2_ago wsX2_ago ({ frames := 1, cells := 0, slots := 0, locals := 21 }) [.ref h, .int (nI j)] Z [(h, .inr (2, [.ref ka, .ref aa, .ref ma, .ref ta, .ref qa, .int (nI n), .int (nI k), .int (nI deed), .int (nI hint)])), (ka, .inl (Z 0, 6, .inl (fun j => nI (kd j)))), (aa, .inl (Z 0, 6, .inl (fun j => nI (ag j)))), (ma, .inl (Z 0, 6, .inl (fun j => nI (ml j)))), (ta, .inl (Z 0, 8, .inl (fun j => nI (tp j)))), (qa, .inl (Z 2, 8, .inl (fun j => bI (qu j))))] (rI (nI (ag j)) [(h, .inr (2, [.ref ka, .ref aa, .ref ma, .ref ta, .ref qa, .int (nI n), .int (nI k), .int (nI deed), .int (nI hint)])), (ka, .inl (Z 0, 6, .inl (fun j => nI (kd j)))), (aa, .inl (Z 0, 6, .inl (fun j => nI (ag j)))), (ma, .inl (Z 0, 6, .inl (fun j => nI (ml j)))), (ta, .inl (Z 0, 8, .inl (fun j => nI (tp j)))), (qa, .inl (Z 2, 8, .inl (fun j => bI (qu j))))]) 0 0 := by
  refine Ct_of (cc := cX2_ago) (maxL := 2) (ret := (some .int)) (own := RX2) false false (by decide +kernel) rfl rfl (by decide) (fun v w h => by rw [h.1]; exact ⟨_, rfl, rfl⟩) (Nat.le_of_ble_eq_true rfl) (fun X => ?_)
  show GG X _ _ _ _ _ _ _ _ _ _ _ _ _ _ [(0, .ref h), (1, .int (nI j))] _ _
  refine G_aload_n (q := 1) dX2_ago_0 rfl 0 rfl rfl ?_
  refine G_iload_n (q := 2) dX2_ago_1 rfl 1 rfl rfl ?_
  refine G_callVP (As := [.int (nI j)]) (rest := []) (st2 := [.int (bI true)]) (q := 5) dX2_ago_2 [0, 1, 2, 3, 4, 5] (ct_X2_hasRelative_ok Z h ka aa ma ta qa kd ag ml tp qu n k deed hint j (by omega) (by omega)) (fun h => h) cs_X2_hasRelative gX2_ago_X2_hasRelative rfl ⟨Nat.le_of_ble_eq_true rfl, Nat.le_of_ble_eq_true rfl⟩ ⟨rfl, rfl⟩ 0 rfl (show vwCl[2]? = some (RX2, TX2, 9) from rfl) rfl (by decide) rfl rfl (Nat.le_of_ble_eq_true rfl) ⟨by decide, by decide⟩ rfl rfl ?_
  refine G_if_eqF (tgt := 17) (q := 8) dX2_ago_5 (by decide) rfl (by decide) ?_
  refine G_aload_n (q := 9) dX2_ago_8 rfl 0 rfl rfl ?_
  refine G_get (q := 12) dX2_ago_9 0 rfl (show vwCl[2]? = some (RX2, TX2, 9) from rfl) 1 (by decide) in_X2_ago_X2 fl_X2_ago_15 rfl rfl ?_
  refine G_iload_n (q := 13) dX2_ago_12 rfl 1 rfl rfl ?_
  refine G_iald (q := 14) dX2_ago_13 2 rfl j (rfl) (by omega) (by omega) rfl ?_
  refine G_goto (q := 18) dX2_ago_14 (by decide) ?_
  exact G_iret dX2_ago_18 rfl rfl ⟨rfl, rfl⟩
theorem cs_X2_mails : CS yX2_mails wsX2_mails cX2_mails 2 (some .int) 1 := ⟨⟨_, rfl⟩, by decide +kernel, by decide +kernel, by decide +kernel⟩
theorem fl_X2_mails_18 : Cond.fieldLink RX2 18 (TX2 2).1 (TX2 2).2.1 (TX2 2).2.2.1 ∈ wsX2_mails := by decide +kernel
theorem in_X2_mails_X2 : ∀ w ∈ u_ws RX2 TX2 9, w ∈ wsX2_mails := by decide +kernel
set_option maxHeartbeats 4000000 in
set_option maxRecDepth 100000 in
theorem ct_X2_mails (Z : Nat → ClassId) (h : Nat) (ka : Nat) (aa : Nat) (ma : Nat) (ta : Nat) (qa : Nat) (kd : Nat → Nat) (ag : Nat → Nat) (ml : Nat → Nat) (tp : Nat → Nat) (qu : Nat → Bool) (n : Nat) (k : Nat) (deed : Nat) (hint : Nat) (j : Nat) (hn : n ≤ 6) (hj : j < n): Ct false yX2_mails wsX2_mails ({ frames := 1, cells := 0, slots := 0, locals := 21 }) [.ref h, .int (nI j)] Z [(h, .inr (2, [.ref ka, .ref aa, .ref ma, .ref ta, .ref qa, .int (nI n), .int (nI k), .int (nI deed), .int (nI hint)])), (ka, .inl (Z 0, 6, .inl (fun j => nI (kd j)))), (aa, .inl (Z 0, 6, .inl (fun j => nI (ag j)))), (ma, .inl (Z 0, 6, .inl (fun j => nI (ml j)))), (ta, .inl (Z 0, 8, .inl (fun j => nI (tp j)))), (qa, .inl (Z 2, 8, .inl (fun j => bI (qu j))))] (rI (nI (ml j)) [(h, .inr (2, [.ref ka, .ref aa, .ref ma, .ref ta, .ref qa, .int (nI n), .int (nI k), .int (nI deed), .int (nI hint)])), (ka, .inl (Z 0, 6, .inl (fun j => nI (kd j)))), (aa, .inl (Z 0, 6, .inl (fun j => nI (ag j)))), (ma, .inl (Z 0, 6, .inl (fun j => nI (ml j)))), (ta, .inl (Z 0, 8, .inl (fun j => nI (tp j)))), (qa, .inl (Z 2, 8, .inl (fun j => bI (qu j))))]) 0 0 := by
  refine Ct_of (cc := cX2_mails) (maxL := 2) (ret := (some .int)) (own := RX2) false false (by decide +kernel) rfl rfl (by decide) (fun v w h => by rw [h.1]; exact ⟨_, rfl, rfl⟩) (Nat.le_of_ble_eq_true rfl) (fun X => ?_)
  show GG X _ _ _ _ _ _ _ _ _ _ _ _ _ _ [(0, .ref h), (1, .int (nI j))] _ _
  refine G_aload_n (q := 1) dX2_mails_0 rfl 0 rfl rfl ?_
  refine G_iload_n (q := 2) dX2_mails_1 rfl 1 rfl rfl ?_
  refine G_callVP (As := [.int (nI j)]) (rest := []) (st2 := [.int (bI true)]) (q := 5) dX2_mails_2 [0, 1, 2, 3, 4, 5] (ct_X2_hasRelative_ok Z h ka aa ma ta qa kd ag ml tp qu n k deed hint j (by omega) (by omega)) (fun h => h) cs_X2_hasRelative gX2_mails_X2_hasRelative rfl ⟨Nat.le_of_ble_eq_true rfl, Nat.le_of_ble_eq_true rfl⟩ ⟨rfl, rfl⟩ 0 rfl (show vwCl[2]? = some (RX2, TX2, 9) from rfl) rfl (by decide) rfl rfl (Nat.le_of_ble_eq_true rfl) ⟨by decide, by decide⟩ rfl rfl ?_
  refine G_if_eqF (tgt := 17) (q := 8) dX2_mails_5 (by decide) rfl (by decide) ?_
  refine G_aload_n (q := 9) dX2_mails_8 rfl 0 rfl rfl ?_
  refine G_get (q := 12) dX2_mails_9 0 rfl (show vwCl[2]? = some (RX2, TX2, 9) from rfl) 2 (by decide) in_X2_mails_X2 fl_X2_mails_18 rfl rfl ?_
  refine G_iload_n (q := 13) dX2_mails_12 rfl 1 rfl rfl ?_
  refine G_iald (q := 14) dX2_mails_13 3 rfl j (rfl) (by omega) (by omega) rfl ?_
  refine G_goto (q := 18) dX2_mails_14 (by decide) ?_
  exact G_iret dX2_mails_18 rfl rfl ⟨rfl, rfl⟩
theorem cs_X2_topics : CS yX2_topics wsX2_topics cX2_topics 2 (some .int) 1 := ⟨⟨_, rfl⟩, by decide +kernel, by decide +kernel, by decide +kernel⟩
theorem fl_X2_topics_21 : Cond.fieldLink RX2 21 (TX2 3).1 (TX2 3).2.1 (TX2 3).2.2.1 ∈ wsX2_topics := by decide +kernel
theorem in_X2_topics_X2 : ∀ w ∈ u_ws RX2 TX2 9, w ∈ wsX2_topics := by decide +kernel
set_option maxHeartbeats 4000000 in
set_option maxRecDepth 100000 in
theorem ct_X2_topics (Z : Nat → ClassId) (h : Nat) (ka : Nat) (aa : Nat) (ma : Nat) (ta : Nat) (qa : Nat) (kd : Nat → Nat) (ag : Nat → Nat) (ml : Nat → Nat) (tp : Nat → Nat) (qu : Nat → Bool) (n : Nat) (k : Nat) (deed : Nat) (hint : Nat) (j : Nat) (hk : k ≤ 8) (hj : j < k): Ct false yX2_topics wsX2_topics ({ frames := 1, cells := 0, slots := 0, locals := 21 }) [.ref h, .int (nI j)] Z [(h, .inr (2, [.ref ka, .ref aa, .ref ma, .ref ta, .ref qa, .int (nI n), .int (nI k), .int (nI deed), .int (nI hint)])), (ka, .inl (Z 0, 6, .inl (fun j => nI (kd j)))), (aa, .inl (Z 0, 6, .inl (fun j => nI (ag j)))), (ma, .inl (Z 0, 6, .inl (fun j => nI (ml j)))), (ta, .inl (Z 0, 8, .inl (fun j => nI (tp j)))), (qa, .inl (Z 2, 8, .inl (fun j => bI (qu j))))] (rI (nI (tp j)) [(h, .inr (2, [.ref ka, .ref aa, .ref ma, .ref ta, .ref qa, .int (nI n), .int (nI k), .int (nI deed), .int (nI hint)])), (ka, .inl (Z 0, 6, .inl (fun j => nI (kd j)))), (aa, .inl (Z 0, 6, .inl (fun j => nI (ag j)))), (ma, .inl (Z 0, 6, .inl (fun j => nI (ml j)))), (ta, .inl (Z 0, 8, .inl (fun j => nI (tp j)))), (qa, .inl (Z 2, 8, .inl (fun j => bI (qu j))))]) 0 0 := by
  refine Ct_of (cc := cX2_topics) (maxL := 2) (ret := (some .int)) (own := RX2) false false (by decide +kernel) rfl rfl (by decide) (fun v w h => by rw [h.1]; exact ⟨_, rfl, rfl⟩) (Nat.le_of_ble_eq_true rfl) (fun X => ?_)
  show GG X _ _ _ _ _ _ _ _ _ _ _ _ _ _ [(0, .ref h), (1, .int (nI j))] _ _
  refine G_aload_n (q := 1) dX2_topics_0 rfl 0 rfl rfl ?_
  refine G_iload_n (q := 2) dX2_topics_1 rfl 1 rfl rfl ?_
  refine G_callVP (As := [.int (nI j)]) (rest := []) (st2 := [.int (bI true)]) (q := 5) dX2_topics_2 [0, 1, 2, 3, 4, 5] (ct_X2_hasSaying_ok Z h ka aa ma ta qa kd ag ml tp qu n k deed hint j (by omega) (by omega)) (fun h => h) cs_X2_hasSaying gX2_topics_X2_hasSaying rfl ⟨Nat.le_of_ble_eq_true rfl, Nat.le_of_ble_eq_true rfl⟩ ⟨rfl, rfl⟩ 0 rfl (show vwCl[2]? = some (RX2, TX2, 9) from rfl) rfl (by decide) rfl rfl (Nat.le_of_ble_eq_true rfl) ⟨by decide, by decide⟩ rfl rfl ?_
  refine G_if_eqF (tgt := 17) (q := 8) dX2_topics_5 (by decide) rfl (by decide) ?_
  refine G_aload_n (q := 9) dX2_topics_8 rfl 0 rfl rfl ?_
  refine G_get (q := 12) dX2_topics_9 0 rfl (show vwCl[2]? = some (RX2, TX2, 9) from rfl) 3 (by decide) in_X2_topics_X2 fl_X2_topics_21 rfl rfl ?_
  refine G_iload_n (q := 13) dX2_topics_12 rfl 1 rfl rfl ?_
  refine G_iald (q := 14) dX2_topics_13 4 rfl j (rfl) (by omega) (by omega) rfl ?_
  refine G_goto (q := 18) dX2_topics_14 (by decide) ?_
  exact G_iret dX2_topics_18 rfl rfl ⟨rfl, rfl⟩
theorem cs_X2_isQuestion : CS yX2_isQuestion wsX2_isQuestion cX2_isQuestion 2 (some .boolean) 1 := ⟨⟨_, rfl⟩, by decide +kernel, by decide +kernel, by decide +kernel⟩
theorem fl_X2_isQuestion_24 : Cond.fieldLink RX2 24 (TX2 4).1 (TX2 4).2.1 (TX2 4).2.2.1 ∈ wsX2_isQuestion := by decide +kernel
theorem in_X2_isQuestion_X2 : ∀ w ∈ u_ws RX2 TX2 9, w ∈ wsX2_isQuestion := by decide +kernel
set_option maxHeartbeats 4000000 in
set_option maxRecDepth 100000 in
theorem ct_X2_isQuestion (Z : Nat → ClassId) (h : Nat) (ka : Nat) (aa : Nat) (ma : Nat) (ta : Nat) (qa : Nat) (kd : Nat → Nat) (ag : Nat → Nat) (ml : Nat → Nat) (tp : Nat → Nat) (qu : Nat → Bool) (n : Nat) (k : Nat) (deed : Nat) (hint : Nat) (j : Nat) (hk : k ≤ 8) (hj : j < k): Ct false yX2_isQuestion wsX2_isQuestion ({ frames := 1, cells := 0, slots := 0, locals := 21 }) [.ref h, .int (nI j)] Z [(h, .inr (2, [.ref ka, .ref aa, .ref ma, .ref ta, .ref qa, .int (nI n), .int (nI k), .int (nI deed), .int (nI hint)])), (ka, .inl (Z 0, 6, .inl (fun j => nI (kd j)))), (aa, .inl (Z 0, 6, .inl (fun j => nI (ag j)))), (ma, .inl (Z 0, 6, .inl (fun j => nI (ml j)))), (ta, .inl (Z 0, 8, .inl (fun j => nI (tp j)))), (qa, .inl (Z 2, 8, .inl (fun j => bI (qu j))))] (rI (bI (qu j)) [(h, .inr (2, [.ref ka, .ref aa, .ref ma, .ref ta, .ref qa, .int (nI n), .int (nI k), .int (nI deed), .int (nI hint)])), (ka, .inl (Z 0, 6, .inl (fun j => nI (kd j)))), (aa, .inl (Z 0, 6, .inl (fun j => nI (ag j)))), (ma, .inl (Z 0, 6, .inl (fun j => nI (ml j)))), (ta, .inl (Z 0, 8, .inl (fun j => nI (tp j)))), (qa, .inl (Z 2, 8, .inl (fun j => bI (qu j))))]) 0 0 := by
  refine Ct_of (cc := cX2_isQuestion) (maxL := 2) (ret := (some .boolean)) (own := RX2) false false (by decide +kernel) rfl rfl (by decide) (fun v w h => by rw [h.1]; exact ⟨_, rfl, bI_01 _⟩) (Nat.le_of_ble_eq_true rfl) (fun X => ?_)
  show GG X _ _ _ _ _ _ _ _ _ _ _ _ _ _ [(0, .ref h), (1, .int (nI j))] _ _
  refine G_aload_n (q := 1) dX2_isQuestion_0 rfl 0 rfl rfl ?_
  refine G_iload_n (q := 2) dX2_isQuestion_1 rfl 1 rfl rfl ?_
  refine G_callVP (As := [.int (nI j)]) (rest := []) (st2 := [.int (bI true)]) (q := 5) dX2_isQuestion_2 [0, 1, 2, 3, 4, 5] (ct_X2_hasSaying_ok Z h ka aa ma ta qa kd ag ml tp qu n k deed hint j (by omega) (by omega)) (fun h => h) cs_X2_hasSaying gX2_isQuestion_X2_hasSaying rfl ⟨Nat.le_of_ble_eq_true rfl, Nat.le_of_ble_eq_true rfl⟩ ⟨rfl, rfl⟩ 0 rfl (show vwCl[2]? = some (RX2, TX2, 9) from rfl) rfl (by decide) rfl rfl (Nat.le_of_ble_eq_true rfl) ⟨by decide, by decide⟩ rfl rfl ?_
  refine G_if_eqF (tgt := 21) (q := 8) dX2_isQuestion_5 (by decide) rfl (by decide) ?_
  refine G_aload_n (q := 9) dX2_isQuestion_8 rfl 0 rfl rfl ?_
  refine G_get (q := 12) dX2_isQuestion_9 0 rfl (show vwCl[2]? = some (RX2, TX2, 9) from rfl) 4 (by decide) in_X2_isQuestion_X2 fl_X2_isQuestion_24 rfl rfl ?_
  refine G_iload_n (q := 13) dX2_isQuestion_12 rfl 1 rfl rfl ?_
  refine G_zald (q := 14) dX2_isQuestion_13 5 rfl j (rfl) (by omega) (by omega) rfl ?_
  refine G_if_eqB (tgt := 21) (q := 17) dX2_isQuestion_14 (by decide) rfl (fun c14 => ?_) (fun c14 => ?_)
  · refine G_iconst (v := nI 0) (q := 22) dX2_isQuestion_21 (by decide) rfl ?_
    refine GG.of (ws2 := [(h, .inr (2, [.ref ka, .ref aa, .ref ma, .ref ta, .ref qa, .int (nI n), .int (nI k), .int (nI deed), .int (nI hint)])), (ka, .inl (Z 0, 6, .inl (fun j => nI (kd j)))), (aa, .inl (Z 0, 6, .inl (fun j => nI (ag j)))), (ma, .inl (Z 0, 6, .inl (fun j => nI (ml j)))), (ta, .inl (Z 0, 8, .inl (fun j => nI (tp j)))), (qa, .inl (Z 2, 8, .inl (fun j => bI (qu j))))]) (lv2 := [(0, .ref h), (1, .int (nI j))]) (st2 := [.int (bI (qu j))]) (rfl) (rfl) (st_c (vi_c (show nI 0 = bI (qu j) from by simp [bI_true, bI_false, c14])) (rfl)) ?_
    exact G_iret dX2_isQuestion_22 rfl rfl ⟨rfl, rfl⟩
  · refine G_iconst (v := nI 1) (q := 18) dX2_isQuestion_17 (by decide) rfl ?_
    refine G_goto (q := 22) dX2_isQuestion_18 (by decide) ?_
    refine GG.of (ws2 := [(h, .inr (2, [.ref ka, .ref aa, .ref ma, .ref ta, .ref qa, .int (nI n), .int (nI k), .int (nI deed), .int (nI hint)])), (ka, .inl (Z 0, 6, .inl (fun j => nI (kd j)))), (aa, .inl (Z 0, 6, .inl (fun j => nI (ag j)))), (ma, .inl (Z 0, 6, .inl (fun j => nI (ml j)))), (ta, .inl (Z 0, 8, .inl (fun j => nI (tp j)))), (qa, .inl (Z 2, 8, .inl (fun j => bI (qu j))))]) (lv2 := [(0, .ref h), (1, .int (nI j))]) (st2 := [.int (bI (qu j))]) (rfl) (rfl) (st_c (vi_c (show nI 1 = bI (qu j) from by simp [bI_true, bI_false, c14])) (rfl)) ?_
    exact G_iret dX2_isQuestion_22 rfl rfl ⟨rfl, rfl⟩
theorem cs_X2_isAsking : CS yX2_isAsking wsX2_isAsking cX2_isAsking 6 (some .boolean) 3 := ⟨⟨_, rfl⟩, by decide +kernel, by decide +kernel, by decide +kernel⟩
theorem fl_X2_isAsking_38 : Cond.fieldLink RX2 38 (TX2 8).1 (TX2 8).2.1 (TX2 8).2.2.1 ∈ wsX2_isAsking := by decide +kernel
theorem in_X2_isAsking_X2 : ∀ w ∈ u_ws RX2 TX2 9, w ∈ wsX2_isAsking := by decide +kernel
set_option maxHeartbeats 4000000 in
set_option maxRecDepth 100000 in
theorem ct_X2_isAsking (Z : Nat → ClassId) (h : Nat) (ka : Nat) (aa : Nat) (ma : Nat) (ta : Nat) (qa : Nat) (kd : Nat → Nat) (ag : Nat → Nat) (ml : Nat → Nat) (tp : Nat → Nat) (qu : Nat → Bool) (n : Nat) (k : Nat) (deed : Nat) (hint : Nat) (s : Nat) (j : Nat) (d : Nat) (hn : n ≤ 6) (hk : k ≤ 8) (hkd : ∀ j, kd j ≤ 4) (htp : ∀ j, tp j < 64) (hh : hint < 64) (hj : j < n) (hs : s < k): Ct false yX2_isAsking wsX2_isAsking ({ frames := 2, cells := 0, slots := 0, locals := 42 }) [.ref h, .int (nI s), .int (nI j), .int (nI d)] Z [(h, .inr (2, [.ref ka, .ref aa, .ref ma, .ref ta, .ref qa, .int (nI n), .int (nI k), .int (nI deed), .int (nI hint)])), (ka, .inl (Z 0, 6, .inl (fun j => nI (kd j)))), (aa, .inl (Z 0, 6, .inl (fun j => nI (ag j)))), (ma, .inl (Z 0, 6, .inl (fun j => nI (ml j)))), (ta, .inl (Z 0, 8, .inl (fun j => nI (tp j)))), (qa, .inl (Z 2, 8, .inl (fun j => bI (qu j))))] (rI (bI (askB (kd j) (tp s) (qu s) d hint)) [(h, .inr (2, [.ref ka, .ref aa, .ref ma, .ref ta, .ref qa, .int (nI n), .int (nI k), .int (nI deed), .int (nI hint)])), (ka, .inl (Z 0, 6, .inl (fun j => nI (kd j)))), (aa, .inl (Z 0, 6, .inl (fun j => nI (ag j)))), (ma, .inl (Z 0, 6, .inl (fun j => nI (ml j)))), (ta, .inl (Z 0, 8, .inl (fun j => nI (tp j)))), (qa, .inl (Z 2, 8, .inl (fun j => bI (qu j))))]) 0 0 := by
  refine Ct_of (cc := cX2_isAsking) (maxL := 6) (ret := (some .boolean)) (own := RX2) false false (by decide +kernel) rfl rfl (by decide) (fun v w h => by rw [h.1]; exact ⟨_, rfl, bI_01 _⟩) (Nat.le_of_ble_eq_true rfl) (fun X => ?_)
  show GG X _ _ _ _ _ _ _ _ _ _ _ _ _ _ [(0, .ref h), (1, .int (nI s)), (2, .int (nI j)), (3, .int (nI d))] _ _
  refine G_aload_n (q := 1) dX2_isAsking_0 rfl 0 rfl rfl ?_
  refine G_iload_n (q := 2) dX2_isAsking_1 rfl 1 rfl rfl ?_
  refine G_callVP (As := [.int (nI s)]) (rest := []) (st2 := [.int (bI (qu s))]) (q := 5) dX2_isAsking_2 [0, 1, 2, 3, 4, 5] (ct_X2_isQuestion Z h ka aa ma ta qa kd ag ml tp qu n k deed hint s (by omega) (by omega)) (fun h => h) cs_X2_isQuestion gX2_isAsking_X2_isQuestion rfl ⟨Nat.le_of_ble_eq_true rfl, Nat.le_of_ble_eq_true rfl⟩ ⟨rfl, rfl⟩ 0 rfl (show vwCl[2]? = some (RX2, TX2, 9) from rfl) rfl (by decide) rfl rfl (Nat.le_of_ble_eq_true rfl) ⟨by decide, by decide⟩ rfl rfl ?_
  refine G_istore (lv2 := [(0, .ref h), (1, .int (nI s)), (2, .int (nI j)), (3, .int (nI d)), (4, .int (bI (qu s)))]) (q := 7) dX2_isAsking_5 (by decide) rfl rfl ?_
  refine G_aload_n (q := 8) dX2_isAsking_7 rfl 0 rfl rfl ?_
  refine G_iload_n (q := 9) dX2_isAsking_8 rfl 1 rfl rfl ?_
  refine G_callVP (As := [.int (nI s)]) (rest := []) (st2 := [.int (nI (tp s))]) (q := 12) dX2_isAsking_9 [0, 1, 2, 3, 4, 5] (ct_X2_topics Z h ka aa ma ta qa kd ag ml tp qu n k deed hint s (by omega) (by omega)) (fun h => h) cs_X2_topics gX2_isAsking_X2_topics rfl ⟨Nat.le_of_ble_eq_true rfl, Nat.le_of_ble_eq_true rfl⟩ ⟨rfl, rfl⟩ 0 rfl (show vwCl[2]? = some (RX2, TX2, 9) from rfl) rfl (by decide) rfl rfl (Nat.le_of_ble_eq_true rfl) ⟨by decide, by decide⟩ rfl rfl ?_
  refine G_iload_n (q := 13) dX2_isAsking_12 rfl 3 rfl rfl ?_
  refine G_iandN (a := (tp s)) (b := d) (q := 14) dX2_isAsking_13 rfl ?_
  have J22_1 : GG X ({ frames := 2, cells := 0, slots := 0, locals := 42 }) cX2_isAsking 6 wsX2_isAsking RX2 false false Z (rI (bI (askB (kd j) (tp s) (qu s) d hint)) [(h, .inr (2, [.ref ka, .ref aa, .ref ma, .ref ta, .ref qa, .int (nI n), .int (nI k), .int (nI deed), .int (nI hint)])), (ka, .inl (Z 0, 6, .inl (fun j => nI (kd j)))), (aa, .inl (Z 0, 6, .inl (fun j => nI (ag j)))), (ma, .inl (Z 0, 6, .inl (fun j => nI (ml j)))), (ta, .inl (Z 0, 8, .inl (fun j => nI (tp j)))), (qa, .inl (Z 2, 8, .inl (fun j => bI (qu j))))]) 0 0 0 0 [(h, .inr (2, [.ref ka, .ref aa, .ref ma, .ref ta, .ref qa, .int (nI n), .int (nI k), .int (nI deed), .int (nI hint)])), (ka, .inl (Z 0, 6, .inl (fun j => nI (kd j)))), (aa, .inl (Z 0, 6, .inl (fun j => nI (ag j)))), (ma, .inl (Z 0, 6, .inl (fun j => nI (ml j)))), (ta, .inl (Z 0, 8, .inl (fun j => nI (tp j)))), (qa, .inl (Z 2, 8, .inl (fun j => bI (qu j))))] [(0, .ref h), (1, .int (nI s)), (2, .int (nI j)), (3, .int (nI d)), (4, .int (bI (qu s)))] [.int (bI (onD (tp s) d))] 22 := by
    refine G_istore (lv2 := [(0, .ref h), (1, .int (nI s)), (2, .int (nI j)), (3, .int (nI d)), (4, .int (bI (qu s))), (5, .int (bI (onD (tp s) d)))]) (q := 24) dX2_isAsking_22 (by decide) rfl rfl ?_
    refine G_aload_n (q := 25) dX2_isAsking_24 rfl 0 rfl rfl ?_
    refine G_iload_n (q := 26) dX2_isAsking_25 rfl 2 rfl rfl ?_
    refine G_callVP (As := [.int (nI j)]) (rest := []) (st2 := [.int (nI (kd j))]) (q := 29) dX2_isAsking_26 [0, 1, 2, 3, 4, 5] (ct_X2_kind Z h ka aa ma ta qa kd ag ml tp qu n k deed hint j (by omega) (by omega)) (fun h => h) cs_X2_kind gX2_isAsking_X2_kind rfl ⟨Nat.le_of_ble_eq_true rfl, Nat.le_of_ble_eq_true rfl⟩ ⟨rfl, rfl⟩ 0 rfl (show vwCl[2]? = some (RX2, TX2, 9) from rfl) rfl (by decide) rfl rfl (Nat.le_of_ble_eq_true rfl) ⟨by decide, by decide⟩ rfl rfl ?_
    rcases (show kd j = 0 ∨ kd j = 1 ∨ kd j = 2 ∨ kd j = 3 ∨ kd j = 4 by have := hkd j; omega) with hc | hc | hc | hc | hc
    · refine G_top (y := nI 0) (by rw [hc]) ?_
      refine G_tabI (off := 31) (q := 60) dX2_isAsking_29 (by decide) (by decide) (by decide +kernel) (by decide) ?_
      refine G_iload (q := 62) dX2_isAsking_60 4 rfl rfl ?_
      refine G_if_eqB (tgt := 74) (q := 65) dX2_isAsking_62 (by decide) rfl (fun c62 => ?_) (fun c62 => ?_)
      · refine G_iconst (v := nI 0) (q := 75) dX2_isAsking_74 (by decide) rfl ?_
        refine GG.of (ws2 := [(h, .inr (2, [.ref ka, .ref aa, .ref ma, .ref ta, .ref qa, .int (nI n), .int (nI k), .int (nI deed), .int (nI hint)])), (ka, .inl (Z 0, 6, .inl (fun j => nI (kd j)))), (aa, .inl (Z 0, 6, .inl (fun j => nI (ag j)))), (ma, .inl (Z 0, 6, .inl (fun j => nI (ml j)))), (ta, .inl (Z 0, 8, .inl (fun j => nI (tp j)))), (qa, .inl (Z 2, 8, .inl (fun j => bI (qu j))))]) (lv2 := [(0, .ref h), (1, .int (nI s)), (2, .int (nI j)), (3, .int (nI d)), (4, .int (bI (qu s))), (5, .int (bI (onD (tp s) d)))]) (st2 := [.int (bI (askB (kd j) (tp s) (qu s) d hint))]) (rfl) (rfl) (st_c (vi_c (show nI 0 = bI (askB (kd j) (tp s) (qu s) d hint) from by first | (simp [askB, hc, bI_true, bI_false, c78, c83, Nat.not_le.mpr c98]; done) | simp [askB, hc, bI_true, bI_false, c62])) (rfl)) ?_
        exact G_iret dX2_isAsking_75 rfl rfl ⟨rfl, rfl⟩
      · refine G_iload (q := 67) dX2_isAsking_65 5 rfl rfl ?_
        refine G_if_eqB (tgt := 74) (q := 70) dX2_isAsking_67 (by decide) rfl (fun c67 => ?_) (fun c67 => ?_)
        · refine G_iconst (v := nI 0) (q := 75) dX2_isAsking_74 (by decide) rfl ?_
          refine GG.of (ws2 := [(h, .inr (2, [.ref ka, .ref aa, .ref ma, .ref ta, .ref qa, .int (nI n), .int (nI k), .int (nI deed), .int (nI hint)])), (ka, .inl (Z 0, 6, .inl (fun j => nI (kd j)))), (aa, .inl (Z 0, 6, .inl (fun j => nI (ag j)))), (ma, .inl (Z 0, 6, .inl (fun j => nI (ml j)))), (ta, .inl (Z 0, 8, .inl (fun j => nI (tp j)))), (qa, .inl (Z 2, 8, .inl (fun j => bI (qu j))))]) (lv2 := [(0, .ref h), (1, .int (nI s)), (2, .int (nI j)), (3, .int (nI d)), (4, .int (bI (qu s))), (5, .int (bI (onD (tp s) d)))]) (st2 := [.int (bI (askB (kd j) (tp s) (qu s) d hint))]) (rfl) (rfl) (st_c (vi_c (show nI 0 = bI (askB (kd j) (tp s) (qu s) d hint) from by first | (simp [askB, hc, bI_true, bI_false, c78, c83, Nat.not_le.mpr c98]; done) | simp [askB, hc, bI_true, bI_false, c62, c67])) (rfl)) ?_
          exact G_iret dX2_isAsking_75 rfl rfl ⟨rfl, rfl⟩
        · refine G_iconst (v := nI 1) (q := 71) dX2_isAsking_70 (by decide) rfl ?_
          refine G_goto (q := 75) dX2_isAsking_71 (by decide) ?_
          refine GG.of (ws2 := [(h, .inr (2, [.ref ka, .ref aa, .ref ma, .ref ta, .ref qa, .int (nI n), .int (nI k), .int (nI deed), .int (nI hint)])), (ka, .inl (Z 0, 6, .inl (fun j => nI (kd j)))), (aa, .inl (Z 0, 6, .inl (fun j => nI (ag j)))), (ma, .inl (Z 0, 6, .inl (fun j => nI (ml j)))), (ta, .inl (Z 0, 8, .inl (fun j => nI (tp j)))), (qa, .inl (Z 2, 8, .inl (fun j => bI (qu j))))]) (lv2 := [(0, .ref h), (1, .int (nI s)), (2, .int (nI j)), (3, .int (nI d)), (4, .int (bI (qu s))), (5, .int (bI (onD (tp s) d)))]) (st2 := [.int (bI (askB (kd j) (tp s) (qu s) d hint))]) (rfl) (rfl) (st_c (vi_c (show nI 1 = bI (askB (kd j) (tp s) (qu s) d hint) from by first | (simp [askB, hc, bI_true, bI_false, c78, c83, Nat.not_le.mpr c98]; done) | simp [askB, hc, bI_true, bI_false, c62, c67])) (rfl)) ?_
          exact G_iret dX2_isAsking_75 rfl rfl ⟨rfl, rfl⟩
    · refine G_top (y := nI 1) (by rw [hc]) ?_
      refine G_tabI (off := 47) (q := 76) dX2_isAsking_29 (by decide) (by decide) (by decide +kernel) (by decide) ?_
      refine G_iload (q := 78) dX2_isAsking_76 5 rfl rfl ?_
      refine G_if_eqB (tgt := 105) (q := 81) dX2_isAsking_78 (by decide) rfl (fun c78 => ?_) (fun c78 => ?_)
      · refine G_iconst (v := nI 0) (q := 106) dX2_isAsking_105 (by decide) rfl ?_
        refine GG.of (ws2 := [(h, .inr (2, [.ref ka, .ref aa, .ref ma, .ref ta, .ref qa, .int (nI n), .int (nI k), .int (nI deed), .int (nI hint)])), (ka, .inl (Z 0, 6, .inl (fun j => nI (kd j)))), (aa, .inl (Z 0, 6, .inl (fun j => nI (ag j)))), (ma, .inl (Z 0, 6, .inl (fun j => nI (ml j)))), (ta, .inl (Z 0, 8, .inl (fun j => nI (tp j)))), (qa, .inl (Z 2, 8, .inl (fun j => bI (qu j))))]) (lv2 := [(0, .ref h), (1, .int (nI s)), (2, .int (nI j)), (3, .int (nI d)), (4, .int (bI (qu s))), (5, .int (bI (onD (tp s) d)))]) (st2 := [.int (bI (askB (kd j) (tp s) (qu s) d hint))]) (rfl) (rfl) (st_c (vi_c (show nI 0 = bI (askB (kd j) (tp s) (qu s) d hint) from by first | (simp [askB, hc, bI_true, bI_false, c78, c83, Nat.not_le.mpr c98]; done) | simp [askB, hc, bI_true, bI_false, c78])) (rfl)) ?_
        exact G_iret dX2_isAsking_106 rfl rfl ⟨rfl, rfl⟩
      · refine G_iload (q := 83) dX2_isAsking_81 4 rfl rfl ?_
        refine G_if_neB (tgt := 101) (q := 86) dX2_isAsking_83 (by decide) rfl (fun c83 => ?_) (fun c83 => ?_)
        · refine G_iconst (v := nI 1) (q := 102) dX2_isAsking_101 (by decide) rfl ?_
          refine G_goto (q := 106) dX2_isAsking_102 (by decide) ?_
          refine GG.of (ws2 := [(h, .inr (2, [.ref ka, .ref aa, .ref ma, .ref ta, .ref qa, .int (nI n), .int (nI k), .int (nI deed), .int (nI hint)])), (ka, .inl (Z 0, 6, .inl (fun j => nI (kd j)))), (aa, .inl (Z 0, 6, .inl (fun j => nI (ag j)))), (ma, .inl (Z 0, 6, .inl (fun j => nI (ml j)))), (ta, .inl (Z 0, 8, .inl (fun j => nI (tp j)))), (qa, .inl (Z 2, 8, .inl (fun j => bI (qu j))))]) (lv2 := [(0, .ref h), (1, .int (nI s)), (2, .int (nI j)), (3, .int (nI d)), (4, .int (bI (qu s))), (5, .int (bI (onD (tp s) d)))]) (st2 := [.int (bI (askB (kd j) (tp s) (qu s) d hint))]) (rfl) (rfl) (st_c (vi_c (show nI 1 = bI (askB (kd j) (tp s) (qu s) d hint) from by first | (simp [askB, hc, bI_true, bI_false, c78, c83, Nat.not_le.mpr c98]; done) | simp [askB, hc, bI_true, bI_false, c78, c83])) (rfl)) ?_
          exact G_iret dX2_isAsking_106 rfl rfl ⟨rfl, rfl⟩
        · refine G_aload_n (q := 87) dX2_isAsking_86 rfl 0 rfl rfl ?_
          refine G_iload_n (q := 88) dX2_isAsking_87 rfl 1 rfl rfl ?_
          refine G_callVP (As := [.int (nI s)]) (rest := []) (st2 := [.int (nI (tp s))]) (q := 91) dX2_isAsking_88 [0, 1, 2, 3, 4, 5] (ct_X2_topics Z h ka aa ma ta qa kd ag ml tp qu n k deed hint s (by omega) (by omega)) (fun h => h) cs_X2_topics gX2_isAsking_X2_topics rfl ⟨Nat.le_of_ble_eq_true rfl, Nat.le_of_ble_eq_true rfl⟩ ⟨rfl, rfl⟩ 0 rfl (show vwCl[2]? = some (RX2, TX2, 9) from rfl) rfl (by decide) rfl rfl (Nat.le_of_ble_eq_true rfl) ⟨by decide, by decide⟩ rfl rfl ?_
          refine G_callSP (As := [.int (nI (tp s))]) (rest := []) (st2 := [.int (nI (pc6 (tp s)))]) (q := 94) dX2_isAsking_91 [] (ct_J6_bitCount_0f7a4_n Z (tp s) (htp s)) (fun h => h) cs_J6_bitCount_0f7a4 gX2_isAsking_J6_bitCount_0f7a4 ⟨Nat.le_of_ble_eq_true rfl, Nat.le_of_ble_eq_true rfl⟩ ⟨rfl, rfl⟩ rfl (by decide) rfl rfl (Nat.le_of_ble_eq_true rfl) ⟨by decide, by decide⟩ rfl rfl ?_
          refine G_aload_n (q := 95) dX2_isAsking_94 rfl 0 rfl rfl ?_
          refine G_get (q := 98) dX2_isAsking_95 0 rfl (show vwCl[2]? = some (RX2, TX2, 9) from rfl) 8 (by decide) in_X2_isAsking_X2 fl_X2_isAsking_38 rfl rfl ?_
          refine G_icmp_ltN (tgt := 105) (q := 101) dX2_isAsking_98 (by decide) rfl (by have := pc6_le (tp s); omega) (by omega) (fun c98 => ?_) (fun c98 => ?_)
          · refine G_iconst (v := nI 0) (q := 106) dX2_isAsking_105 (by decide) rfl ?_
            refine GG.of (ws2 := [(h, .inr (2, [.ref ka, .ref aa, .ref ma, .ref ta, .ref qa, .int (nI n), .int (nI k), .int (nI deed), .int (nI hint)])), (ka, .inl (Z 0, 6, .inl (fun j => nI (kd j)))), (aa, .inl (Z 0, 6, .inl (fun j => nI (ag j)))), (ma, .inl (Z 0, 6, .inl (fun j => nI (ml j)))), (ta, .inl (Z 0, 8, .inl (fun j => nI (tp j)))), (qa, .inl (Z 2, 8, .inl (fun j => bI (qu j))))]) (lv2 := [(0, .ref h), (1, .int (nI s)), (2, .int (nI j)), (3, .int (nI d)), (4, .int (bI (qu s))), (5, .int (bI (onD (tp s) d)))]) (st2 := [.int (bI (askB (kd j) (tp s) (qu s) d hint))]) (rfl) (rfl) (st_c (vi_c (show nI 0 = bI (askB (kd j) (tp s) (qu s) d hint) from by first | (simp [askB, hc, bI_true, bI_false, c78, c83, Nat.not_le.mpr c98]; done) | simp [askB, hc, bI_true, bI_false, c78, c83, c98])) (rfl)) ?_
            exact G_iret dX2_isAsking_106 rfl rfl ⟨rfl, rfl⟩
          · refine G_iconst (v := nI 1) (q := 102) dX2_isAsking_101 (by decide) rfl ?_
            refine G_goto (q := 106) dX2_isAsking_102 (by decide) ?_
            refine GG.of (ws2 := [(h, .inr (2, [.ref ka, .ref aa, .ref ma, .ref ta, .ref qa, .int (nI n), .int (nI k), .int (nI deed), .int (nI hint)])), (ka, .inl (Z 0, 6, .inl (fun j => nI (kd j)))), (aa, .inl (Z 0, 6, .inl (fun j => nI (ag j)))), (ma, .inl (Z 0, 6, .inl (fun j => nI (ml j)))), (ta, .inl (Z 0, 8, .inl (fun j => nI (tp j)))), (qa, .inl (Z 2, 8, .inl (fun j => bI (qu j))))]) (lv2 := [(0, .ref h), (1, .int (nI s)), (2, .int (nI j)), (3, .int (nI d)), (4, .int (bI (qu s))), (5, .int (bI (onD (tp s) d)))]) (st2 := [.int (bI (askB (kd j) (tp s) (qu s) d hint))]) (rfl) (rfl) (st_c (vi_c (show nI 1 = bI (askB (kd j) (tp s) (qu s) d hint) from by first | (simp [askB, hc, bI_true, bI_false, c78, c83, Nat.not_le.mpr c98]; done) | simp [askB, hc, bI_true, bI_false, c78, c83, c98])) (rfl)) ?_
            exact G_iret dX2_isAsking_106 rfl rfl ⟨rfl, rfl⟩
    · refine G_top (y := nI 2) (by rw [hc]) ?_
      refine G_tabI (off := 78) (q := 107) dX2_isAsking_29 (by decide) (by decide) (by decide +kernel) (by decide) ?_
      refine G_iload (q := 109) dX2_isAsking_107 5 rfl rfl ?_
      refine GG.of (ws2 := [(h, .inr (2, [.ref ka, .ref aa, .ref ma, .ref ta, .ref qa, .int (nI n), .int (nI k), .int (nI deed), .int (nI hint)])), (ka, .inl (Z 0, 6, .inl (fun j => nI (kd j)))), (aa, .inl (Z 0, 6, .inl (fun j => nI (ag j)))), (ma, .inl (Z 0, 6, .inl (fun j => nI (ml j)))), (ta, .inl (Z 0, 8, .inl (fun j => nI (tp j)))), (qa, .inl (Z 2, 8, .inl (fun j => bI (qu j))))]) (lv2 := [(0, .ref h), (1, .int (nI s)), (2, .int (nI j)), (3, .int (nI d)), (4, .int (bI (qu s))), (5, .int (bI (onD (tp s) d)))]) (st2 := [.int (bI (askB (kd j) (tp s) (qu s) d hint))]) (rfl) (rfl) (st_c (vi_c (show bI (onD (tp s) d) = bI (askB (kd j) (tp s) (qu s) d hint) from by first | (simp [askB, hc, bI_true, bI_false, c78, c83, Nat.not_le.mpr c98]; done) | simp [askB, hc, bI_true, bI_false, ])) (rfl)) ?_
      exact G_iret dX2_isAsking_109 rfl rfl ⟨rfl, rfl⟩
    · refine G_top (y := nI 3) (by rw [hc]) ?_
      refine G_tabI (off := 81) (q := 110) dX2_isAsking_29 (by decide) (by decide) (by decide +kernel) (by decide) ?_
      refine G_iload (q := 112) dX2_isAsking_110 4 rfl rfl ?_
      refine GG.of (ws2 := [(h, .inr (2, [.ref ka, .ref aa, .ref ma, .ref ta, .ref qa, .int (nI n), .int (nI k), .int (nI deed), .int (nI hint)])), (ka, .inl (Z 0, 6, .inl (fun j => nI (kd j)))), (aa, .inl (Z 0, 6, .inl (fun j => nI (ag j)))), (ma, .inl (Z 0, 6, .inl (fun j => nI (ml j)))), (ta, .inl (Z 0, 8, .inl (fun j => nI (tp j)))), (qa, .inl (Z 2, 8, .inl (fun j => bI (qu j))))]) (lv2 := [(0, .ref h), (1, .int (nI s)), (2, .int (nI j)), (3, .int (nI d)), (4, .int (bI (qu s))), (5, .int (bI (onD (tp s) d)))]) (st2 := [.int (bI (askB (kd j) (tp s) (qu s) d hint))]) (rfl) (rfl) (st_c (vi_c (show bI (qu s) = bI (askB (kd j) (tp s) (qu s) d hint) from by first | (simp [askB, hc, bI_true, bI_false, c78, c83, Nat.not_le.mpr c98]; done) | simp [askB, hc, bI_true, bI_false, ])) (rfl)) ?_
      exact G_iret dX2_isAsking_112 rfl rfl ⟨rfl, rfl⟩
    · refine G_top (y := nI 4) (by rw [hc]) ?_
      refine G_tabO (q := 113) dX2_isAsking_29 (by decide) (by decide) ?_
      refine G_iconst (v := nI 0) (q := 114) dX2_isAsking_113 (by decide) rfl ?_
      refine GG.of (ws2 := [(h, .inr (2, [.ref ka, .ref aa, .ref ma, .ref ta, .ref qa, .int (nI n), .int (nI k), .int (nI deed), .int (nI hint)])), (ka, .inl (Z 0, 6, .inl (fun j => nI (kd j)))), (aa, .inl (Z 0, 6, .inl (fun j => nI (ag j)))), (ma, .inl (Z 0, 6, .inl (fun j => nI (ml j)))), (ta, .inl (Z 0, 8, .inl (fun j => nI (tp j)))), (qa, .inl (Z 2, 8, .inl (fun j => bI (qu j))))]) (lv2 := [(0, .ref h), (1, .int (nI s)), (2, .int (nI j)), (3, .int (nI d)), (4, .int (bI (qu s))), (5, .int (bI (onD (tp s) d)))]) (st2 := [.int (bI (askB (kd j) (tp s) (qu s) d hint))]) (rfl) (rfl) (st_c (vi_c (show nI 0 = bI (askB (kd j) (tp s) (qu s) d hint) from by first | (simp [askB, hc, bI_true, bI_false, c78, c83, Nat.not_le.mpr c98]; done) | simp [askB, hc, bI_true, bI_false, ])) (rfl)) ?_
      exact G_iret dX2_isAsking_114 rfl rfl ⟨rfl, rfl⟩
  refine G_if_eqN (tgt := 21) (q := 17) dX2_isAsking_14 (by decide) rfl (Nat.lt_of_le_of_lt Nat.and_le_left (by have := htp s; omega)) (fun c14 => ?_) (fun c14 => ?_)
  · refine G_iconst (v := nI 0) (q := 22) dX2_isAsking_21 (by decide) rfl ?_
    refine GG.of (ws2 := [(h, .inr (2, [.ref ka, .ref aa, .ref ma, .ref ta, .ref qa, .int (nI n), .int (nI k), .int (nI deed), .int (nI hint)])), (ka, .inl (Z 0, 6, .inl (fun j => nI (kd j)))), (aa, .inl (Z 0, 6, .inl (fun j => nI (ag j)))), (ma, .inl (Z 0, 6, .inl (fun j => nI (ml j)))), (ta, .inl (Z 0, 8, .inl (fun j => nI (tp j)))), (qa, .inl (Z 2, 8, .inl (fun j => bI (qu j))))]) (lv2 := [(0, .ref h), (1, .int (nI s)), (2, .int (nI j)), (3, .int (nI d)), (4, .int (bI (qu s)))]) (st2 := [.int (bI (onD (tp s) d))]) (rfl) (rfl) (st_c (vi_c (show nI 0 = bI (onD (tp s) d) from by simp [onD, bI_true, bI_false, c14])) (rfl)) ?_
    exact J22_1
  · refine G_iconst (v := nI 1) (q := 18) dX2_isAsking_17 (by decide) rfl ?_
    refine G_goto (q := 22) dX2_isAsking_18 (by decide) ?_
    refine GG.of (ws2 := [(h, .inr (2, [.ref ka, .ref aa, .ref ma, .ref ta, .ref qa, .int (nI n), .int (nI k), .int (nI deed), .int (nI hint)])), (ka, .inl (Z 0, 6, .inl (fun j => nI (kd j)))), (aa, .inl (Z 0, 6, .inl (fun j => nI (ag j)))), (ma, .inl (Z 0, 6, .inl (fun j => nI (ml j)))), (ta, .inl (Z 0, 8, .inl (fun j => nI (tp j)))), (qa, .inl (Z 2, 8, .inl (fun j => bI (qu j))))]) (lv2 := [(0, .ref h), (1, .int (nI s)), (2, .int (nI j)), (3, .int (nI d)), (4, .int (bI (qu s)))]) (st2 := [.int (bI (onD (tp s) d))]) (rfl) (rfl) (st_c (vi_c (show nI 1 = bI (onD (tp s) d) from by simp [onD, bI_true, bI_false, c14])) (rfl)) ?_
    exact J22_1
theorem cs_X2_topicsOnDeed : CS yX2_topicsOnDeed wsX2_topicsOnDeed cX2_topicsOnDeed 3 (some .int) 2 := ⟨⟨_, rfl⟩, by decide +kernel, by decide +kernel, by decide +kernel⟩
set_option maxHeartbeats 4000000 in
set_option maxRecDepth 100000 in
theorem ct_X2_topicsOnDeed (Z : Nat → ClassId) (h : Nat) (ka : Nat) (aa : Nat) (ma : Nat) (ta : Nat) (qa : Nat) (kd : Nat → Nat) (ag : Nat → Nat) (ml : Nat → Nat) (tp : Nat → Nat) (qu : Nat → Bool) (n : Nat) (k : Nat) (deed : Nat) (hint : Nat) (s : Nat) (d : Nat) (hk : k ≤ 8) (htp : ∀ j, tp j < 64) (hs : s < k): Ct false yX2_topicsOnDeed wsX2_topicsOnDeed ({ frames := 2, cells := 0, slots := 0, locals := 42 }) [.ref h, .int (nI s), .int (nI d)] Z [(h, .inr (2, [.ref ka, .ref aa, .ref ma, .ref ta, .ref qa, .int (nI n), .int (nI k), .int (nI deed), .int (nI hint)])), (ka, .inl (Z 0, 6, .inl (fun j => nI (kd j)))), (aa, .inl (Z 0, 6, .inl (fun j => nI (ag j)))), (ma, .inl (Z 0, 6, .inl (fun j => nI (ml j)))), (ta, .inl (Z 0, 8, .inl (fun j => nI (tp j)))), (qa, .inl (Z 2, 8, .inl (fun j => bI (qu j))))] (rI (nI (pc6 (tp s &&& d))) [(h, .inr (2, [.ref ka, .ref aa, .ref ma, .ref ta, .ref qa, .int (nI n), .int (nI k), .int (nI deed), .int (nI hint)])), (ka, .inl (Z 0, 6, .inl (fun j => nI (kd j)))), (aa, .inl (Z 0, 6, .inl (fun j => nI (ag j)))), (ma, .inl (Z 0, 6, .inl (fun j => nI (ml j)))), (ta, .inl (Z 0, 8, .inl (fun j => nI (tp j)))), (qa, .inl (Z 2, 8, .inl (fun j => bI (qu j))))]) 0 0 := by
  refine Ct_of (cc := cX2_topicsOnDeed) (maxL := 3) (ret := (some .int)) (own := RX2) false false (by decide +kernel) rfl rfl (by decide) (fun v w h => by rw [h.1]; exact ⟨_, rfl, rfl⟩) (Nat.le_of_ble_eq_true rfl) (fun X => ?_)
  show GG X _ _ _ _ _ _ _ _ _ _ _ _ _ _ [(0, .ref h), (1, .int (nI s)), (2, .int (nI d))] _ _
  refine G_aload_n (q := 1) dX2_topicsOnDeed_0 rfl 0 rfl rfl ?_
  refine G_iload_n (q := 2) dX2_topicsOnDeed_1 rfl 1 rfl rfl ?_
  refine G_callVP (As := [.int (nI s)]) (rest := []) (st2 := [.int (nI (tp s))]) (q := 5) dX2_topicsOnDeed_2 [0, 1, 2, 3, 4, 5] (ct_X2_topics Z h ka aa ma ta qa kd ag ml tp qu n k deed hint s (by omega) (by omega)) (fun h => h) cs_X2_topics gX2_topicsOnDeed_X2_topics rfl ⟨Nat.le_of_ble_eq_true rfl, Nat.le_of_ble_eq_true rfl⟩ ⟨rfl, rfl⟩ 0 rfl (show vwCl[2]? = some (RX2, TX2, 9) from rfl) rfl (by decide) rfl rfl (Nat.le_of_ble_eq_true rfl) ⟨by decide, by decide⟩ rfl rfl ?_
  refine G_iload_n (q := 6) dX2_topicsOnDeed_5 rfl 2 rfl rfl ?_
  refine G_iandN (a := (tp s)) (b := d) (q := 7) dX2_topicsOnDeed_6 rfl ?_
  refine G_callSP (As := [.int (nI ((tp s) &&& d))]) (rest := []) (st2 := [.int (nI (pc6 ((tp s) &&& d)))]) (q := 10) dX2_topicsOnDeed_7 [] (ct_J6_bitCount_0f7a4_n Z ((tp s) &&& d) (Nat.lt_of_le_of_lt Nat.and_le_left (htp s))) (fun h => h) cs_J6_bitCount_0f7a4 gX2_topicsOnDeed_J6_bitCount_0f7a4 ⟨Nat.le_of_ble_eq_true rfl, Nat.le_of_ble_eq_true rfl⟩ ⟨rfl, rfl⟩ rfl (by decide) rfl rfl (Nat.le_of_ble_eq_true rfl) ⟨by decide, by decide⟩ rfl rfl ?_
  refine GG.of (ws2 := [(h, .inr (2, [.ref ka, .ref aa, .ref ma, .ref ta, .ref qa, .int (nI n), .int (nI k), .int (nI deed), .int (nI hint)])), (ka, .inl (Z 0, 6, .inl (fun j => nI (kd j)))), (aa, .inl (Z 0, 6, .inl (fun j => nI (ag j)))), (ma, .inl (Z 0, 6, .inl (fun j => nI (ml j)))), (ta, .inl (Z 0, 8, .inl (fun j => nI (tp j)))), (qa, .inl (Z 2, 8, .inl (fun j => bI (qu j))))]) (lv2 := [(0, .ref h), (1, .int (nI s)), (2, .int (nI d))]) (st2 := [.int (nI (pc6 (tp s &&& d)))]) (rfl) (rfl) (st_c (vi_c (show nI (pc6 ((tp s) &&& d)) = nI (pc6 (tp s &&& d)) from rfl)) (rfl)) ?_
  exact G_iret dX2_topicsOnDeed_10 rfl rfl ⟨rfl, rfl⟩
theorem cs_X2_quietSayings : CS yX2_quietSayings wsX2_quietSayings cX2_quietSayings 6 (some .int) 1 := ⟨⟨_, rfl⟩, by decide +kernel, by decide +kernel, by decide +kernel⟩
theorem fl_X2_quietSayings_28 : Cond.fieldLink RX2 28 (TX2 5).1 (TX2 5).2.1 (TX2 5).2.2.1 ∈ wsX2_quietSayings := by decide +kernel
theorem fl_X2_quietSayings_32 : Cond.fieldLink RX2 32 (TX2 6).1 (TX2 6).2.1 (TX2 6).2.2.1 ∈ wsX2_quietSayings := by decide +kernel
theorem in_X2_quietSayings_X2 : ∀ w ∈ u_ws RX2 TX2 9, w ∈ wsX2_quietSayings := by decide +kernel
set_option maxHeartbeats 4000000 in
set_option maxRecDepth 100000 in
theorem ct_X2_quietSayings (Z : Nat → ClassId) (h : Nat) (ka : Nat) (aa : Nat) (ma : Nat) (ta : Nat) (qa : Nat) (kd : Nat → Nat) (ag : Nat → Nat) (ml : Nat → Nat) (tp : Nat → Nat) (qu : Nat → Bool) (n : Nat) (k : Nat) (deed : Nat) (hint : Nat) (d : Nat) (hn : n ≤ 6) (hk : k ≤ 8) (hkd : ∀ j, kd j ≤ 4) (htp : ∀ j, tp j < 64) (hh : hint < 64): Ct false yX2_quietSayings wsX2_quietSayings ({ frames := 3, cells := 0, slots := 0, locals := 67 }) [.ref h, .int (nI d)] Z [(h, .inr (2, [.ref ka, .ref aa, .ref ma, .ref ta, .ref qa, .int (nI n), .int (nI k), .int (nI deed), .int (nI hint)])), (ka, .inl (Z 0, 6, .inl (fun j => nI (kd j)))), (aa, .inl (Z 0, 6, .inl (fun j => nI (ag j)))), (ma, .inl (Z 0, 6, .inl (fun j => nI (ml j)))), (ta, .inl (Z 0, 8, .inl (fun j => nI (tp j)))), (qa, .inl (Z 2, 8, .inl (fun j => bI (qu j))))] (rI (nI (qset (fun s => anyTo (fun j => (askB (kd j) (tp s) (qu s) d hint)) n) k)) [(h, .inr (2, [.ref ka, .ref aa, .ref ma, .ref ta, .ref qa, .int (nI n), .int (nI k), .int (nI deed), .int (nI hint)])), (ka, .inl (Z 0, 6, .inl (fun j => nI (kd j)))), (aa, .inl (Z 0, 6, .inl (fun j => nI (ag j)))), (ma, .inl (Z 0, 6, .inl (fun j => nI (ml j)))), (ta, .inl (Z 0, 8, .inl (fun j => nI (tp j)))), (qa, .inl (Z 2, 8, .inl (fun j => bI (qu j))))]) 0 0 := by
  refine Ct_of (cc := cX2_quietSayings) (maxL := 6) (ret := (some .int)) (own := RX2) false false (by decide +kernel) rfl rfl (by decide) (fun v w h => by rw [h.1]; exact ⟨_, rfl, rfl⟩) (Nat.le_of_ble_eq_true rfl) (fun X => ?_)
  show GG X _ _ _ _ _ _ _ _ _ _ _ _ _ _ [(0, .ref h), (1, .int (nI d))] _ _
  refine G_iconst (v := nI 0) (q := 1) dX2_quietSayings_0 (by decide) rfl ?_
  refine G_istore_n (lv2 := [(0, .ref h), (1, .int (nI d)), (2, .int (nI 0))]) (q := 2) dX2_quietSayings_1 rfl (by decide) rfl rfl ?_
  refine G_iconst (v := nI 0) (q := 3) dX2_quietSayings_2 (by decide) rfl ?_
  refine G_istore_n (lv2 := [(0, .ref h), (1, .int (nI d)), (2, .int (nI 0)), (3, .int (nI 0))]) (q := 4) dX2_quietSayings_3 rfl (by decide) rfl rfl ?_
  have L4_1 : ∀ fu1 s : Nat, s ≤ k → k + 1 ≤ s + fu1 → GG X ({ frames := 3, cells := 0, slots := 0, locals := 67 }) cX2_quietSayings 6 wsX2_quietSayings RX2 false false Z (rI (nI (qset (fun s => anyTo (fun j => (askB (kd j) (tp s) (qu s) d hint)) n) k)) [(h, .inr (2, [.ref ka, .ref aa, .ref ma, .ref ta, .ref qa, .int (nI n), .int (nI k), .int (nI deed), .int (nI hint)])), (ka, .inl (Z 0, 6, .inl (fun j => nI (kd j)))), (aa, .inl (Z 0, 6, .inl (fun j => nI (ag j)))), (ma, .inl (Z 0, 6, .inl (fun j => nI (ml j)))), (ta, .inl (Z 0, 8, .inl (fun j => nI (tp j)))), (qa, .inl (Z 2, 8, .inl (fun j => bI (qu j))))]) 0 0 0 0 [(h, .inr (2, [.ref ka, .ref aa, .ref ma, .ref ta, .ref qa, .int (nI n), .int (nI k), .int (nI deed), .int (nI hint)])), (ka, .inl (Z 0, 6, .inl (fun j => nI (kd j)))), (aa, .inl (Z 0, 6, .inl (fun j => nI (ag j)))), (ma, .inl (Z 0, 6, .inl (fun j => nI (ml j)))), (ta, .inl (Z 0, 8, .inl (fun j => nI (tp j)))), (qa, .inl (Z 2, 8, .inl (fun j => bI (qu j))))] [(0, .ref h), (1, .int (nI d)), (2, .int (nI (qset (fun s => anyTo (fun j => (askB (kd j) (tp s) (qu s) d hint)) n) s))), (3, .int (nI s))] [] 4 := by
    intro fu1
    induction fu1 with
    | zero => intro s q1 q2; exact absurd q2 (by omega)
    | succ fu1 ih1 =>
      intro s hi1 hf1 
      refine G_iload_n (q := 5) dX2_quietSayings_4 rfl 3 rfl rfl ?_
      refine G_aload_n (q := 6) dX2_quietSayings_5 rfl 0 rfl rfl ?_
      refine G_get (q := 9) dX2_quietSayings_6 0 rfl (show vwCl[2]? = some (RX2, TX2, 9) from rfl) 6 (by decide) in_X2_quietSayings_X2 fl_X2_quietSayings_32 rfl rfl ?_
      refine G_icmp_geN (tgt := 65) (q := 12) dX2_quietSayings_9 (by decide) rfl (by omega) (by omega) (fun c9 => ?_) (fun c9 => ?_)
      · have e9 : k = s := by omega
        subst e9
        refine G_iload_n (q := 66) dX2_quietSayings_65 rfl 2 rfl rfl ?_
        refine GG.of (ws2 := [(h, .inr (2, [.ref ka, .ref aa, .ref ma, .ref ta, .ref qa, .int (nI n), .int (nI k), .int (nI deed), .int (nI hint)])), (ka, .inl (Z 0, 6, .inl (fun j => nI (kd j)))), (aa, .inl (Z 0, 6, .inl (fun j => nI (ag j)))), (ma, .inl (Z 0, 6, .inl (fun j => nI (ml j)))), (ta, .inl (Z 0, 8, .inl (fun j => nI (tp j)))), (qa, .inl (Z 2, 8, .inl (fun j => bI (qu j))))]) (lv2 := [(0, .ref h), (1, .int (nI d)), (2, .int (nI (qset (fun k => anyTo (fun j => (askB (kd j) (tp k) (qu k) d hint)) n) k))), (3, .int (nI k))]) (st2 := [.int (nI (qset (fun s => anyTo (fun j => (askB (kd j) (tp s) (qu s) d hint)) n) k))]) (rfl) (rfl) (st_c (vi_c (show nI (qset (fun k => anyTo (fun j => (askB (kd j) (tp k) (qu k) d hint)) n) k) = nI (qset (fun s => anyTo (fun j => (askB (kd j) (tp s) (qu s) d hint)) n) k) from rfl)) (rfl)) ?_
        exact G_iret dX2_quietSayings_66 rfl rfl ⟨rfl, rfl⟩
      · have J48_2 : GG X ({ frames := 3, cells := 0, slots := 0, locals := 67 }) cX2_quietSayings 6 wsX2_quietSayings RX2 false false Z (rI (nI (qset (fun s => anyTo (fun j => (askB (kd j) (tp s) (qu s) d hint)) n) k)) [(h, .inr (2, [.ref ka, .ref aa, .ref ma, .ref ta, .ref qa, .int (nI n), .int (nI k), .int (nI deed), .int (nI hint)])), (ka, .inl (Z 0, 6, .inl (fun j => nI (kd j)))), (aa, .inl (Z 0, 6, .inl (fun j => nI (ag j)))), (ma, .inl (Z 0, 6, .inl (fun j => nI (ml j)))), (ta, .inl (Z 0, 8, .inl (fun j => nI (tp j)))), (qa, .inl (Z 2, 8, .inl (fun j => bI (qu j))))]) 0 0 0 0 [(h, .inr (2, [.ref ka, .ref aa, .ref ma, .ref ta, .ref qa, .int (nI n), .int (nI k), .int (nI deed), .int (nI hint)])), (ka, .inl (Z 0, 6, .inl (fun j => nI (kd j)))), (aa, .inl (Z 0, 6, .inl (fun j => nI (ag j)))), (ma, .inl (Z 0, 6, .inl (fun j => nI (ml j)))), (ta, .inl (Z 0, 8, .inl (fun j => nI (tp j)))), (qa, .inl (Z 2, 8, .inl (fun j => bI (qu j))))] [(0, .ref h), (1, .int (nI d)), (2, .int (nI (qset (fun s => anyTo (fun j => (askB (kd j) (tp s) (qu s) d hint)) n) s))), (3, .int (nI s)), (4, .int (bI (anyTo (fun j => (askB (kd j) (tp s) (qu s) d hint)) n)))] [] 48 := by
          refine G_iload (q := 50) dX2_quietSayings_48 4 rfl rfl ?_
          refine G_if_neB (tgt := 59) (q := 53) dX2_quietSayings_50 (by decide) rfl (fun c50 => ?_) (fun c50 => ?_)
          · refine G_iincN (x := s) (d := 1) (lv2 := [(0, .ref h), (1, .int (nI d)), (2, .int (nI (qset (fun s => anyTo (fun j => (askB (kd j) (tp s) (qu s) d hint)) n) s))), (3, .int (nI (s + 1))), (4, .int (bI (anyTo (fun j => (askB (kd j) (tp s) (qu s) d hint)) n)))]) (q := 62) dX2_quietSayings_59 3 rfl (by decide) (by decide) rfl rfl ?_
            refine G_goto (q := 4) dX2_quietSayings_62 (by decide) ?_
            refine GG.pick (lv2 := [(0, .ref h), (1, .int (nI d)), (2, .int (nI (qset (fun s => anyTo (fun j => (askB (kd j) (tp s) (qu s) d hint)) n) s))), (3, .int (nI (s + 1)))]) [0, 1, 2, 3] rfl ?_
            refine GG.of (ws2 := [(h, .inr (2, [.ref ka, .ref aa, .ref ma, .ref ta, .ref qa, .int (nI n), .int (nI k), .int (nI deed), .int (nI hint)])), (ka, .inl (Z 0, 6, .inl (fun j => nI (kd j)))), (aa, .inl (Z 0, 6, .inl (fun j => nI (ag j)))), (ma, .inl (Z 0, 6, .inl (fun j => nI (ml j)))), (ta, .inl (Z 0, 8, .inl (fun j => nI (tp j)))), (qa, .inl (Z 2, 8, .inl (fun j => bI (qu j))))]) (lv2 := [(0, .ref h), (1, .int (nI d)), (2, .int (nI (qset (fun s => anyTo (fun j => (askB (kd j) (tp s) (qu s) d hint)) n) (s + 1)))), (3, .int (nI (s + 1)))]) (st2 := []) (rfl) (lv_c rfl (lv_c rfl (lv_c (vi_c (show nI (qset (fun s => anyTo (fun j => (askB (kd j) (tp s) (qu s) d hint)) n) s) = nI (qset (fun s => anyTo (fun j => (askB (kd j) (tp s) (qu s) d hint)) n) (s + 1)) from by first | (rw [qset_y (p := (fun s => anyTo (fun j => (askB (kd j) (tp s) (qu s) d hint)) n)) (s := s) c50]) | (rw [qset_n (p := (fun s => anyTo (fun j => (askB (kd j) (tp s) (qu s) d hint)) n)) (s := s) c50]))) (lv_c rfl (rfl))))) (rfl) ?_
            exact ih1 (s + 1) (by omega) (by omega) 
          · refine G_iload_n (q := 54) dX2_quietSayings_53 rfl 2 rfl rfl ?_
            refine G_iconst (v := nI 1) (q := 55) dX2_quietSayings_54 (by decide) rfl ?_
            refine G_iload_n (q := 56) dX2_quietSayings_55 rfl 3 rfl rfl ?_
            refine G_ishlN (a := 1) (b := s) (q := 57) dX2_quietSayings_56 (by omega) (sh_ok (by omega)) rfl ?_
            refine G_iorN (a := (qset (fun s => anyTo (fun j => (askB (kd j) (tp s) (qu s) d hint)) n) s)) (b := (1 <<< s)) (q := 58) dX2_quietSayings_57 rfl ?_
            refine G_istore_n (lv2 := [(0, .ref h), (1, .int (nI d)), (2, .int (nI ((qset (fun s => anyTo (fun j => (askB (kd j) (tp s) (qu s) d hint)) n) s) ||| (1 <<< s)))), (3, .int (nI s)), (4, .int (bI (anyTo (fun j => (askB (kd j) (tp s) (qu s) d hint)) n)))]) (q := 59) dX2_quietSayings_58 rfl (by decide) rfl rfl ?_
            refine G_iincN (x := s) (d := 1) (lv2 := [(0, .ref h), (1, .int (nI d)), (2, .int (nI ((qset (fun s => anyTo (fun j => (askB (kd j) (tp s) (qu s) d hint)) n) s) ||| (1 <<< s)))), (3, .int (nI (s + 1))), (4, .int (bI (anyTo (fun j => (askB (kd j) (tp s) (qu s) d hint)) n)))]) (q := 62) dX2_quietSayings_59 3 rfl (by decide) (by decide) rfl rfl ?_
            refine G_goto (q := 4) dX2_quietSayings_62 (by decide) ?_
            refine GG.pick (lv2 := [(0, .ref h), (1, .int (nI d)), (2, .int (nI ((qset (fun s => anyTo (fun j => (askB (kd j) (tp s) (qu s) d hint)) n) s) ||| (1 <<< s)))), (3, .int (nI (s + 1)))]) [0, 1, 2, 3] rfl ?_
            refine GG.of (ws2 := [(h, .inr (2, [.ref ka, .ref aa, .ref ma, .ref ta, .ref qa, .int (nI n), .int (nI k), .int (nI deed), .int (nI hint)])), (ka, .inl (Z 0, 6, .inl (fun j => nI (kd j)))), (aa, .inl (Z 0, 6, .inl (fun j => nI (ag j)))), (ma, .inl (Z 0, 6, .inl (fun j => nI (ml j)))), (ta, .inl (Z 0, 8, .inl (fun j => nI (tp j)))), (qa, .inl (Z 2, 8, .inl (fun j => bI (qu j))))]) (lv2 := [(0, .ref h), (1, .int (nI d)), (2, .int (nI (qset (fun s => anyTo (fun j => (askB (kd j) (tp s) (qu s) d hint)) n) (s + 1)))), (3, .int (nI (s + 1)))]) (st2 := []) (rfl) (lv_c rfl (lv_c rfl (lv_c (vi_c (show nI ((qset (fun s => anyTo (fun j => (askB (kd j) (tp s) (qu s) d hint)) n) s) ||| (1 <<< s)) = nI (qset (fun s => anyTo (fun j => (askB (kd j) (tp s) (qu s) d hint)) n) (s + 1)) from by first | (rw [qset_y (p := (fun s => anyTo (fun j => (askB (kd j) (tp s) (qu s) d hint)) n)) (s := s) c50]) | (rw [qset_n (p := (fun s => anyTo (fun j => (askB (kd j) (tp s) (qu s) d hint)) n)) (s := s) c50]))) (lv_c rfl (rfl))))) (rfl) ?_
            exact ih1 (s + 1) (by omega) (by omega) 
        refine G_iconst (v := nI 0) (q := 13) dX2_quietSayings_12 (by decide) rfl ?_
        refine G_istore (lv2 := [(0, .ref h), (1, .int (nI d)), (2, .int (nI (qset (fun s => anyTo (fun j => (askB (kd j) (tp s) (qu s) d hint)) n) s))), (3, .int (nI s)), (4, .int (nI 0))]) (q := 15) dX2_quietSayings_13 (by decide) rfl rfl ?_
        refine G_iconst (v := nI 0) (q := 16) dX2_quietSayings_15 (by decide) rfl ?_
        refine G_istore (lv2 := [(0, .ref h), (1, .int (nI d)), (2, .int (nI (qset (fun s => anyTo (fun j => (askB (kd j) (tp s) (qu s) d hint)) n) s))), (3, .int (nI s)), (4, .int (nI 0)), (5, .int (nI 0))]) (q := 18) dX2_quietSayings_16 (by decide) rfl rfl ?_
        have L18_3 : ∀ fu3 j : Nat, j ≤ n → n + 1 ≤ j + fu3 → GG X ({ frames := 3, cells := 0, slots := 0, locals := 67 }) cX2_quietSayings 6 wsX2_quietSayings RX2 false false Z (rI (nI (qset (fun s => anyTo (fun j => (askB (kd j) (tp s) (qu s) d hint)) n) k)) [(h, .inr (2, [.ref ka, .ref aa, .ref ma, .ref ta, .ref qa, .int (nI n), .int (nI k), .int (nI deed), .int (nI hint)])), (ka, .inl (Z 0, 6, .inl (fun j => nI (kd j)))), (aa, .inl (Z 0, 6, .inl (fun j => nI (ag j)))), (ma, .inl (Z 0, 6, .inl (fun j => nI (ml j)))), (ta, .inl (Z 0, 8, .inl (fun j => nI (tp j)))), (qa, .inl (Z 2, 8, .inl (fun j => bI (qu j))))]) 0 0 0 0 [(h, .inr (2, [.ref ka, .ref aa, .ref ma, .ref ta, .ref qa, .int (nI n), .int (nI k), .int (nI deed), .int (nI hint)])), (ka, .inl (Z 0, 6, .inl (fun j => nI (kd j)))), (aa, .inl (Z 0, 6, .inl (fun j => nI (ag j)))), (ma, .inl (Z 0, 6, .inl (fun j => nI (ml j)))), (ta, .inl (Z 0, 8, .inl (fun j => nI (tp j)))), (qa, .inl (Z 2, 8, .inl (fun j => bI (qu j))))] [(0, .ref h), (1, .int (nI d)), (2, .int (nI (qset (fun s => anyTo (fun j => (askB (kd j) (tp s) (qu s) d hint)) n) s))), (3, .int (nI s)), (4, .int (bI (anyTo (fun j => (askB (kd j) (tp s) (qu s) d hint)) j))), (5, .int (nI j))] [] 18 := by
          intro fu3
          induction fu3 with
          | zero => intro j q1 q2; exact absurd q2 (by omega)
          | succ fu3 ih3 =>
            intro j hi3 hf3 
            refine G_iload (q := 20) dX2_quietSayings_18 5 rfl rfl ?_
            refine G_aload_n (q := 21) dX2_quietSayings_20 rfl 0 rfl rfl ?_
            refine G_get (q := 24) dX2_quietSayings_21 0 rfl (show vwCl[2]? = some (RX2, TX2, 9) from rfl) 5 (by decide) in_X2_quietSayings_X2 fl_X2_quietSayings_28 rfl rfl ?_
            refine G_icmp_geN (tgt := 48) (q := 27) dX2_quietSayings_24 (by decide) rfl (by omega) (by omega) (fun c24 => ?_) (fun c24 => ?_)
            · have e8 : n = j := by omega
              subst e8
              refine GG.pick (lv2 := [(0, .ref h), (1, .int (nI d)), (2, .int (nI (qset (fun s => anyTo (fun n => (askB (kd n) (tp s) (qu s) d hint)) n) s))), (3, .int (nI s)), (4, .int (bI (anyTo (fun n => (askB (kd n) (tp s) (qu s) d hint)) n)))]) [0, 1, 2, 3, 4] rfl ?_
              refine GG.of (ws2 := [(h, .inr (2, [.ref ka, .ref aa, .ref ma, .ref ta, .ref qa, .int (nI n), .int (nI k), .int (nI deed), .int (nI hint)])), (ka, .inl (Z 0, 6, .inl (fun j => nI (kd j)))), (aa, .inl (Z 0, 6, .inl (fun j => nI (ag j)))), (ma, .inl (Z 0, 6, .inl (fun j => nI (ml j)))), (ta, .inl (Z 0, 8, .inl (fun j => nI (tp j)))), (qa, .inl (Z 2, 8, .inl (fun j => bI (qu j))))]) (lv2 := [(0, .ref h), (1, .int (nI d)), (2, .int (nI (qset (fun s => anyTo (fun j => (askB (kd j) (tp s) (qu s) d hint)) n) s))), (3, .int (nI s)), (4, .int (bI (anyTo (fun j => (askB (kd j) (tp s) (qu s) d hint)) n)))]) (st2 := []) (rfl) (lv_c rfl (lv_c rfl (lv_c (vi_c (show nI (qset (fun s => anyTo (fun n => (askB (kd n) (tp s) (qu s) d hint)) n) s) = nI (qset (fun s => anyTo (fun j => (askB (kd j) (tp s) (qu s) d hint)) n) s) from rfl)) (lv_c rfl (lv_c (vi_c (show bI (anyTo (fun n => (askB (kd n) (tp s) (qu s) d hint)) n) = bI (anyTo (fun j => (askB (kd j) (tp s) (qu s) d hint)) n) from by first | rfl | rw [c29, e7])) (rfl)))))) (rfl) ?_
              exact J48_2
            · refine G_iload (q := 29) dX2_quietSayings_27 4 rfl rfl ?_
              refine G_if_neB (tgt := 48) (q := 32) dX2_quietSayings_29 (by decide) rfl (fun c29 => ?_) (fun c29 => ?_)
              · have e7 := anyTo_le c29 (Nat.le_of_lt c24)
                refine GG.pick (lv2 := [(0, .ref h), (1, .int (nI d)), (2, .int (nI (qset (fun s => anyTo (fun j => (askB (kd j) (tp s) (qu s) d hint)) n) s))), (3, .int (nI s)), (4, .int (bI (anyTo (fun j => (askB (kd j) (tp s) (qu s) d hint)) j)))]) [0, 1, 2, 3, 4] rfl ?_
                refine GG.of (ws2 := [(h, .inr (2, [.ref ka, .ref aa, .ref ma, .ref ta, .ref qa, .int (nI n), .int (nI k), .int (nI deed), .int (nI hint)])), (ka, .inl (Z 0, 6, .inl (fun j => nI (kd j)))), (aa, .inl (Z 0, 6, .inl (fun j => nI (ag j)))), (ma, .inl (Z 0, 6, .inl (fun j => nI (ml j)))), (ta, .inl (Z 0, 8, .inl (fun j => nI (tp j)))), (qa, .inl (Z 2, 8, .inl (fun j => bI (qu j))))]) (lv2 := [(0, .ref h), (1, .int (nI d)), (2, .int (nI (qset (fun s => anyTo (fun j => (askB (kd j) (tp s) (qu s) d hint)) n) s))), (3, .int (nI s)), (4, .int (bI (anyTo (fun j => (askB (kd j) (tp s) (qu s) d hint)) n)))]) (st2 := []) (rfl) (lv_c rfl (lv_c rfl (lv_c rfl (lv_c rfl (lv_c (vi_c (show bI (anyTo (fun j => (askB (kd j) (tp s) (qu s) d hint)) j) = bI (anyTo (fun j => (askB (kd j) (tp s) (qu s) d hint)) n) from by first | rfl | rw [c29, e7])) (rfl)))))) (rfl) ?_
                exact J48_2
              · refine G_aload_n (q := 33) dX2_quietSayings_32 rfl 0 rfl rfl ?_
                refine G_iload_n (q := 34) dX2_quietSayings_33 rfl 3 rfl rfl ?_
                refine G_iload (q := 36) dX2_quietSayings_34 5 rfl rfl ?_
                refine G_iload_n (q := 37) dX2_quietSayings_36 rfl 1 rfl rfl ?_
                refine G_callVP (As := [.int (nI s), .int (nI j), .int (nI d)]) (rest := []) (st2 := [.int (bI (askB (kd j) (tp s) (qu s) d hint))]) (q := 40) dX2_quietSayings_37 [0, 1, 2, 3, 4, 5] (ct_X2_isAsking Z h ka aa ma ta qa kd ag ml tp qu n k deed hint s j d (by omega) (by omega) (by omega) (by omega) (by omega) (by omega) (by omega)) (fun h => h) cs_X2_isAsking gX2_quietSayings_X2_isAsking rfl ⟨Nat.le_of_ble_eq_true rfl, Nat.le_of_ble_eq_true rfl⟩ ⟨rfl, rfl⟩ 0 rfl (show vwCl[2]? = some (RX2, TX2, 9) from rfl) rfl (by decide) rfl rfl (Nat.le_of_ble_eq_true rfl) ⟨by decide, by decide⟩ rfl rfl ?_
                refine G_istore (lv2 := [(0, .ref h), (1, .int (nI d)), (2, .int (nI (qset (fun s => anyTo (fun j => (askB (kd j) (tp s) (qu s) d hint)) n) s))), (3, .int (nI s)), (4, .int (bI (askB (kd j) (tp s) (qu s) d hint))), (5, .int (nI j))]) (q := 42) dX2_quietSayings_40 (by decide) rfl rfl ?_
                refine G_iincN (x := j) (d := 1) (lv2 := [(0, .ref h), (1, .int (nI d)), (2, .int (nI (qset (fun s => anyTo (fun j => (askB (kd j) (tp s) (qu s) d hint)) n) s))), (3, .int (nI s)), (4, .int (bI (askB (kd j) (tp s) (qu s) d hint))), (5, .int (nI (j + 1)))]) (q := 45) dX2_quietSayings_42 5 rfl (by decide) (by decide) rfl rfl ?_
                refine G_goto (q := 18) dX2_quietSayings_45 (by decide) ?_
                refine GG.of (ws2 := [(h, .inr (2, [.ref ka, .ref aa, .ref ma, .ref ta, .ref qa, .int (nI n), .int (nI k), .int (nI deed), .int (nI hint)])), (ka, .inl (Z 0, 6, .inl (fun j => nI (kd j)))), (aa, .inl (Z 0, 6, .inl (fun j => nI (ag j)))), (ma, .inl (Z 0, 6, .inl (fun j => nI (ml j)))), (ta, .inl (Z 0, 8, .inl (fun j => nI (tp j)))), (qa, .inl (Z 2, 8, .inl (fun j => bI (qu j))))]) (lv2 := [(0, .ref h), (1, .int (nI d)), (2, .int (nI (qset (fun s => anyTo (fun j => (askB (kd j) (tp s) (qu s) d hint)) n) s))), (3, .int (nI s)), (4, .int (bI (anyTo (fun j => (askB (kd j) (tp s) (qu s) d hint)) (j + 1)))), (5, .int (nI (j + 1)))]) (st2 := []) (rfl) (lv_c rfl (lv_c rfl (lv_c rfl (lv_c rfl (lv_c (vi_c (show bI (askB (kd j) (tp s) (qu s) d hint) = bI (anyTo (fun j => (askB (kd j) (tp s) (qu s) d hint)) (j + 1)) from by rw [anyTo_s c29])) (lv_c rfl (rfl))))))) (rfl) ?_
                exact ih3 (j + 1) (by omega) (by omega) 
        refine GG.of (ws2 := [(h, .inr (2, [.ref ka, .ref aa, .ref ma, .ref ta, .ref qa, .int (nI n), .int (nI k), .int (nI deed), .int (nI hint)])), (ka, .inl (Z 0, 6, .inl (fun j => nI (kd j)))), (aa, .inl (Z 0, 6, .inl (fun j => nI (ag j)))), (ma, .inl (Z 0, 6, .inl (fun j => nI (ml j)))), (ta, .inl (Z 0, 8, .inl (fun j => nI (tp j)))), (qa, .inl (Z 2, 8, .inl (fun j => bI (qu j))))]) (lv2 := [(0, .ref h), (1, .int (nI d)), (2, .int (nI (qset (fun s => anyTo (fun j => (askB (kd j) (tp s) (qu s) d hint)) n) s))), (3, .int (nI s)), (4, .int (bI (anyTo (fun j => (askB (kd j) (tp s) (qu s) d hint)) 0))), (5, .int (nI 0))]) (st2 := []) (rfl) (lv_c rfl (lv_c rfl (lv_c rfl (lv_c rfl (lv_c (vi_c (show nI 0 = bI (anyTo (fun j => (askB (kd j) (tp s) (qu s) d hint)) 0) from rfl)) (lv_c rfl (rfl))))))) (rfl) ?_
        exact L18_3 (n + 1) (0) (Nat.zero_le _) (by omega) 
  refine GG.of (ws2 := [(h, .inr (2, [.ref ka, .ref aa, .ref ma, .ref ta, .ref qa, .int (nI n), .int (nI k), .int (nI deed), .int (nI hint)])), (ka, .inl (Z 0, 6, .inl (fun j => nI (kd j)))), (aa, .inl (Z 0, 6, .inl (fun j => nI (ag j)))), (ma, .inl (Z 0, 6, .inl (fun j => nI (ml j)))), (ta, .inl (Z 0, 8, .inl (fun j => nI (tp j)))), (qa, .inl (Z 2, 8, .inl (fun j => bI (qu j))))]) (lv2 := [(0, .ref h), (1, .int (nI d)), (2, .int (nI (qset (fun s => anyTo (fun j => (askB (kd j) (tp s) (qu s) d hint)) n) 0))), (3, .int (nI 0))]) (st2 := []) (rfl) (lv_c rfl (lv_c rfl (lv_c (vi_c (show nI 0 = nI (qset (fun s => anyTo (fun j => (askB (kd j) (tp s) (qu s) d hint)) n) 0) from rfl)) (lv_c rfl (rfl))))) (rfl) ?_
  exact L4_1 (k + 1) (0) (Nat.zero_le _) (by omega) 
theorem cs_X2_cloakOf : CS yX2_cloakOf wsX2_cloakOf cX2_cloakOf 5 (some .int) 2 := ⟨⟨_, rfl⟩, by decide +kernel, by decide +kernel, by decide +kernel⟩
theorem fl_X2_cloakOf_32 : Cond.fieldLink RX2 32 (TX2 6).1 (TX2 6).2.1 (TX2 6).2.2.1 ∈ wsX2_cloakOf := by decide +kernel
theorem in_X2_cloakOf_X2 : ∀ w ∈ u_ws RX2 TX2 9, w ∈ wsX2_cloakOf := by decide +kernel
set_option maxHeartbeats 4000000 in
set_option maxRecDepth 100000 in
theorem ct_X2_cloakOf (Z : Nat → ClassId) (h : Nat) (ka : Nat) (aa : Nat) (ma : Nat) (ta : Nat) (qa : Nat) (kd : Nat → Nat) (ag : Nat → Nat) (ml : Nat → Nat) (tp : Nat → Nat) (qu : Nat → Bool) (n : Nat) (k : Nat) (deed : Nat) (hint : Nat) (j : Nat) (d : Nat) (hn : n ≤ 6) (hk : k ≤ 8) (hkd : ∀ j, kd j ≤ 4) (htp : ∀ j, tp j < 64) (hh : hint < 64) (hj : j < n): Ct false yX2_cloakOf wsX2_cloakOf ({ frames := 3, cells := 0, slots := 0, locals := 67 }) [.ref h, .int (nI j), .int (nI d)] Z [(h, .inr (2, [.ref ka, .ref aa, .ref ma, .ref ta, .ref qa, .int (nI n), .int (nI k), .int (nI deed), .int (nI hint)])), (ka, .inl (Z 0, 6, .inl (fun j => nI (kd j)))), (aa, .inl (Z 0, 6, .inl (fun j => nI (ag j)))), (ma, .inl (Z 0, 6, .inl (fun j => nI (ml j)))), (ta, .inl (Z 0, 8, .inl (fun j => nI (tp j)))), (qa, .inl (Z 2, 8, .inl (fun j => bI (qu j))))] (rI (oI (ck (fun s => (askB (kd j) (tp s) (qu s) d hint)) (fun s => pc6 (tp s &&& d)) k)) [(h, .inr (2, [.ref ka, .ref aa, .ref ma, .ref ta, .ref qa, .int (nI n), .int (nI k), .int (nI deed), .int (nI hint)])), (ka, .inl (Z 0, 6, .inl (fun j => nI (kd j)))), (aa, .inl (Z 0, 6, .inl (fun j => nI (ag j)))), (ma, .inl (Z 0, 6, .inl (fun j => nI (ml j)))), (ta, .inl (Z 0, 8, .inl (fun j => nI (tp j)))), (qa, .inl (Z 2, 8, .inl (fun j => bI (qu j))))]) 0 0 := by
  refine Ct_of (cc := cX2_cloakOf) (maxL := 5) (ret := (some .int)) (own := RX2) false false (by decide +kernel) rfl rfl (by decide) (fun v w h => by rw [h.1]; exact ⟨_, rfl, rfl⟩) (Nat.le_of_ble_eq_true rfl) (fun X => ?_)
  show GG X _ _ _ _ _ _ _ _ _ _ _ _ _ _ [(0, .ref h), (1, .int (nI j)), (2, .int (nI d))] _ _
  refine G_bipush (v := -4) (q := 2) dX2_cloakOf_0 (by decide) rfl ?_
  refine G_istore_n (lv2 := [(0, .ref h), (1, .int (nI j)), (2, .int (nI d)), (3, .int (-4))]) (q := 3) dX2_cloakOf_2 rfl (by decide) rfl rfl ?_
  refine G_iconst (v := nI 0) (q := 4) dX2_cloakOf_3 (by decide) rfl ?_
  refine G_istore (lv2 := [(0, .ref h), (1, .int (nI j)), (2, .int (nI d)), (3, .int (-4)), (4, .int (nI 0))]) (q := 6) dX2_cloakOf_4 (by decide) rfl rfl ?_
  have L6_1 : ∀ fu1 s : Nat, s ≤ k → k + 1 ≤ s + fu1 → GG X ({ frames := 3, cells := 0, slots := 0, locals := 67 }) cX2_cloakOf 5 wsX2_cloakOf RX2 false false Z (rI (oI (ck (fun s => (askB (kd j) (tp s) (qu s) d hint)) (fun s => pc6 (tp s &&& d)) k)) [(h, .inr (2, [.ref ka, .ref aa, .ref ma, .ref ta, .ref qa, .int (nI n), .int (nI k), .int (nI deed), .int (nI hint)])), (ka, .inl (Z 0, 6, .inl (fun j => nI (kd j)))), (aa, .inl (Z 0, 6, .inl (fun j => nI (ag j)))), (ma, .inl (Z 0, 6, .inl (fun j => nI (ml j)))), (ta, .inl (Z 0, 8, .inl (fun j => nI (tp j)))), (qa, .inl (Z 2, 8, .inl (fun j => bI (qu j))))]) 0 0 0 0 [(h, .inr (2, [.ref ka, .ref aa, .ref ma, .ref ta, .ref qa, .int (nI n), .int (nI k), .int (nI deed), .int (nI hint)])), (ka, .inl (Z 0, 6, .inl (fun j => nI (kd j)))), (aa, .inl (Z 0, 6, .inl (fun j => nI (ag j)))), (ma, .inl (Z 0, 6, .inl (fun j => nI (ml j)))), (ta, .inl (Z 0, 8, .inl (fun j => nI (tp j)))), (qa, .inl (Z 2, 8, .inl (fun j => bI (qu j))))] [(0, .ref h), (1, .int (nI j)), (2, .int (nI d)), (3, .int (oI (ck (fun s => (askB (kd j) (tp s) (qu s) d hint)) (fun s => pc6 (tp s &&& d)) s))), (4, .int (nI s))] [] 6 := by
    intro fu1
    induction fu1 with
    | zero => intro s q1 q2; exact absurd q2 (by omega)
    | succ fu1 ih1 =>
      intro s hi1 hf1 
      refine G_iload (q := 8) dX2_cloakOf_6 4 rfl rfl ?_
      refine G_aload_n (q := 9) dX2_cloakOf_8 rfl 0 rfl rfl ?_
      refine G_get (q := 12) dX2_cloakOf_9 0 rfl (show vwCl[2]? = some (RX2, TX2, 9) from rfl) 6 (by decide) in_X2_cloakOf_X2 fl_X2_cloakOf_32 rfl rfl ?_
      refine G_icmp_geN (tgt := 57) (q := 15) dX2_cloakOf_12 (by decide) rfl (by omega) (by omega) (fun c12 => ?_) (fun c12 => ?_)
      · have e9 : k = s := by omega
        subst e9
        refine G_iload_n (q := 58) dX2_cloakOf_57 rfl 3 rfl rfl ?_
        refine GG.of (ws2 := [(h, .inr (2, [.ref ka, .ref aa, .ref ma, .ref ta, .ref qa, .int (nI n), .int (nI k), .int (nI deed), .int (nI hint)])), (ka, .inl (Z 0, 6, .inl (fun j => nI (kd j)))), (aa, .inl (Z 0, 6, .inl (fun j => nI (ag j)))), (ma, .inl (Z 0, 6, .inl (fun j => nI (ml j)))), (ta, .inl (Z 0, 8, .inl (fun j => nI (tp j)))), (qa, .inl (Z 2, 8, .inl (fun j => bI (qu j))))]) (lv2 := [(0, .ref h), (1, .int (nI j)), (2, .int (nI d)), (3, .int (oI (ck (fun k => (askB (kd j) (tp k) (qu k) d hint)) (fun k => pc6 (tp k &&& d)) k))), (4, .int (nI k))]) (st2 := [.int (oI (ck (fun s => (askB (kd j) (tp s) (qu s) d hint)) (fun s => pc6 (tp s &&& d)) k))]) (rfl) (rfl) (st_c (vi_c (show oI (ck (fun k => (askB (kd j) (tp k) (qu k) d hint)) (fun k => pc6 (tp k &&& d)) k) = oI (ck (fun s => (askB (kd j) (tp s) (qu s) d hint)) (fun s => pc6 (tp s &&& d)) k) from rfl)) (rfl)) ?_
        exact G_iret dX2_cloakOf_58 rfl rfl ⟨rfl, rfl⟩
      · refine G_aload_n (q := 16) dX2_cloakOf_15 rfl 0 rfl rfl ?_
        refine G_iload (q := 18) dX2_cloakOf_16 4 rfl rfl ?_
        refine G_iload_n (q := 19) dX2_cloakOf_18 rfl 1 rfl rfl ?_
        refine G_iload_n (q := 20) dX2_cloakOf_19 rfl 2 rfl rfl ?_
        refine G_callVP (As := [.int (nI s), .int (nI j), .int (nI d)]) (rest := []) (st2 := [.int (bI (askB (kd j) (tp s) (qu s) d hint))]) (q := 23) dX2_cloakOf_20 [0, 1, 2, 3, 4, 5] (ct_X2_isAsking Z h ka aa ma ta qa kd ag ml tp qu n k deed hint s j d (by omega) (by omega) (by omega) (by omega) (by omega) (by omega) (by omega)) (fun h => h) cs_X2_isAsking gX2_cloakOf_X2_isAsking rfl ⟨Nat.le_of_ble_eq_true rfl, Nat.le_of_ble_eq_true rfl⟩ ⟨rfl, rfl⟩ 0 rfl (show vwCl[2]? = some (RX2, TX2, 9) from rfl) rfl (by decide) rfl rfl (Nat.le_of_ble_eq_true rfl) ⟨by decide, by decide⟩ rfl rfl ?_
        refine G_if_neB (tgt := 51) (q := 26) dX2_cloakOf_23 (by decide) rfl (fun c23 => ?_) (fun c23 => ?_)
        · refine G_iincN (x := s) (d := 1) (lv2 := [(0, .ref h), (1, .int (nI j)), (2, .int (nI d)), (3, .int (oI (ck (fun s => (askB (kd j) (tp s) (qu s) d hint)) (fun s => pc6 (tp s &&& d)) s))), (4, .int (nI (s + 1)))]) (q := 54) dX2_cloakOf_51 4 rfl (by decide) (by decide) rfl rfl ?_
          refine G_goto (q := 6) dX2_cloakOf_54 (by decide) ?_
          refine GG.of (ws2 := [(h, .inr (2, [.ref ka, .ref aa, .ref ma, .ref ta, .ref qa, .int (nI n), .int (nI k), .int (nI deed), .int (nI hint)])), (ka, .inl (Z 0, 6, .inl (fun j => nI (kd j)))), (aa, .inl (Z 0, 6, .inl (fun j => nI (ag j)))), (ma, .inl (Z 0, 6, .inl (fun j => nI (ml j)))), (ta, .inl (Z 0, 8, .inl (fun j => nI (tp j)))), (qa, .inl (Z 2, 8, .inl (fun j => bI (qu j))))]) (lv2 := [(0, .ref h), (1, .int (nI j)), (2, .int (nI d)), (3, .int (oI (ck (fun s => (askB (kd j) (tp s) (qu s) d hint)) (fun s => pc6 (tp s &&& d)) (s + 1)))), (4, .int (nI (s + 1)))]) (st2 := []) (rfl) (lv_c rfl (lv_c rfl (lv_c rfl (lv_c (vi_c (show oI (ck (fun s => (askB (kd j) (tp s) (qu s) d hint)) (fun s => pc6 (tp s &&& d)) s) = oI (ck (fun s => (askB (kd j) (tp s) (qu s) d hint)) (fun s => pc6 (tp s &&& d)) (s + 1)) from by first | rw [ck_1 (p := (fun s => (askB (kd j) (tp s) (qu s) d hint))) (m := (fun s => pc6 (tp s &&& d))) c23] | rw [ck_3 (p := (fun s => (askB (kd j) (tp s) (qu s) d hint))) (m := (fun s => pc6 (tp s &&& d))) c23 ho c45] | (rw [ck_2 (p := (fun s => (askB (kd j) (tp s) (qu s) d hint))) (m := (fun s => pc6 (tp s &&& d))) c23 ho]; rfl) | (rw [ck_4 (p := (fun s => (askB (kd j) (tp s) (qu s) d hint))) (m := (fun s => pc6 (tp s &&& d))) c23 ho c45]; rfl))) (lv_c rfl (rfl)))))) (rfl) ?_
          exact ih1 (s + 1) (by omega) (by omega) 
        · rcases on_cases (ck (fun s => (askB (kd j) (tp s) (qu s) d hint)) (fun s => pc6 (tp s &&& d)) s) with ho | ⟨b, ho⟩
          · have hq9 : oI (ck (fun s => (askB (kd j) (tp s) (qu s) d hint)) (fun s => pc6 (tp s &&& d)) s) = -4 := by rw [ho]; rfl
            refine G_iload_n (q := 27) dX2_cloakOf_26 rfl 3 rfl rfl ?_
            refine G_bipush (v := -4) (q := 29) dX2_cloakOf_27 (by decide) rfl ?_
            refine G_icmp_eqT (tgt := 48) dX2_cloakOf_29 (by decide) (hq9) ?_
            refine G_iload (q := 50) dX2_cloakOf_48 4 rfl rfl ?_
            refine G_istore_n (lv2 := [(0, .ref h), (1, .int (nI j)), (2, .int (nI d)), (3, .int (nI s)), (4, .int (nI s))]) (q := 51) dX2_cloakOf_50 rfl (by decide) rfl rfl ?_
            refine G_iincN (x := s) (d := 1) (lv2 := [(0, .ref h), (1, .int (nI j)), (2, .int (nI d)), (3, .int (nI s)), (4, .int (nI (s + 1)))]) (q := 54) dX2_cloakOf_51 4 rfl (by decide) (by decide) rfl rfl ?_
            refine G_goto (q := 6) dX2_cloakOf_54 (by decide) ?_
            refine GG.of (ws2 := [(h, .inr (2, [.ref ka, .ref aa, .ref ma, .ref ta, .ref qa, .int (nI n), .int (nI k), .int (nI deed), .int (nI hint)])), (ka, .inl (Z 0, 6, .inl (fun j => nI (kd j)))), (aa, .inl (Z 0, 6, .inl (fun j => nI (ag j)))), (ma, .inl (Z 0, 6, .inl (fun j => nI (ml j)))), (ta, .inl (Z 0, 8, .inl (fun j => nI (tp j)))), (qa, .inl (Z 2, 8, .inl (fun j => bI (qu j))))]) (lv2 := [(0, .ref h), (1, .int (nI j)), (2, .int (nI d)), (3, .int (oI (ck (fun s => (askB (kd j) (tp s) (qu s) d hint)) (fun s => pc6 (tp s &&& d)) (s + 1)))), (4, .int (nI (s + 1)))]) (st2 := []) (rfl) (lv_c rfl (lv_c rfl (lv_c rfl (lv_c (vi_c (show nI s = oI (ck (fun s => (askB (kd j) (tp s) (qu s) d hint)) (fun s => pc6 (tp s &&& d)) (s + 1)) from by first | rw [ck_1 (p := (fun s => (askB (kd j) (tp s) (qu s) d hint))) (m := (fun s => pc6 (tp s &&& d))) c23] | rw [ck_3 (p := (fun s => (askB (kd j) (tp s) (qu s) d hint))) (m := (fun s => pc6 (tp s &&& d))) c23 ho c45] | (rw [ck_2 (p := (fun s => (askB (kd j) (tp s) (qu s) d hint))) (m := (fun s => pc6 (tp s &&& d))) c23 ho]; rfl) | (rw [ck_4 (p := (fun s => (askB (kd j) (tp s) (qu s) d hint))) (m := (fun s => pc6 (tp s &&& d))) c23 ho c45]; rfl))) (lv_c rfl (rfl)))))) (rfl) ?_
            exact ih1 (s + 1) (by omega) (by omega) 
          · have hb9 := ck_lt ho
            have hq9 : ¬ oI (ck (fun s => (askB (kd j) (tp s) (qu s) d hint)) (fun s => pc6 (tp s &&& d)) s) = -4 := by rw [ho]; exact oI_ne (by omega)
            refine G_iload_n (q := 27) dX2_cloakOf_26 rfl 3 rfl rfl ?_
            refine G_bipush (v := -4) (q := 29) dX2_cloakOf_27 (by decide) rfl ?_
            refine G_icmp_eqF (tgt := 48) (q := 32) dX2_cloakOf_29 (by decide) rfl (hq9) ?_
            refine G_aload_n (q := 33) dX2_cloakOf_32 rfl 0 rfl rfl ?_
            refine G_iload (q := 35) dX2_cloakOf_33 4 rfl rfl ?_
            refine G_iload_n (q := 36) dX2_cloakOf_35 rfl 2 rfl rfl ?_
            refine G_callVP (As := [.int (nI s), .int (nI d)]) (rest := []) (st2 := [.int (nI (pc6 (tp s &&& d)))]) (q := 39) dX2_cloakOf_36 [0, 1, 2, 3, 4, 5] (ct_X2_topicsOnDeed Z h ka aa ma ta qa kd ag ml tp qu n k deed hint s d (by omega) (by omega) (by omega)) (fun h => h) cs_X2_topicsOnDeed gX2_cloakOf_X2_topicsOnDeed rfl ⟨Nat.le_of_ble_eq_true rfl, Nat.le_of_ble_eq_true rfl⟩ ⟨rfl, rfl⟩ 0 rfl (show vwCl[2]? = some (RX2, TX2, 9) from rfl) rfl (by decide) rfl rfl (Nat.le_of_ble_eq_true rfl) ⟨by decide, by decide⟩ rfl rfl ?_
            refine G_aload_n (q := 40) dX2_cloakOf_39 rfl 0 rfl rfl ?_
            refine G_iload_n (q := 41) dX2_cloakOf_40 rfl 3 rfl rfl ?_
            refine G_top (y := nI b) (by rw [ho]; rfl) ?_
            refine G_iload_n (q := 42) dX2_cloakOf_41 rfl 2 rfl rfl ?_
            refine G_callVP (As := [.int (nI b), .int (nI d)]) (rest := [.int (nI (pc6 (tp s &&& d)))]) (st2 := [.int (nI (pc6 (tp b &&& d))), .int (nI (pc6 (tp s &&& d)))]) (q := 45) dX2_cloakOf_42 [0, 1, 2, 3, 4, 5] (ct_X2_topicsOnDeed Z h ka aa ma ta qa kd ag ml tp qu n k deed hint b d (by omega) (by omega) (by omega)) (fun h => h) cs_X2_topicsOnDeed gX2_cloakOf_X2_topicsOnDeed rfl ⟨Nat.le_of_ble_eq_true rfl, Nat.le_of_ble_eq_true rfl⟩ ⟨rfl, rfl⟩ 0 rfl (show vwCl[2]? = some (RX2, TX2, 9) from rfl) rfl (by decide) rfl rfl (Nat.le_of_ble_eq_true rfl) ⟨by decide, by decide⟩ rfl rfl ?_
            refine G_icmp_leN (tgt := 51) (q := 48) dX2_cloakOf_45 (by decide) rfl (by have := pc6_le (tp s &&& d); omega) (by have := pc6_le (tp b &&& d); omega) (fun c45 => ?_) (fun c45 => ?_)
            · refine G_iincN (x := s) (d := 1) (lv2 := [(0, .ref h), (1, .int (nI j)), (2, .int (nI d)), (3, .int (oI (ck (fun s => (askB (kd j) (tp s) (qu s) d hint)) (fun s => pc6 (tp s &&& d)) s))), (4, .int (nI (s + 1)))]) (q := 54) dX2_cloakOf_51 4 rfl (by decide) (by decide) rfl rfl ?_
              refine G_goto (q := 6) dX2_cloakOf_54 (by decide) ?_
              refine GG.of (ws2 := [(h, .inr (2, [.ref ka, .ref aa, .ref ma, .ref ta, .ref qa, .int (nI n), .int (nI k), .int (nI deed), .int (nI hint)])), (ka, .inl (Z 0, 6, .inl (fun j => nI (kd j)))), (aa, .inl (Z 0, 6, .inl (fun j => nI (ag j)))), (ma, .inl (Z 0, 6, .inl (fun j => nI (ml j)))), (ta, .inl (Z 0, 8, .inl (fun j => nI (tp j)))), (qa, .inl (Z 2, 8, .inl (fun j => bI (qu j))))]) (lv2 := [(0, .ref h), (1, .int (nI j)), (2, .int (nI d)), (3, .int (oI (ck (fun s => (askB (kd j) (tp s) (qu s) d hint)) (fun s => pc6 (tp s &&& d)) (s + 1)))), (4, .int (nI (s + 1)))]) (st2 := []) (rfl) (lv_c rfl (lv_c rfl (lv_c rfl (lv_c (vi_c (show oI (ck (fun s => (askB (kd j) (tp s) (qu s) d hint)) (fun s => pc6 (tp s &&& d)) s) = oI (ck (fun s => (askB (kd j) (tp s) (qu s) d hint)) (fun s => pc6 (tp s &&& d)) (s + 1)) from by first | rw [ck_1 (p := (fun s => (askB (kd j) (tp s) (qu s) d hint))) (m := (fun s => pc6 (tp s &&& d))) c23] | rw [ck_3 (p := (fun s => (askB (kd j) (tp s) (qu s) d hint))) (m := (fun s => pc6 (tp s &&& d))) c23 ho c45] | (rw [ck_2 (p := (fun s => (askB (kd j) (tp s) (qu s) d hint))) (m := (fun s => pc6 (tp s &&& d))) c23 ho]; rfl) | (rw [ck_4 (p := (fun s => (askB (kd j) (tp s) (qu s) d hint))) (m := (fun s => pc6 (tp s &&& d))) c23 ho c45]; rfl))) (lv_c rfl (rfl)))))) (rfl) ?_
              exact ih1 (s + 1) (by omega) (by omega) 
            · refine G_iload (q := 50) dX2_cloakOf_48 4 rfl rfl ?_
              refine G_istore_n (lv2 := [(0, .ref h), (1, .int (nI j)), (2, .int (nI d)), (3, .int (nI s)), (4, .int (nI s))]) (q := 51) dX2_cloakOf_50 rfl (by decide) rfl rfl ?_
              refine G_iincN (x := s) (d := 1) (lv2 := [(0, .ref h), (1, .int (nI j)), (2, .int (nI d)), (3, .int (nI s)), (4, .int (nI (s + 1)))]) (q := 54) dX2_cloakOf_51 4 rfl (by decide) (by decide) rfl rfl ?_
              refine G_goto (q := 6) dX2_cloakOf_54 (by decide) ?_
              refine GG.of (ws2 := [(h, .inr (2, [.ref ka, .ref aa, .ref ma, .ref ta, .ref qa, .int (nI n), .int (nI k), .int (nI deed), .int (nI hint)])), (ka, .inl (Z 0, 6, .inl (fun j => nI (kd j)))), (aa, .inl (Z 0, 6, .inl (fun j => nI (ag j)))), (ma, .inl (Z 0, 6, .inl (fun j => nI (ml j)))), (ta, .inl (Z 0, 8, .inl (fun j => nI (tp j)))), (qa, .inl (Z 2, 8, .inl (fun j => bI (qu j))))]) (lv2 := [(0, .ref h), (1, .int (nI j)), (2, .int (nI d)), (3, .int (oI (ck (fun s => (askB (kd j) (tp s) (qu s) d hint)) (fun s => pc6 (tp s &&& d)) (s + 1)))), (4, .int (nI (s + 1)))]) (st2 := []) (rfl) (lv_c rfl (lv_c rfl (lv_c rfl (lv_c (vi_c (show nI s = oI (ck (fun s => (askB (kd j) (tp s) (qu s) d hint)) (fun s => pc6 (tp s &&& d)) (s + 1)) from by first | rw [ck_1 (p := (fun s => (askB (kd j) (tp s) (qu s) d hint))) (m := (fun s => pc6 (tp s &&& d))) c23] | rw [ck_3 (p := (fun s => (askB (kd j) (tp s) (qu s) d hint))) (m := (fun s => pc6 (tp s &&& d))) c23 ho c45] | (rw [ck_2 (p := (fun s => (askB (kd j) (tp s) (qu s) d hint))) (m := (fun s => pc6 (tp s &&& d))) c23 ho]; rfl) | (rw [ck_4 (p := (fun s => (askB (kd j) (tp s) (qu s) d hint))) (m := (fun s => pc6 (tp s &&& d))) c23 ho c45]; rfl))) (lv_c rfl (rfl)))))) (rfl) ?_
              exact ih1 (s + 1) (by omega) (by omega) 
  refine GG.of (ws2 := [(h, .inr (2, [.ref ka, .ref aa, .ref ma, .ref ta, .ref qa, .int (nI n), .int (nI k), .int (nI deed), .int (nI hint)])), (ka, .inl (Z 0, 6, .inl (fun j => nI (kd j)))), (aa, .inl (Z 0, 6, .inl (fun j => nI (ag j)))), (ma, .inl (Z 0, 6, .inl (fun j => nI (ml j)))), (ta, .inl (Z 0, 8, .inl (fun j => nI (tp j)))), (qa, .inl (Z 2, 8, .inl (fun j => bI (qu j))))]) (lv2 := [(0, .ref h), (1, .int (nI j)), (2, .int (nI d)), (3, .int (oI (ck (fun s => (askB (kd j) (tp s) (qu s) d hint)) (fun s => pc6 (tp s &&& d)) 0))), (4, .int (nI 0))]) (st2 := []) (rfl) (lv_c rfl (lv_c rfl (lv_c rfl (lv_c (vi_c (show -4 = oI (ck (fun s => (askB (kd j) (tp s) (qu s) d hint)) (fun s => pc6 (tp s &&& d)) 0) from rfl)) (lv_c rfl (rfl)))))) (rfl) ?_
  exact L6_1 (k + 1) (0) (Nat.zero_le _) (by omega) 
theorem cs_X2_lowestChild : CS yX2_lowestChild wsX2_lowestChild cX2_lowestChild 2 (some .int) 0 := ⟨⟨_, rfl⟩, by decide +kernel, by decide +kernel, by decide +kernel⟩
theorem fl_X2_lowestChild_28 : Cond.fieldLink RX2 28 (TX2 5).1 (TX2 5).2.1 (TX2 5).2.2.1 ∈ wsX2_lowestChild := by decide +kernel
theorem in_X2_lowestChild_X2 : ∀ w ∈ u_ws RX2 TX2 9, w ∈ wsX2_lowestChild := by decide +kernel
set_option maxHeartbeats 4000000 in
set_option maxRecDepth 100000 in
theorem ct_X2_lowestChild (Z : Nat → ClassId) (h : Nat) (ka : Nat) (aa : Nat) (ma : Nat) (ta : Nat) (qa : Nat) (kd : Nat → Nat) (ag : Nat → Nat) (ml : Nat → Nat) (tp : Nat → Nat) (qu : Nat → Bool) (n : Nat) (k : Nat) (deed : Nat) (hint : Nat) (hn : n ≤ 6) (hkd : ∀ j, kd j ≤ 4): Ct false yX2_lowestChild wsX2_lowestChild ({ frames := 2, cells := 0, slots := 0, locals := 42 }) [.ref h] Z [(h, .inr (2, [.ref ka, .ref aa, .ref ma, .ref ta, .ref qa, .int (nI n), .int (nI k), .int (nI deed), .int (nI hint)])), (ka, .inl (Z 0, 6, .inl (fun j => nI (kd j)))), (aa, .inl (Z 0, 6, .inl (fun j => nI (ag j)))), (ma, .inl (Z 0, 6, .inl (fun j => nI (ml j)))), (ta, .inl (Z 0, 8, .inl (fun j => nI (tp j)))), (qa, .inl (Z 2, 8, .inl (fun j => bI (qu j))))] (rI (nI (fC (fun i => decide (kd i = 3)) n 0)) [(h, .inr (2, [.ref ka, .ref aa, .ref ma, .ref ta, .ref qa, .int (nI n), .int (nI k), .int (nI deed), .int (nI hint)])), (ka, .inl (Z 0, 6, .inl (fun j => nI (kd j)))), (aa, .inl (Z 0, 6, .inl (fun j => nI (ag j)))), (ma, .inl (Z 0, 6, .inl (fun j => nI (ml j)))), (ta, .inl (Z 0, 8, .inl (fun j => nI (tp j)))), (qa, .inl (Z 2, 8, .inl (fun j => bI (qu j))))]) 0 0 := by
  refine Ct_of (cc := cX2_lowestChild) (maxL := 2) (ret := (some .int)) (own := RX2) false false (by decide +kernel) rfl rfl (by decide) (fun v w h => by rw [h.1]; exact ⟨_, rfl, rfl⟩) (Nat.le_of_ble_eq_true rfl) (fun X => ?_)
  show GG X _ _ _ _ _ _ _ _ _ _ _ _ _ _ [(0, .ref h)] _ _
  refine G_iconst (v := nI 0) (q := 1) dX2_lowestChild_0 (by decide) rfl ?_
  refine G_istore_n (lv2 := [(0, .ref h), (1, .int (nI 0))]) (q := 2) dX2_lowestChild_1 rfl (by decide) rfl rfl ?_
  have L2_1 : ∀ fu1 i : Nat, i ≤ n → n + 1 ≤ i + fu1 → (∀ j, j < i → (fun i => decide (kd i = 3)) j = false) → GG X ({ frames := 2, cells := 0, slots := 0, locals := 42 }) cX2_lowestChild 2 wsX2_lowestChild RX2 false false Z (rI (nI (fC (fun i => decide (kd i = 3)) n 0)) [(h, .inr (2, [.ref ka, .ref aa, .ref ma, .ref ta, .ref qa, .int (nI n), .int (nI k), .int (nI deed), .int (nI hint)])), (ka, .inl (Z 0, 6, .inl (fun j => nI (kd j)))), (aa, .inl (Z 0, 6, .inl (fun j => nI (ag j)))), (ma, .inl (Z 0, 6, .inl (fun j => nI (ml j)))), (ta, .inl (Z 0, 8, .inl (fun j => nI (tp j)))), (qa, .inl (Z 2, 8, .inl (fun j => bI (qu j))))]) 0 0 0 0 [(h, .inr (2, [.ref ka, .ref aa, .ref ma, .ref ta, .ref qa, .int (nI n), .int (nI k), .int (nI deed), .int (nI hint)])), (ka, .inl (Z 0, 6, .inl (fun j => nI (kd j)))), (aa, .inl (Z 0, 6, .inl (fun j => nI (ag j)))), (ma, .inl (Z 0, 6, .inl (fun j => nI (ml j)))), (ta, .inl (Z 0, 8, .inl (fun j => nI (tp j)))), (qa, .inl (Z 2, 8, .inl (fun j => bI (qu j))))] [(0, .ref h), (1, .int (nI i))] [] 2 := by
    intro fu1
    induction fu1 with
    | zero => intro i q1 q2; exact absurd q2 (by omega)
    | succ fu1 ih1 =>
      intro i hi1 hf1 hv
      refine G_iload_n (q := 3) dX2_lowestChild_2 rfl 1 rfl rfl ?_
      refine G_aload_n (q := 4) dX2_lowestChild_3 rfl 0 rfl rfl ?_
      refine G_get (q := 7) dX2_lowestChild_4 0 rfl (show vwCl[2]? = some (RX2, TX2, 9) from rfl) 5 (by decide) in_X2_lowestChild_X2 fl_X2_lowestChild_28 rfl rfl ?_
      refine G_icmp_geN (tgt := 27) (q := 10) dX2_lowestChild_7 (by decide) rfl (by omega) (by omega) (fun c7 => ?_) (fun c7 => ?_)
      · have e9 : n = i := by omega
        subst e9
        refine G_iconst (v := nI 0) (q := 28) dX2_lowestChild_27 (by decide) rfl ?_
        refine GG.of (ws2 := [(h, .inr (2, [.ref ka, .ref aa, .ref ma, .ref ta, .ref qa, .int (nI n), .int (nI k), .int (nI deed), .int (nI hint)])), (ka, .inl (Z 0, 6, .inl (fun j => nI (kd j)))), (aa, .inl (Z 0, 6, .inl (fun j => nI (ag j)))), (ma, .inl (Z 0, 6, .inl (fun j => nI (ml j)))), (ta, .inl (Z 0, 8, .inl (fun j => nI (tp j)))), (qa, .inl (Z 2, 8, .inl (fun j => bI (qu j))))]) (lv2 := [(0, .ref h), (1, .int (nI n))]) (st2 := [.int (nI (fC (fun i => decide (kd i = 3)) n 0))]) (rfl) (rfl) (st_c (vi_c (show nI 0 = nI (fC (fun i => decide (kd i = 3)) n 0) from by rw [fC_no hv])) (rfl)) ?_
        exact G_iret dX2_lowestChild_28 rfl rfl ⟨rfl, rfl⟩
      · refine G_aload_n (q := 11) dX2_lowestChild_10 rfl 0 rfl rfl ?_
        refine G_iload_n (q := 12) dX2_lowestChild_11 rfl 1 rfl rfl ?_
        refine G_callVP (As := [.int (nI i)]) (rest := []) (st2 := [.int (nI (kd i))]) (q := 15) dX2_lowestChild_12 [0, 1, 2, 3, 4, 5] (ct_X2_kind Z h ka aa ma ta qa kd ag ml tp qu n k deed hint i (by omega) (by omega)) (fun h => h) cs_X2_kind gX2_lowestChild_X2_kind rfl ⟨Nat.le_of_ble_eq_true rfl, Nat.le_of_ble_eq_true rfl⟩ ⟨rfl, rfl⟩ 0 rfl (show vwCl[2]? = some (RX2, TX2, 9) from rfl) rfl (by decide) rfl rfl (Nat.le_of_ble_eq_true rfl) ⟨by decide, by decide⟩ rfl rfl ?_
        refine G_iconst (v := nI 3) (q := 16) dX2_lowestChild_15 (by decide) rfl ?_
        refine G_icmp_neN (tgt := 21) (q := 19) dX2_lowestChild_16 (by decide) rfl (by have := hkd i; omega) (by omega) (fun c16 => ?_) (fun c16 => ?_)
        · refine G_iincN (x := i) (d := 1) (lv2 := [(0, .ref h), (1, .int (nI (i + 1)))]) (q := 24) dX2_lowestChild_21 1 rfl (by decide) (by decide) rfl rfl ?_
          refine G_goto (q := 2) dX2_lowestChild_24 (by decide) ?_
          exact ih1 (i + 1) (by omega) (by omega) (fun j hj => (Nat.lt_succ_iff_lt_or_eq.mp hj).elim (fun h9 => hv j h9) (fun h9 => by rw [h9]; exact decide_eq_false c16))
        · refine G_iload_n (q := 20) dX2_lowestChild_19 rfl 1 rfl rfl ?_
          refine GG.of (ws2 := [(h, .inr (2, [.ref ka, .ref aa, .ref ma, .ref ta, .ref qa, .int (nI n), .int (nI k), .int (nI deed), .int (nI hint)])), (ka, .inl (Z 0, 6, .inl (fun j => nI (kd j)))), (aa, .inl (Z 0, 6, .inl (fun j => nI (ag j)))), (ma, .inl (Z 0, 6, .inl (fun j => nI (ml j)))), (ta, .inl (Z 0, 8, .inl (fun j => nI (tp j)))), (qa, .inl (Z 2, 8, .inl (fun j => bI (qu j))))]) (lv2 := [(0, .ref h), (1, .int (nI i))]) (st2 := [.int (nI (fC (fun i => decide (kd i = 3)) n 0))]) (rfl) (rfl) (st_c (vi_c (show nI i = nI (fC (fun i => decide (kd i = 3)) n 0) from by rw [fC_at c7 hv (decide_eq_true c16)])) (rfl)) ?_
          exact G_iret dX2_lowestChild_20 rfl rfl ⟨rfl, rfl⟩
  exact L2_1 (n + 1) (0) (Nat.zero_le _) (by omega) (fun j hj => absurd hj (Nat.not_lt_zero j))
theorem cs_X2_addRelative : CS yX2_addRelative wsX2_addRelative cX2_addRelative 4 (some .boolean) 3 := ⟨⟨_, rfl⟩, by decide +kernel, by decide +kernel, by decide +kernel⟩
theorem fl_X2_addRelative_15 : Cond.fieldLink RX2 15 (TX2 1).1 (TX2 1).2.1 (TX2 1).2.2.1 ∈ wsX2_addRelative := by decide +kernel
theorem fl_X2_addRelative_18 : Cond.fieldLink RX2 18 (TX2 2).1 (TX2 2).2.1 (TX2 2).2.2.1 ∈ wsX2_addRelative := by decide +kernel
theorem fl_X2_addRelative_28 : Cond.fieldLink RX2 28 (TX2 5).1 (TX2 5).2.1 (TX2 5).2.2.1 ∈ wsX2_addRelative := by decide +kernel
theorem fl_X2_addRelative_9 : Cond.fieldLink RX2 9 (TX2 0).1 (TX2 0).2.1 (TX2 0).2.2.1 ∈ wsX2_addRelative := by decide +kernel
theorem in_X2_addRelative_X2 : ∀ w ∈ u_ws RX2 TX2 9, w ∈ wsX2_addRelative := by decide +kernel
set_option maxHeartbeats 4000000 in
set_option maxRecDepth 100000 in
theorem ct_X2_addRelative_ok (Z : Nat → ClassId) (h : Nat) (ka : Nat) (aa : Nat) (ma : Nat) (ta : Nat) (qa : Nat) (kd : Nat → Nat) (ag : Nat → Nat) (ml : Nat → Nat) (tp : Nat → Nat) (qu : Nat → Bool) (n : Nat) (k : Nat) (deed : Nat) (hint : Nat) (p0 : Nat) (p1 : Nat) (p2 : Nat) (hn : n ≤ 6) (h0 : p0 < 1000) (h1 : p1 < 1000) (h2 : p2 < 1000) (hc : n < 6 ∧ p0 ≤ 4 ∧ p1 ≤ 99 ∧ p2 ≤ 9): Ct false yX2_addRelative wsX2_addRelative ({ frames := 0, cells := 0, slots := 0, locals := 0 }) [.ref h, .int (nI p0), .int (nI p1), .int (nI p2)] Z [(h, .inr (2, [.ref ka, .ref aa, .ref ma, .ref ta, .ref qa, .int (nI n), .int (nI k), .int (nI deed), .int (nI hint)])), (ka, .inl (Z 0, 6, .inl (fun j => nI (kd j)))), (aa, .inl (Z 0, 6, .inl (fun j => nI (ag j)))), (ma, .inl (Z 0, 6, .inl (fun j => nI (ml j)))), (ta, .inl (Z 0, 8, .inl (fun j => nI (tp j)))), (qa, .inl (Z 2, 8, .inl (fun j => bI (qu j))))] (rI (bI true) [(h, .inr (2, [.ref ka, .ref aa, .ref ma, .ref ta, .ref qa, .int (nI (n + 1)), .int (nI k), .int (nI deed), .int (nI hint)])), (ka, .inl (Z 0, 6, .inl (fun j => nI ((updN kd n p0) j)))), (aa, .inl (Z 0, 6, .inl (fun j => nI ((updN ag n p1) j)))), (ma, .inl (Z 0, 6, .inl (fun j => nI ((updN ml n p2) j)))), (ta, .inl (Z 0, 8, .inl (fun j => nI (tp j)))), (qa, .inl (Z 2, 8, .inl (fun j => bI (qu j))))]) 0 0 := by
  refine Ct_of (cc := cX2_addRelative) (maxL := 4) (ret := (some .boolean)) (own := RX2) false false (by decide +kernel) rfl rfl (by decide) (fun v w h => by rw [h.1]; exact ⟨_, rfl, bI_01 _⟩) (Nat.le_of_ble_eq_true rfl) (fun X => ?_)
  show GG X _ _ _ _ _ _ _ _ _ _ _ _ _ _ [(0, .ref h), (1, .int (nI p0)), (2, .int (nI p1)), (3, .int (nI p2))] _ _
  refine G_aload_n (q := 1) dX2_addRelative_0 rfl 0 rfl rfl ?_
  refine G_get (q := 4) dX2_addRelative_1 0 rfl (show vwCl[2]? = some (RX2, TX2, 9) from rfl) 5 (by decide) in_X2_addRelative_X2 fl_X2_addRelative_28 rfl rfl ?_
  refine G_bipush (v := nI 6) (q := 6) dX2_addRelative_4 (by decide) rfl ?_
  refine G_icmp_geN (tgt := 26) (q := 9) dX2_addRelative_6 (by decide) rfl (by omega) (by omega) (fun c6 => ?_) (fun c6 => ?_)
  · exfalso; omega
  · refine G_iload_n (q := 10) dX2_addRelative_9 rfl 1 rfl rfl ?_
    refine G_iconst (v := nI 4) (q := 11) dX2_addRelative_10 (by decide) rfl ?_
    refine G_icmp_gtN (tgt := 26) (q := 14) dX2_addRelative_11 (by decide) rfl (by omega) (by omega) (fun c11 => ?_) (fun c11 => ?_)
    · exfalso; omega
    · refine G_iload_n (q := 15) dX2_addRelative_14 rfl 2 rfl rfl ?_
      refine G_bipush (v := nI 99) (q := 17) dX2_addRelative_15 (by decide) rfl ?_
      refine G_icmp_gtN (tgt := 26) (q := 20) dX2_addRelative_17 (by decide) rfl (by omega) (by omega) (fun c17 => ?_) (fun c17 => ?_)
      · exfalso; omega
      · refine G_iload_n (q := 21) dX2_addRelative_20 rfl 3 rfl rfl ?_
        refine G_bipush (v := nI 9) (q := 23) dX2_addRelative_21 (by decide) rfl ?_
        refine G_icmp_leN (tgt := 28) (q := 26) dX2_addRelative_23 (by decide) rfl (by omega) (by omega) (fun c23 => ?_) (fun c23 => ?_)
        · refine G_aload_n (q := 29) dX2_addRelative_28 rfl 0 rfl rfl ?_
          refine G_get (q := 32) dX2_addRelative_29 0 rfl (show vwCl[2]? = some (RX2, TX2, 9) from rfl) 0 (by decide) in_X2_addRelative_X2 fl_X2_addRelative_9 rfl rfl ?_
          refine G_aload_n (q := 33) dX2_addRelative_32 rfl 0 rfl rfl ?_
          refine G_get (q := 36) dX2_addRelative_33 0 rfl (show vwCl[2]? = some (RX2, TX2, 9) from rfl) 5 (by decide) in_X2_addRelative_X2 fl_X2_addRelative_28 rfl rfl ?_
          refine G_iload_n (q := 37) dX2_addRelative_36 rfl 1 rfl rfl ?_
          refine G_iast (ws2 := [(h, .inr (2, [.ref ka, .ref aa, .ref ma, .ref ta, .ref qa, .int (nI n), .int (nI k), .int (nI deed), .int (nI hint)])), (ka, .inl (Z 0, 6, .inl (upd (fun j => nI (kd j)) n (nI p0)))), (aa, .inl (Z 0, 6, .inl (fun j => nI (ag j)))), (ma, .inl (Z 0, 6, .inl (fun j => nI (ml j)))), (ta, .inl (Z 0, 8, .inl (fun j => nI (tp j)))), (qa, .inl (Z 2, 8, .inl (fun j => bI (qu j))))]) (q := 38) dX2_addRelative_37 1 rfl n (rfl) (by omega) (by omega) rfl rfl ?_
          refine GG.of (ws2 := [(h, .inr (2, [.ref ka, .ref aa, .ref ma, .ref ta, .ref qa, .int (nI n), .int (nI k), .int (nI deed), .int (nI hint)])), (ka, .inl (Z 0, 6, .inl (fun j => nI ((updN kd n p0) j)))), (aa, .inl (Z 0, 6, .inl (fun j => nI (ag j)))), (ma, .inl (Z 0, 6, .inl (fun j => nI (ml j)))), (ta, .inl (Z 0, 8, .inl (fun j => nI (tp j)))), (qa, .inl (Z 2, 8, .inl (fun j => bI (qu j))))]) (ws_c (rfl) (ws_c (cell_i (updN_eq _ _ _)) (ws_c (rfl) (ws_c (rfl) (ws_c (rfl) (ws_c (rfl) (rfl))))))) rfl rfl ?_
          refine G_aload_n (q := 39) dX2_addRelative_38 rfl 0 rfl rfl ?_
          refine G_get (q := 42) dX2_addRelative_39 0 rfl (show vwCl[2]? = some (RX2, TX2, 9) from rfl) 1 (by decide) in_X2_addRelative_X2 fl_X2_addRelative_15 rfl rfl ?_
          refine G_aload_n (q := 43) dX2_addRelative_42 rfl 0 rfl rfl ?_
          refine G_get (q := 46) dX2_addRelative_43 0 rfl (show vwCl[2]? = some (RX2, TX2, 9) from rfl) 5 (by decide) in_X2_addRelative_X2 fl_X2_addRelative_28 rfl rfl ?_
          refine G_iload_n (q := 47) dX2_addRelative_46 rfl 2 rfl rfl ?_
          refine G_iast (ws2 := [(h, .inr (2, [.ref ka, .ref aa, .ref ma, .ref ta, .ref qa, .int (nI n), .int (nI k), .int (nI deed), .int (nI hint)])), (ka, .inl (Z 0, 6, .inl (fun j => nI ((updN kd n p0) j)))), (aa, .inl (Z 0, 6, .inl (upd (fun j => nI (ag j)) n (nI p1)))), (ma, .inl (Z 0, 6, .inl (fun j => nI (ml j)))), (ta, .inl (Z 0, 8, .inl (fun j => nI (tp j)))), (qa, .inl (Z 2, 8, .inl (fun j => bI (qu j))))]) (q := 48) dX2_addRelative_47 2 rfl n (rfl) (by omega) (by omega) rfl rfl ?_
          refine GG.of (ws2 := [(h, .inr (2, [.ref ka, .ref aa, .ref ma, .ref ta, .ref qa, .int (nI n), .int (nI k), .int (nI deed), .int (nI hint)])), (ka, .inl (Z 0, 6, .inl (fun j => nI ((updN kd n p0) j)))), (aa, .inl (Z 0, 6, .inl (fun j => nI ((updN ag n p1) j)))), (ma, .inl (Z 0, 6, .inl (fun j => nI (ml j)))), (ta, .inl (Z 0, 8, .inl (fun j => nI (tp j)))), (qa, .inl (Z 2, 8, .inl (fun j => bI (qu j))))]) (ws_c (rfl) (ws_c (rfl) (ws_c (cell_i (updN_eq _ _ _)) (ws_c (rfl) (ws_c (rfl) (ws_c (rfl) (rfl))))))) rfl rfl ?_
          refine G_aload_n (q := 49) dX2_addRelative_48 rfl 0 rfl rfl ?_
          refine G_get (q := 52) dX2_addRelative_49 0 rfl (show vwCl[2]? = some (RX2, TX2, 9) from rfl) 2 (by decide) in_X2_addRelative_X2 fl_X2_addRelative_18 rfl rfl ?_
          refine G_aload_n (q := 53) dX2_addRelative_52 rfl 0 rfl rfl ?_
          refine G_get (q := 56) dX2_addRelative_53 0 rfl (show vwCl[2]? = some (RX2, TX2, 9) from rfl) 5 (by decide) in_X2_addRelative_X2 fl_X2_addRelative_28 rfl rfl ?_
          refine G_iload_n (q := 57) dX2_addRelative_56 rfl 3 rfl rfl ?_
          refine G_iast (ws2 := [(h, .inr (2, [.ref ka, .ref aa, .ref ma, .ref ta, .ref qa, .int (nI n), .int (nI k), .int (nI deed), .int (nI hint)])), (ka, .inl (Z 0, 6, .inl (fun j => nI ((updN kd n p0) j)))), (aa, .inl (Z 0, 6, .inl (fun j => nI ((updN ag n p1) j)))), (ma, .inl (Z 0, 6, .inl (upd (fun j => nI (ml j)) n (nI p2)))), (ta, .inl (Z 0, 8, .inl (fun j => nI (tp j)))), (qa, .inl (Z 2, 8, .inl (fun j => bI (qu j))))]) (q := 58) dX2_addRelative_57 3 rfl n (rfl) (by omega) (by omega) rfl rfl ?_
          refine GG.of (ws2 := [(h, .inr (2, [.ref ka, .ref aa, .ref ma, .ref ta, .ref qa, .int (nI n), .int (nI k), .int (nI deed), .int (nI hint)])), (ka, .inl (Z 0, 6, .inl (fun j => nI ((updN kd n p0) j)))), (aa, .inl (Z 0, 6, .inl (fun j => nI ((updN ag n p1) j)))), (ma, .inl (Z 0, 6, .inl (fun j => nI ((updN ml n p2) j)))), (ta, .inl (Z 0, 8, .inl (fun j => nI (tp j)))), (qa, .inl (Z 2, 8, .inl (fun j => bI (qu j))))]) (ws_c (rfl) (ws_c (rfl) (ws_c (rfl) (ws_c (cell_i (updN_eq _ _ _)) (ws_c (rfl) (ws_c (rfl) (rfl))))))) rfl rfl ?_
          refine G_aload_n (q := 59) dX2_addRelative_58 rfl 0 rfl rfl ?_
          refine G_dup (q := 60) dX2_addRelative_59 rfl rfl ?_
          refine G_get (q := 63) dX2_addRelative_60 0 rfl (show vwCl[2]? = some (RX2, TX2, 9) from rfl) 5 (by decide) in_X2_addRelative_X2 fl_X2_addRelative_28 rfl rfl ?_
          refine G_iconst (v := nI 1) (q := 64) dX2_addRelative_63 (by decide) rfl ?_
          refine G_iaddN (a := n) (b := 1) (q := 65) dX2_addRelative_64 rfl ?_
          refine G_put (ws2 := [(h, .inr (2, [.ref ka, .ref aa, .ref ma, .ref ta, .ref qa, .int (nI (n + 1)), .int (nI k), .int (nI deed), .int (nI hint)])), (ka, .inl (Z 0, 6, .inl (fun j => nI ((updN kd n p0) j)))), (aa, .inl (Z 0, 6, .inl (fun j => nI ((updN ag n p1) j)))), (ma, .inl (Z 0, 6, .inl (fun j => nI ((updN ml n p2) j)))), (ta, .inl (Z 0, 8, .inl (fun j => nI (tp j)))), (qa, .inl (Z 2, 8, .inl (fun j => bI (qu j))))]) (q := 68) dX2_addRelative_65 0 rfl (show vwCl[2]? = some (RX2, TX2, 9) from rfl) cf_X2 5 (by decide) in_X2_addRelative_X2 fl_X2_addRelative_28 rfl (rfl) rfl (by simp only [List.length_cons, List.length_nil]; decide) rfl rfl ?_
          refine G_iconst (v := nI 1) (q := 69) dX2_addRelative_68 (by decide) rfl ?_
          refine GG.of (ws2 := [(h, .inr (2, [.ref ka, .ref aa, .ref ma, .ref ta, .ref qa, .int (nI (n + 1)), .int (nI k), .int (nI deed), .int (nI hint)])), (ka, .inl (Z 0, 6, .inl (fun j => nI ((updN kd n p0) j)))), (aa, .inl (Z 0, 6, .inl (fun j => nI ((updN ag n p1) j)))), (ma, .inl (Z 0, 6, .inl (fun j => nI ((updN ml n p2) j)))), (ta, .inl (Z 0, 8, .inl (fun j => nI (tp j)))), (qa, .inl (Z 2, 8, .inl (fun j => bI (qu j))))]) (lv2 := [(0, .ref h), (1, .int (nI p0)), (2, .int (nI p1)), (3, .int (nI p2))]) (st2 := [.int (bI true)]) (rfl) (rfl) (st_c (vi_c (show nI 1 = bI true from rfl)) (rfl)) ?_
          exact G_iret dX2_addRelative_69 rfl rfl ⟨rfl, rfl⟩
        · exfalso; omega
set_option maxHeartbeats 4000000 in
set_option maxRecDepth 100000 in
theorem ct_X2_addRelative_bad (Z : Nat → ClassId) (h : Nat) (ka : Nat) (aa : Nat) (ma : Nat) (ta : Nat) (qa : Nat) (kd : Nat → Nat) (ag : Nat → Nat) (ml : Nat → Nat) (tp : Nat → Nat) (qu : Nat → Bool) (n : Nat) (k : Nat) (deed : Nat) (hint : Nat) (p0 : Nat) (p1 : Nat) (p2 : Nat) (hn : n ≤ 6) (h0 : p0 < 1000) (h1 : p1 < 1000) (h2 : p2 < 1000) (hc : ¬ (n < 6 ∧ p0 ≤ 4 ∧ p1 ≤ 99 ∧ p2 ≤ 9)): Ct false yX2_addRelative wsX2_addRelative ({ frames := 0, cells := 0, slots := 0, locals := 0 }) [.ref h, .int (nI p0), .int (nI p1), .int (nI p2)] Z [(h, .inr (2, [.ref ka, .ref aa, .ref ma, .ref ta, .ref qa, .int (nI n), .int (nI k), .int (nI deed), .int (nI hint)])), (ka, .inl (Z 0, 6, .inl (fun j => nI (kd j)))), (aa, .inl (Z 0, 6, .inl (fun j => nI (ag j)))), (ma, .inl (Z 0, 6, .inl (fun j => nI (ml j)))), (ta, .inl (Z 0, 8, .inl (fun j => nI (tp j)))), (qa, .inl (Z 2, 8, .inl (fun j => bI (qu j))))] (rI (bI false) [(h, .inr (2, [.ref ka, .ref aa, .ref ma, .ref ta, .ref qa, .int (nI n), .int (nI k), .int (nI deed), .int (nI hint)])), (ka, .inl (Z 0, 6, .inl (fun j => nI (kd j)))), (aa, .inl (Z 0, 6, .inl (fun j => nI (ag j)))), (ma, .inl (Z 0, 6, .inl (fun j => nI (ml j)))), (ta, .inl (Z 0, 8, .inl (fun j => nI (tp j)))), (qa, .inl (Z 2, 8, .inl (fun j => bI (qu j))))]) 0 0 := by
  refine Ct_of (cc := cX2_addRelative) (maxL := 4) (ret := (some .boolean)) (own := RX2) false false (by decide +kernel) rfl rfl (by decide) (fun v w h => by rw [h.1]; exact ⟨_, rfl, bI_01 _⟩) (Nat.le_of_ble_eq_true rfl) (fun X => ?_)
  show GG X _ _ _ _ _ _ _ _ _ _ _ _ _ _ [(0, .ref h), (1, .int (nI p0)), (2, .int (nI p1)), (3, .int (nI p2))] _ _
  refine G_aload_n (q := 1) dX2_addRelative_0 rfl 0 rfl rfl ?_
  refine G_get (q := 4) dX2_addRelative_1 0 rfl (show vwCl[2]? = some (RX2, TX2, 9) from rfl) 5 (by decide) in_X2_addRelative_X2 fl_X2_addRelative_28 rfl rfl ?_
  refine G_bipush (v := nI 6) (q := 6) dX2_addRelative_4 (by decide) rfl ?_
  refine G_icmp_geN (tgt := 26) (q := 9) dX2_addRelative_6 (by decide) rfl (by omega) (by omega) (fun c6 => ?_) (fun c6 => ?_)
  · refine G_iconst (v := nI 0) (q := 27) dX2_addRelative_26 (by decide) rfl ?_
    refine GG.of (ws2 := [(h, .inr (2, [.ref ka, .ref aa, .ref ma, .ref ta, .ref qa, .int (nI n), .int (nI k), .int (nI deed), .int (nI hint)])), (ka, .inl (Z 0, 6, .inl (fun j => nI (kd j)))), (aa, .inl (Z 0, 6, .inl (fun j => nI (ag j)))), (ma, .inl (Z 0, 6, .inl (fun j => nI (ml j)))), (ta, .inl (Z 0, 8, .inl (fun j => nI (tp j)))), (qa, .inl (Z 2, 8, .inl (fun j => bI (qu j))))]) (lv2 := [(0, .ref h), (1, .int (nI p0)), (2, .int (nI p1)), (3, .int (nI p2))]) (st2 := [.int (bI false)]) (rfl) (rfl) (st_c (vi_c (show nI 0 = bI false from rfl)) (rfl)) ?_
    exact G_iret dX2_addRelative_27 rfl rfl ⟨rfl, rfl⟩
  · refine G_iload_n (q := 10) dX2_addRelative_9 rfl 1 rfl rfl ?_
    refine G_iconst (v := nI 4) (q := 11) dX2_addRelative_10 (by decide) rfl ?_
    refine G_icmp_gtN (tgt := 26) (q := 14) dX2_addRelative_11 (by decide) rfl (by omega) (by omega) (fun c11 => ?_) (fun c11 => ?_)
    · refine G_iconst (v := nI 0) (q := 27) dX2_addRelative_26 (by decide) rfl ?_
      refine GG.of (ws2 := [(h, .inr (2, [.ref ka, .ref aa, .ref ma, .ref ta, .ref qa, .int (nI n), .int (nI k), .int (nI deed), .int (nI hint)])), (ka, .inl (Z 0, 6, .inl (fun j => nI (kd j)))), (aa, .inl (Z 0, 6, .inl (fun j => nI (ag j)))), (ma, .inl (Z 0, 6, .inl (fun j => nI (ml j)))), (ta, .inl (Z 0, 8, .inl (fun j => nI (tp j)))), (qa, .inl (Z 2, 8, .inl (fun j => bI (qu j))))]) (lv2 := [(0, .ref h), (1, .int (nI p0)), (2, .int (nI p1)), (3, .int (nI p2))]) (st2 := [.int (bI false)]) (rfl) (rfl) (st_c (vi_c (show nI 0 = bI false from rfl)) (rfl)) ?_
      exact G_iret dX2_addRelative_27 rfl rfl ⟨rfl, rfl⟩
    · refine G_iload_n (q := 15) dX2_addRelative_14 rfl 2 rfl rfl ?_
      refine G_bipush (v := nI 99) (q := 17) dX2_addRelative_15 (by decide) rfl ?_
      refine G_icmp_gtN (tgt := 26) (q := 20) dX2_addRelative_17 (by decide) rfl (by omega) (by omega) (fun c17 => ?_) (fun c17 => ?_)
      · refine G_iconst (v := nI 0) (q := 27) dX2_addRelative_26 (by decide) rfl ?_
        refine GG.of (ws2 := [(h, .inr (2, [.ref ka, .ref aa, .ref ma, .ref ta, .ref qa, .int (nI n), .int (nI k), .int (nI deed), .int (nI hint)])), (ka, .inl (Z 0, 6, .inl (fun j => nI (kd j)))), (aa, .inl (Z 0, 6, .inl (fun j => nI (ag j)))), (ma, .inl (Z 0, 6, .inl (fun j => nI (ml j)))), (ta, .inl (Z 0, 8, .inl (fun j => nI (tp j)))), (qa, .inl (Z 2, 8, .inl (fun j => bI (qu j))))]) (lv2 := [(0, .ref h), (1, .int (nI p0)), (2, .int (nI p1)), (3, .int (nI p2))]) (st2 := [.int (bI false)]) (rfl) (rfl) (st_c (vi_c (show nI 0 = bI false from rfl)) (rfl)) ?_
        exact G_iret dX2_addRelative_27 rfl rfl ⟨rfl, rfl⟩
      · refine G_iload_n (q := 21) dX2_addRelative_20 rfl 3 rfl rfl ?_
        refine G_bipush (v := nI 9) (q := 23) dX2_addRelative_21 (by decide) rfl ?_
        refine G_icmp_leN (tgt := 28) (q := 26) dX2_addRelative_23 (by decide) rfl (by omega) (by omega) (fun c23 => ?_) (fun c23 => ?_)
        · exfalso; omega
        · refine G_iconst (v := nI 0) (q := 27) dX2_addRelative_26 (by decide) rfl ?_
          refine GG.of (ws2 := [(h, .inr (2, [.ref ka, .ref aa, .ref ma, .ref ta, .ref qa, .int (nI n), .int (nI k), .int (nI deed), .int (nI hint)])), (ka, .inl (Z 0, 6, .inl (fun j => nI (kd j)))), (aa, .inl (Z 0, 6, .inl (fun j => nI (ag j)))), (ma, .inl (Z 0, 6, .inl (fun j => nI (ml j)))), (ta, .inl (Z 0, 8, .inl (fun j => nI (tp j)))), (qa, .inl (Z 2, 8, .inl (fun j => bI (qu j))))]) (lv2 := [(0, .ref h), (1, .int (nI p0)), (2, .int (nI p1)), (3, .int (nI p2))]) (st2 := [.int (bI false)]) (rfl) (rfl) (st_c (vi_c (show nI 0 = bI false from rfl)) (rfl)) ?_
          exact G_iret dX2_addRelative_27 rfl rfl ⟨rfl, rfl⟩
theorem cs_X2_addSaying : CS yX2_addSaying wsX2_addSaying cX2_addSaying 3 (some .boolean) 2 := ⟨⟨_, rfl⟩, by decide +kernel, by decide +kernel, by decide +kernel⟩
theorem fl_X2_addSaying_21 : Cond.fieldLink RX2 21 (TX2 3).1 (TX2 3).2.1 (TX2 3).2.2.1 ∈ wsX2_addSaying := by decide +kernel
theorem fl_X2_addSaying_24 : Cond.fieldLink RX2 24 (TX2 4).1 (TX2 4).2.1 (TX2 4).2.2.1 ∈ wsX2_addSaying := by decide +kernel
theorem fl_X2_addSaying_32 : Cond.fieldLink RX2 32 (TX2 6).1 (TX2 6).2.1 (TX2 6).2.2.1 ∈ wsX2_addSaying := by decide +kernel
theorem in_X2_addSaying_X2 : ∀ w ∈ u_ws RX2 TX2 9, w ∈ wsX2_addSaying := by decide +kernel
set_option maxHeartbeats 4000000 in
set_option maxRecDepth 100000 in
theorem ct_X2_addSaying_ok (Z : Nat → ClassId) (h : Nat) (ka : Nat) (aa : Nat) (ma : Nat) (ta : Nat) (qa : Nat) (kd : Nat → Nat) (ag : Nat → Nat) (ml : Nat → Nat) (tp : Nat → Nat) (qu : Nat → Bool) (n : Nat) (k : Nat) (deed : Nat) (hint : Nat) (p0 : Nat) (p1 : Nat) (hk : k ≤ 8) (h0 : p0 < 1000) (h1 : p1 < 1000) (hc : k < 8 ∧ p0 < 64 ∧ p1 ≤ 1): Ct false yX2_addSaying wsX2_addSaying ({ frames := 0, cells := 0, slots := 0, locals := 0 }) [.ref h, .int (nI p0), .int (nI p1)] Z [(h, .inr (2, [.ref ka, .ref aa, .ref ma, .ref ta, .ref qa, .int (nI n), .int (nI k), .int (nI deed), .int (nI hint)])), (ka, .inl (Z 0, 6, .inl (fun j => nI (kd j)))), (aa, .inl (Z 0, 6, .inl (fun j => nI (ag j)))), (ma, .inl (Z 0, 6, .inl (fun j => nI (ml j)))), (ta, .inl (Z 0, 8, .inl (fun j => nI (tp j)))), (qa, .inl (Z 2, 8, .inl (fun j => bI (qu j))))] (rI (bI true) [(h, .inr (2, [.ref ka, .ref aa, .ref ma, .ref ta, .ref qa, .int (nI n), .int (nI (k + 1)), .int (nI deed), .int (nI hint)])), (ka, .inl (Z 0, 6, .inl (fun j => nI (kd j)))), (aa, .inl (Z 0, 6, .inl (fun j => nI (ag j)))), (ma, .inl (Z 0, 6, .inl (fun j => nI (ml j)))), (ta, .inl (Z 0, 8, .inl (fun j => nI ((updN tp k p0) j)))), (qa, .inl (Z 2, 8, .inl (fun j => bI ((updB qu k (decide (p1 = 1))) j))))]) 0 0 := by
  refine Ct_of (cc := cX2_addSaying) (maxL := 3) (ret := (some .boolean)) (own := RX2) false false (by decide +kernel) rfl rfl (by decide) (fun v w h => by rw [h.1]; exact ⟨_, rfl, bI_01 _⟩) (Nat.le_of_ble_eq_true rfl) (fun X => ?_)
  show GG X _ _ _ _ _ _ _ _ _ _ _ _ _ _ [(0, .ref h), (1, .int (nI p0)), (2, .int (nI p1))] _ _
  refine G_aload_n (q := 1) dX2_addSaying_0 rfl 0 rfl rfl ?_
  refine G_get (q := 4) dX2_addSaying_1 0 rfl (show vwCl[2]? = some (RX2, TX2, 9) from rfl) 6 (by decide) in_X2_addSaying_X2 fl_X2_addSaying_32 rfl rfl ?_
  refine G_bipush (v := nI 8) (q := 6) dX2_addSaying_4 (by decide) rfl ?_
  refine G_icmp_geN (tgt := 20) (q := 9) dX2_addSaying_6 (by decide) rfl (by omega) (by omega) (fun c6 => ?_) (fun c6 => ?_)
  · exfalso; omega
  · refine G_iload_n (q := 10) dX2_addSaying_9 rfl 1 rfl rfl ?_
    refine G_bipush (v := nI 64) (q := 12) dX2_addSaying_10 (by decide) rfl ?_
    refine G_icmp_geN (tgt := 20) (q := 15) dX2_addSaying_12 (by decide) rfl (by omega) (by omega) (fun c12 => ?_) (fun c12 => ?_)
    · exfalso; omega
    · refine G_iload_n (q := 16) dX2_addSaying_15 rfl 2 rfl rfl ?_
      refine G_iconst (v := nI 1) (q := 17) dX2_addSaying_16 (by decide) rfl ?_
      refine G_icmp_leN (tgt := 22) (q := 20) dX2_addSaying_17 (by decide) rfl (by omega) (by omega) (fun c17 => ?_) (fun c17 => ?_)
      · refine G_aload_n (q := 23) dX2_addSaying_22 rfl 0 rfl rfl ?_
        refine G_get (q := 26) dX2_addSaying_23 0 rfl (show vwCl[2]? = some (RX2, TX2, 9) from rfl) 3 (by decide) in_X2_addSaying_X2 fl_X2_addSaying_21 rfl rfl ?_
        refine G_aload_n (q := 27) dX2_addSaying_26 rfl 0 rfl rfl ?_
        refine G_get (q := 30) dX2_addSaying_27 0 rfl (show vwCl[2]? = some (RX2, TX2, 9) from rfl) 6 (by decide) in_X2_addSaying_X2 fl_X2_addSaying_32 rfl rfl ?_
        refine G_iload_n (q := 31) dX2_addSaying_30 rfl 1 rfl rfl ?_
        refine G_iast (ws2 := [(h, .inr (2, [.ref ka, .ref aa, .ref ma, .ref ta, .ref qa, .int (nI n), .int (nI k), .int (nI deed), .int (nI hint)])), (ka, .inl (Z 0, 6, .inl (fun j => nI (kd j)))), (aa, .inl (Z 0, 6, .inl (fun j => nI (ag j)))), (ma, .inl (Z 0, 6, .inl (fun j => nI (ml j)))), (ta, .inl (Z 0, 8, .inl (upd (fun j => nI (tp j)) k (nI p0)))), (qa, .inl (Z 2, 8, .inl (fun j => bI (qu j))))]) (q := 32) dX2_addSaying_31 4 rfl k (rfl) (by omega) (by omega) rfl rfl ?_
        refine GG.of (ws2 := [(h, .inr (2, [.ref ka, .ref aa, .ref ma, .ref ta, .ref qa, .int (nI n), .int (nI k), .int (nI deed), .int (nI hint)])), (ka, .inl (Z 0, 6, .inl (fun j => nI (kd j)))), (aa, .inl (Z 0, 6, .inl (fun j => nI (ag j)))), (ma, .inl (Z 0, 6, .inl (fun j => nI (ml j)))), (ta, .inl (Z 0, 8, .inl (fun j => nI ((updN tp k p0) j)))), (qa, .inl (Z 2, 8, .inl (fun j => bI (qu j))))]) (ws_c (rfl) (ws_c (rfl) (ws_c (rfl) (ws_c (rfl) (ws_c (cell_i (updN_eq _ _ _)) (ws_c (rfl) (rfl))))))) rfl rfl ?_
        refine G_aload_n (q := 33) dX2_addSaying_32 rfl 0 rfl rfl ?_
        refine G_get (q := 36) dX2_addSaying_33 0 rfl (show vwCl[2]? = some (RX2, TX2, 9) from rfl) 4 (by decide) in_X2_addSaying_X2 fl_X2_addSaying_24 rfl rfl ?_
        refine G_aload_n (q := 37) dX2_addSaying_36 rfl 0 rfl rfl ?_
        refine G_get (q := 40) dX2_addSaying_37 0 rfl (show vwCl[2]? = some (RX2, TX2, 9) from rfl) 6 (by decide) in_X2_addSaying_X2 fl_X2_addSaying_32 rfl rfl ?_
        refine G_iload_n (q := 41) dX2_addSaying_40 rfl 2 rfl rfl ?_
        refine G_iconst (v := nI 1) (q := 42) dX2_addSaying_41 (by decide) rfl ?_
        have J50_1 : GG X ({ frames := 0, cells := 0, slots := 0, locals := 0 }) cX2_addSaying 3 wsX2_addSaying RX2 false false Z (rI (bI true) [(h, .inr (2, [.ref ka, .ref aa, .ref ma, .ref ta, .ref qa, .int (nI n), .int (nI (k + 1)), .int (nI deed), .int (nI hint)])), (ka, .inl (Z 0, 6, .inl (fun j => nI (kd j)))), (aa, .inl (Z 0, 6, .inl (fun j => nI (ag j)))), (ma, .inl (Z 0, 6, .inl (fun j => nI (ml j)))), (ta, .inl (Z 0, 8, .inl (fun j => nI ((updN tp k p0) j)))), (qa, .inl (Z 2, 8, .inl (fun j => bI ((updB qu k (decide (p1 = 1))) j))))]) 0 0 0 0 [(h, .inr (2, [.ref ka, .ref aa, .ref ma, .ref ta, .ref qa, .int (nI n), .int (nI k), .int (nI deed), .int (nI hint)])), (ka, .inl (Z 0, 6, .inl (fun j => nI (kd j)))), (aa, .inl (Z 0, 6, .inl (fun j => nI (ag j)))), (ma, .inl (Z 0, 6, .inl (fun j => nI (ml j)))), (ta, .inl (Z 0, 8, .inl (fun j => nI ((updN tp k p0) j)))), (qa, .inl (Z 2, 8, .inl (fun j => bI (qu j))))] [(0, .ref h), (1, .int (nI p0)), (2, .int (nI p1))] [.int (bI (decide (p1 = 1))), .int (nI k), .ref qa] 50 := by
          refine G_zast (ws2 := [(h, .inr (2, [.ref ka, .ref aa, .ref ma, .ref ta, .ref qa, .int (nI n), .int (nI k), .int (nI deed), .int (nI hint)])), (ka, .inl (Z 0, 6, .inl (fun j => nI (kd j)))), (aa, .inl (Z 0, 6, .inl (fun j => nI (ag j)))), (ma, .inl (Z 0, 6, .inl (fun j => nI (ml j)))), (ta, .inl (Z 0, 8, .inl (fun j => nI ((updN tp k p0) j)))), (qa, .inl (Z 2, 8, .inl (upd (fun j => bI (qu j)) k (bI (decide (p1 = 1))))))]) (q := 51) dX2_addSaying_50 5 rfl k (rfl) (by omega) (by omega) (bI_nar _) rfl rfl ?_
          refine GG.of (ws2 := [(h, .inr (2, [.ref ka, .ref aa, .ref ma, .ref ta, .ref qa, .int (nI n), .int (nI k), .int (nI deed), .int (nI hint)])), (ka, .inl (Z 0, 6, .inl (fun j => nI (kd j)))), (aa, .inl (Z 0, 6, .inl (fun j => nI (ag j)))), (ma, .inl (Z 0, 6, .inl (fun j => nI (ml j)))), (ta, .inl (Z 0, 8, .inl (fun j => nI ((updN tp k p0) j)))), (qa, .inl (Z 2, 8, .inl (fun j => bI ((updB qu k (decide (p1 = 1))) j))))]) (ws_c (rfl) (ws_c (rfl) (ws_c (rfl) (ws_c (rfl) (ws_c (rfl) (ws_c (cell_i (updB_eq _ _ _)) (rfl))))))) rfl rfl ?_
          refine G_aload_n (q := 52) dX2_addSaying_51 rfl 0 rfl rfl ?_
          refine G_dup (q := 53) dX2_addSaying_52 rfl rfl ?_
          refine G_get (q := 56) dX2_addSaying_53 0 rfl (show vwCl[2]? = some (RX2, TX2, 9) from rfl) 6 (by decide) in_X2_addSaying_X2 fl_X2_addSaying_32 rfl rfl ?_
          refine G_iconst (v := nI 1) (q := 57) dX2_addSaying_56 (by decide) rfl ?_
          refine G_iaddN (a := k) (b := 1) (q := 58) dX2_addSaying_57 rfl ?_
          refine G_put (ws2 := [(h, .inr (2, [.ref ka, .ref aa, .ref ma, .ref ta, .ref qa, .int (nI n), .int (nI (k + 1)), .int (nI deed), .int (nI hint)])), (ka, .inl (Z 0, 6, .inl (fun j => nI (kd j)))), (aa, .inl (Z 0, 6, .inl (fun j => nI (ag j)))), (ma, .inl (Z 0, 6, .inl (fun j => nI (ml j)))), (ta, .inl (Z 0, 8, .inl (fun j => nI ((updN tp k p0) j)))), (qa, .inl (Z 2, 8, .inl (fun j => bI ((updB qu k (decide (p1 = 1))) j))))]) (q := 61) dX2_addSaying_58 0 rfl (show vwCl[2]? = some (RX2, TX2, 9) from rfl) cf_X2 6 (by decide) in_X2_addSaying_X2 fl_X2_addSaying_32 rfl (rfl) rfl (by simp only [List.length_cons, List.length_nil]; decide) rfl rfl ?_
          refine G_iconst (v := nI 1) (q := 62) dX2_addSaying_61 (by decide) rfl ?_
          refine GG.of (ws2 := [(h, .inr (2, [.ref ka, .ref aa, .ref ma, .ref ta, .ref qa, .int (nI n), .int (nI (k + 1)), .int (nI deed), .int (nI hint)])), (ka, .inl (Z 0, 6, .inl (fun j => nI (kd j)))), (aa, .inl (Z 0, 6, .inl (fun j => nI (ag j)))), (ma, .inl (Z 0, 6, .inl (fun j => nI (ml j)))), (ta, .inl (Z 0, 8, .inl (fun j => nI ((updN tp k p0) j)))), (qa, .inl (Z 2, 8, .inl (fun j => bI ((updB qu k (decide (p1 = 1))) j))))]) (lv2 := [(0, .ref h), (1, .int (nI p0)), (2, .int (nI p1))]) (st2 := [.int (bI true)]) (rfl) (rfl) (st_c (vi_c (show nI 1 = bI true from rfl)) (rfl)) ?_
          exact G_iret dX2_addSaying_62 rfl rfl ⟨rfl, rfl⟩
        refine G_icmp_neN (tgt := 49) (q := 45) dX2_addSaying_42 (by decide) rfl (by omega) (by omega) (fun c42 => ?_) (fun c42 => ?_)
        · refine G_iconst (v := nI 0) (q := 50) dX2_addSaying_49 (by decide) rfl ?_
          refine GG.of (ws2 := [(h, .inr (2, [.ref ka, .ref aa, .ref ma, .ref ta, .ref qa, .int (nI n), .int (nI k), .int (nI deed), .int (nI hint)])), (ka, .inl (Z 0, 6, .inl (fun j => nI (kd j)))), (aa, .inl (Z 0, 6, .inl (fun j => nI (ag j)))), (ma, .inl (Z 0, 6, .inl (fun j => nI (ml j)))), (ta, .inl (Z 0, 8, .inl (fun j => nI ((updN tp k p0) j)))), (qa, .inl (Z 2, 8, .inl (fun j => bI (qu j))))]) (lv2 := [(0, .ref h), (1, .int (nI p0)), (2, .int (nI p1))]) (st2 := [.int (bI (decide (p1 = 1))), .int (nI k), .ref qa]) (rfl) (rfl) (st_c (vi_c (show nI 0 = bI (decide (p1 = 1)) from by simp [bI_true, bI_false, c6, c12, c17, c42])) (st_c rfl (st_c rfl (rfl)))) ?_
          exact J50_1
        · refine G_iconst (v := nI 1) (q := 46) dX2_addSaying_45 (by decide) rfl ?_
          refine G_goto (q := 50) dX2_addSaying_46 (by decide) ?_
          refine GG.of (ws2 := [(h, .inr (2, [.ref ka, .ref aa, .ref ma, .ref ta, .ref qa, .int (nI n), .int (nI k), .int (nI deed), .int (nI hint)])), (ka, .inl (Z 0, 6, .inl (fun j => nI (kd j)))), (aa, .inl (Z 0, 6, .inl (fun j => nI (ag j)))), (ma, .inl (Z 0, 6, .inl (fun j => nI (ml j)))), (ta, .inl (Z 0, 8, .inl (fun j => nI ((updN tp k p0) j)))), (qa, .inl (Z 2, 8, .inl (fun j => bI (qu j))))]) (lv2 := [(0, .ref h), (1, .int (nI p0)), (2, .int (nI p1))]) (st2 := [.int (bI (decide (p1 = 1))), .int (nI k), .ref qa]) (rfl) (rfl) (st_c (vi_c (show nI 1 = bI (decide (p1 = 1)) from by simp [bI_true, bI_false, c6, c12, c17, c42])) (st_c rfl (st_c rfl (rfl)))) ?_
          exact J50_1
      · exfalso; omega
set_option maxHeartbeats 4000000 in
set_option maxRecDepth 100000 in
theorem ct_X2_addSaying_bad (Z : Nat → ClassId) (h : Nat) (ka : Nat) (aa : Nat) (ma : Nat) (ta : Nat) (qa : Nat) (kd : Nat → Nat) (ag : Nat → Nat) (ml : Nat → Nat) (tp : Nat → Nat) (qu : Nat → Bool) (n : Nat) (k : Nat) (deed : Nat) (hint : Nat) (p0 : Nat) (p1 : Nat) (hk : k ≤ 8) (h0 : p0 < 1000) (h1 : p1 < 1000) (hc : ¬ (k < 8 ∧ p0 < 64 ∧ p1 ≤ 1)): Ct false yX2_addSaying wsX2_addSaying ({ frames := 0, cells := 0, slots := 0, locals := 0 }) [.ref h, .int (nI p0), .int (nI p1)] Z [(h, .inr (2, [.ref ka, .ref aa, .ref ma, .ref ta, .ref qa, .int (nI n), .int (nI k), .int (nI deed), .int (nI hint)])), (ka, .inl (Z 0, 6, .inl (fun j => nI (kd j)))), (aa, .inl (Z 0, 6, .inl (fun j => nI (ag j)))), (ma, .inl (Z 0, 6, .inl (fun j => nI (ml j)))), (ta, .inl (Z 0, 8, .inl (fun j => nI (tp j)))), (qa, .inl (Z 2, 8, .inl (fun j => bI (qu j))))] (rI (bI false) [(h, .inr (2, [.ref ka, .ref aa, .ref ma, .ref ta, .ref qa, .int (nI n), .int (nI k), .int (nI deed), .int (nI hint)])), (ka, .inl (Z 0, 6, .inl (fun j => nI (kd j)))), (aa, .inl (Z 0, 6, .inl (fun j => nI (ag j)))), (ma, .inl (Z 0, 6, .inl (fun j => nI (ml j)))), (ta, .inl (Z 0, 8, .inl (fun j => nI (tp j)))), (qa, .inl (Z 2, 8, .inl (fun j => bI (qu j))))]) 0 0 := by
  refine Ct_of (cc := cX2_addSaying) (maxL := 3) (ret := (some .boolean)) (own := RX2) false false (by decide +kernel) rfl rfl (by decide) (fun v w h => by rw [h.1]; exact ⟨_, rfl, bI_01 _⟩) (Nat.le_of_ble_eq_true rfl) (fun X => ?_)
  show GG X _ _ _ _ _ _ _ _ _ _ _ _ _ _ [(0, .ref h), (1, .int (nI p0)), (2, .int (nI p1))] _ _
  refine G_aload_n (q := 1) dX2_addSaying_0 rfl 0 rfl rfl ?_
  refine G_get (q := 4) dX2_addSaying_1 0 rfl (show vwCl[2]? = some (RX2, TX2, 9) from rfl) 6 (by decide) in_X2_addSaying_X2 fl_X2_addSaying_32 rfl rfl ?_
  refine G_bipush (v := nI 8) (q := 6) dX2_addSaying_4 (by decide) rfl ?_
  refine G_icmp_geN (tgt := 20) (q := 9) dX2_addSaying_6 (by decide) rfl (by omega) (by omega) (fun c6 => ?_) (fun c6 => ?_)
  · refine G_iconst (v := nI 0) (q := 21) dX2_addSaying_20 (by decide) rfl ?_
    refine GG.of (ws2 := [(h, .inr (2, [.ref ka, .ref aa, .ref ma, .ref ta, .ref qa, .int (nI n), .int (nI k), .int (nI deed), .int (nI hint)])), (ka, .inl (Z 0, 6, .inl (fun j => nI (kd j)))), (aa, .inl (Z 0, 6, .inl (fun j => nI (ag j)))), (ma, .inl (Z 0, 6, .inl (fun j => nI (ml j)))), (ta, .inl (Z 0, 8, .inl (fun j => nI (tp j)))), (qa, .inl (Z 2, 8, .inl (fun j => bI (qu j))))]) (lv2 := [(0, .ref h), (1, .int (nI p0)), (2, .int (nI p1))]) (st2 := [.int (bI false)]) (rfl) (rfl) (st_c (vi_c (show nI 0 = bI false from rfl)) (rfl)) ?_
    exact G_iret dX2_addSaying_21 rfl rfl ⟨rfl, rfl⟩
  · refine G_iload_n (q := 10) dX2_addSaying_9 rfl 1 rfl rfl ?_
    refine G_bipush (v := nI 64) (q := 12) dX2_addSaying_10 (by decide) rfl ?_
    refine G_icmp_geN (tgt := 20) (q := 15) dX2_addSaying_12 (by decide) rfl (by omega) (by omega) (fun c12 => ?_) (fun c12 => ?_)
    · refine G_iconst (v := nI 0) (q := 21) dX2_addSaying_20 (by decide) rfl ?_
      refine GG.of (ws2 := [(h, .inr (2, [.ref ka, .ref aa, .ref ma, .ref ta, .ref qa, .int (nI n), .int (nI k), .int (nI deed), .int (nI hint)])), (ka, .inl (Z 0, 6, .inl (fun j => nI (kd j)))), (aa, .inl (Z 0, 6, .inl (fun j => nI (ag j)))), (ma, .inl (Z 0, 6, .inl (fun j => nI (ml j)))), (ta, .inl (Z 0, 8, .inl (fun j => nI (tp j)))), (qa, .inl (Z 2, 8, .inl (fun j => bI (qu j))))]) (lv2 := [(0, .ref h), (1, .int (nI p0)), (2, .int (nI p1))]) (st2 := [.int (bI false)]) (rfl) (rfl) (st_c (vi_c (show nI 0 = bI false from rfl)) (rfl)) ?_
      exact G_iret dX2_addSaying_21 rfl rfl ⟨rfl, rfl⟩
    · refine G_iload_n (q := 16) dX2_addSaying_15 rfl 2 rfl rfl ?_
      refine G_iconst (v := nI 1) (q := 17) dX2_addSaying_16 (by decide) rfl ?_
      refine G_icmp_leN (tgt := 22) (q := 20) dX2_addSaying_17 (by decide) rfl (by omega) (by omega) (fun c17 => ?_) (fun c17 => ?_)
      · exfalso; omega
      · refine G_iconst (v := nI 0) (q := 21) dX2_addSaying_20 (by decide) rfl ?_
        refine GG.of (ws2 := [(h, .inr (2, [.ref ka, .ref aa, .ref ma, .ref ta, .ref qa, .int (nI n), .int (nI k), .int (nI deed), .int (nI hint)])), (ka, .inl (Z 0, 6, .inl (fun j => nI (kd j)))), (aa, .inl (Z 0, 6, .inl (fun j => nI (ag j)))), (ma, .inl (Z 0, 6, .inl (fun j => nI (ml j)))), (ta, .inl (Z 0, 8, .inl (fun j => nI (tp j)))), (qa, .inl (Z 2, 8, .inl (fun j => bI (qu j))))]) (lv2 := [(0, .ref h), (1, .int (nI p0)), (2, .int (nI p1))]) (st2 := [.int (bI false)]) (rfl) (rfl) (st_c (vi_c (show nI 0 = bI false from rfl)) (rfl)) ?_
        exact G_iret dX2_addSaying_21 rfl rfl ⟨rfl, rfl⟩
theorem cs_X2_setDeed : CS yX2_setDeed wsX2_setDeed cX2_setDeed 2 (some .boolean) 1 := ⟨⟨_, rfl⟩, by decide +kernel, by decide +kernel, by decide +kernel⟩
theorem fl_X2_setDeed_35 : Cond.fieldLink RX2 35 (TX2 7).1 (TX2 7).2.1 (TX2 7).2.2.1 ∈ wsX2_setDeed := by decide +kernel
theorem in_X2_setDeed_X2 : ∀ w ∈ u_ws RX2 TX2 9, w ∈ wsX2_setDeed := by decide +kernel
set_option maxHeartbeats 4000000 in
set_option maxRecDepth 100000 in
theorem ct_X2_setDeed_ok (Z : Nat → ClassId) (h : Nat) (ka : Nat) (aa : Nat) (ma : Nat) (ta : Nat) (qa : Nat) (kd : Nat → Nat) (ag : Nat → Nat) (ml : Nat → Nat) (tp : Nat → Nat) (qu : Nat → Bool) (n : Nat) (k : Nat) (deed : Nat) (hint : Nat) (p0 : Nat) (hc : p0 < 64): Ct false yX2_setDeed wsX2_setDeed ({ frames := 0, cells := 0, slots := 0, locals := 0 }) [.ref h, .int (nI p0)] Z [(h, .inr (2, [.ref ka, .ref aa, .ref ma, .ref ta, .ref qa, .int (nI n), .int (nI k), .int (nI deed), .int (nI hint)])), (ka, .inl (Z 0, 6, .inl (fun j => nI (kd j)))), (aa, .inl (Z 0, 6, .inl (fun j => nI (ag j)))), (ma, .inl (Z 0, 6, .inl (fun j => nI (ml j)))), (ta, .inl (Z 0, 8, .inl (fun j => nI (tp j)))), (qa, .inl (Z 2, 8, .inl (fun j => bI (qu j))))] (rI (bI true) [(h, .inr (2, [.ref ka, .ref aa, .ref ma, .ref ta, .ref qa, .int (nI n), .int (nI k), .int (nI p0), .int (nI hint)])), (ka, .inl (Z 0, 6, .inl (fun j => nI (kd j)))), (aa, .inl (Z 0, 6, .inl (fun j => nI (ag j)))), (ma, .inl (Z 0, 6, .inl (fun j => nI (ml j)))), (ta, .inl (Z 0, 8, .inl (fun j => nI (tp j)))), (qa, .inl (Z 2, 8, .inl (fun j => bI (qu j))))]) 0 0 := by
  refine Ct_of (cc := cX2_setDeed) (maxL := 2) (ret := (some .boolean)) (own := RX2) false false (by decide +kernel) rfl rfl (by decide) (fun v w h => by rw [h.1]; exact ⟨_, rfl, bI_01 _⟩) (Nat.le_of_ble_eq_true rfl) (fun X => ?_)
  show GG X _ _ _ _ _ _ _ _ _ _ _ _ _ _ [(0, .ref h), (1, .int (nI p0))] _ _
  refine G_iload_n (q := 1) dX2_setDeed_0 rfl 1 rfl rfl ?_
  refine G_bipush (v := nI 64) (q := 3) dX2_setDeed_1 (by decide) rfl ?_
  refine G_icmp_ltN (tgt := 8) (q := 6) dX2_setDeed_3 (by decide) rfl (by omega) (by omega) (fun c3 => ?_) (fun c3 => ?_)
  · refine G_aload_n (q := 9) dX2_setDeed_8 rfl 0 rfl rfl ?_
    refine G_iload_n (q := 10) dX2_setDeed_9 rfl 1 rfl rfl ?_
    refine G_put (ws2 := [(h, .inr (2, [.ref ka, .ref aa, .ref ma, .ref ta, .ref qa, .int (nI n), .int (nI k), .int (nI p0), .int (nI hint)])), (ka, .inl (Z 0, 6, .inl (fun j => nI (kd j)))), (aa, .inl (Z 0, 6, .inl (fun j => nI (ag j)))), (ma, .inl (Z 0, 6, .inl (fun j => nI (ml j)))), (ta, .inl (Z 0, 8, .inl (fun j => nI (tp j)))), (qa, .inl (Z 2, 8, .inl (fun j => bI (qu j))))]) (q := 13) dX2_setDeed_10 0 rfl (show vwCl[2]? = some (RX2, TX2, 9) from rfl) cf_X2 7 (by decide) in_X2_setDeed_X2 fl_X2_setDeed_35 rfl (rfl) rfl (by simp only [List.length_cons, List.length_nil]; decide) rfl rfl ?_
    refine G_iconst (v := nI 1) (q := 14) dX2_setDeed_13 (by decide) rfl ?_
    refine GG.of (ws2 := [(h, .inr (2, [.ref ka, .ref aa, .ref ma, .ref ta, .ref qa, .int (nI n), .int (nI k), .int (nI p0), .int (nI hint)])), (ka, .inl (Z 0, 6, .inl (fun j => nI (kd j)))), (aa, .inl (Z 0, 6, .inl (fun j => nI (ag j)))), (ma, .inl (Z 0, 6, .inl (fun j => nI (ml j)))), (ta, .inl (Z 0, 8, .inl (fun j => nI (tp j)))), (qa, .inl (Z 2, 8, .inl (fun j => bI (qu j))))]) (lv2 := [(0, .ref h), (1, .int (nI p0))]) (st2 := [.int (bI true)]) (rfl) (rfl) (st_c (vi_c (show nI 1 = bI true from rfl)) (rfl)) ?_
    exact G_iret dX2_setDeed_14 rfl rfl ⟨rfl, rfl⟩
  · exfalso; omega
set_option maxHeartbeats 4000000 in
set_option maxRecDepth 100000 in
theorem ct_X2_setDeed_bad (Z : Nat → ClassId) (h : Nat) (ka : Nat) (aa : Nat) (ma : Nat) (ta : Nat) (qa : Nat) (kd : Nat → Nat) (ag : Nat → Nat) (ml : Nat → Nat) (tp : Nat → Nat) (qu : Nat → Bool) (n : Nat) (k : Nat) (deed : Nat) (hint : Nat) (p0 : Nat) (h0 : p0 < 1000) (hc : ¬ p0 < 64): Ct false yX2_setDeed wsX2_setDeed ({ frames := 0, cells := 0, slots := 0, locals := 0 }) [.ref h, .int (nI p0)] Z [(h, .inr (2, [.ref ka, .ref aa, .ref ma, .ref ta, .ref qa, .int (nI n), .int (nI k), .int (nI deed), .int (nI hint)])), (ka, .inl (Z 0, 6, .inl (fun j => nI (kd j)))), (aa, .inl (Z 0, 6, .inl (fun j => nI (ag j)))), (ma, .inl (Z 0, 6, .inl (fun j => nI (ml j)))), (ta, .inl (Z 0, 8, .inl (fun j => nI (tp j)))), (qa, .inl (Z 2, 8, .inl (fun j => bI (qu j))))] (rI (bI false) [(h, .inr (2, [.ref ka, .ref aa, .ref ma, .ref ta, .ref qa, .int (nI n), .int (nI k), .int (nI deed), .int (nI hint)])), (ka, .inl (Z 0, 6, .inl (fun j => nI (kd j)))), (aa, .inl (Z 0, 6, .inl (fun j => nI (ag j)))), (ma, .inl (Z 0, 6, .inl (fun j => nI (ml j)))), (ta, .inl (Z 0, 8, .inl (fun j => nI (tp j)))), (qa, .inl (Z 2, 8, .inl (fun j => bI (qu j))))]) 0 0 := by
  refine Ct_of (cc := cX2_setDeed) (maxL := 2) (ret := (some .boolean)) (own := RX2) false false (by decide +kernel) rfl rfl (by decide) (fun v w h => by rw [h.1]; exact ⟨_, rfl, bI_01 _⟩) (Nat.le_of_ble_eq_true rfl) (fun X => ?_)
  show GG X _ _ _ _ _ _ _ _ _ _ _ _ _ _ [(0, .ref h), (1, .int (nI p0))] _ _
  refine G_iload_n (q := 1) dX2_setDeed_0 rfl 1 rfl rfl ?_
  refine G_bipush (v := nI 64) (q := 3) dX2_setDeed_1 (by decide) rfl ?_
  refine G_icmp_ltN (tgt := 8) (q := 6) dX2_setDeed_3 (by decide) rfl (by omega) (by omega) (fun c3 => ?_) (fun c3 => ?_)
  · exfalso; omega
  · refine G_iconst (v := nI 0) (q := 7) dX2_setDeed_6 (by decide) rfl ?_
    refine GG.of (ws2 := [(h, .inr (2, [.ref ka, .ref aa, .ref ma, .ref ta, .ref qa, .int (nI n), .int (nI k), .int (nI deed), .int (nI hint)])), (ka, .inl (Z 0, 6, .inl (fun j => nI (kd j)))), (aa, .inl (Z 0, 6, .inl (fun j => nI (ag j)))), (ma, .inl (Z 0, 6, .inl (fun j => nI (ml j)))), (ta, .inl (Z 0, 8, .inl (fun j => nI (tp j)))), (qa, .inl (Z 2, 8, .inl (fun j => bI (qu j))))]) (lv2 := [(0, .ref h), (1, .int (nI p0))]) (st2 := [.int (bI false)]) (rfl) (rfl) (st_c (vi_c (show nI 0 = bI false from rfl)) (rfl)) ?_
    exact G_iret dX2_setDeed_7 rfl rfl ⟨rfl, rfl⟩
theorem cs_X2_setHint : CS yX2_setHint wsX2_setHint cX2_setHint 2 (some .boolean) 1 := ⟨⟨_, rfl⟩, by decide +kernel, by decide +kernel, by decide +kernel⟩
theorem fl_X2_setHint_38 : Cond.fieldLink RX2 38 (TX2 8).1 (TX2 8).2.1 (TX2 8).2.2.1 ∈ wsX2_setHint := by decide +kernel
theorem in_X2_setHint_X2 : ∀ w ∈ u_ws RX2 TX2 9, w ∈ wsX2_setHint := by decide +kernel
set_option maxHeartbeats 4000000 in
set_option maxRecDepth 100000 in
theorem ct_X2_setHint_ok (Z : Nat → ClassId) (h : Nat) (ka : Nat) (aa : Nat) (ma : Nat) (ta : Nat) (qa : Nat) (kd : Nat → Nat) (ag : Nat → Nat) (ml : Nat → Nat) (tp : Nat → Nat) (qu : Nat → Bool) (n : Nat) (k : Nat) (deed : Nat) (hint : Nat) (p0 : Nat) (hc : 1 ≤ p0 ∧ p0 ≤ 6): Ct false yX2_setHint wsX2_setHint ({ frames := 0, cells := 0, slots := 0, locals := 0 }) [.ref h, .int (nI p0)] Z [(h, .inr (2, [.ref ka, .ref aa, .ref ma, .ref ta, .ref qa, .int (nI n), .int (nI k), .int (nI deed), .int (nI hint)])), (ka, .inl (Z 0, 6, .inl (fun j => nI (kd j)))), (aa, .inl (Z 0, 6, .inl (fun j => nI (ag j)))), (ma, .inl (Z 0, 6, .inl (fun j => nI (ml j)))), (ta, .inl (Z 0, 8, .inl (fun j => nI (tp j)))), (qa, .inl (Z 2, 8, .inl (fun j => bI (qu j))))] (rI (bI true) [(h, .inr (2, [.ref ka, .ref aa, .ref ma, .ref ta, .ref qa, .int (nI n), .int (nI k), .int (nI deed), .int (nI p0)])), (ka, .inl (Z 0, 6, .inl (fun j => nI (kd j)))), (aa, .inl (Z 0, 6, .inl (fun j => nI (ag j)))), (ma, .inl (Z 0, 6, .inl (fun j => nI (ml j)))), (ta, .inl (Z 0, 8, .inl (fun j => nI (tp j)))), (qa, .inl (Z 2, 8, .inl (fun j => bI (qu j))))]) 0 0 := by
  refine Ct_of (cc := cX2_setHint) (maxL := 2) (ret := (some .boolean)) (own := RX2) false false (by decide +kernel) rfl rfl (by decide) (fun v w h => by rw [h.1]; exact ⟨_, rfl, bI_01 _⟩) (Nat.le_of_ble_eq_true rfl) (fun X => ?_)
  show GG X _ _ _ _ _ _ _ _ _ _ _ _ _ _ [(0, .ref h), (1, .int (nI p0))] _ _
  refine G_iload_n (q := 1) dX2_setHint_0 rfl 1 rfl rfl ?_
  refine G_iconst (v := nI 1) (q := 2) dX2_setHint_1 (by decide) rfl ?_
  refine G_icmp_ltN (tgt := 11) (q := 5) dX2_setHint_2 (by decide) rfl (by omega) (by omega) (fun c2 => ?_) (fun c2 => ?_)
  · exfalso; omega
  · refine G_iload_n (q := 6) dX2_setHint_5 rfl 1 rfl rfl ?_
    refine G_bipush (v := nI 6) (q := 8) dX2_setHint_6 (by decide) rfl ?_
    refine G_icmp_leN (tgt := 13) (q := 11) dX2_setHint_8 (by decide) rfl (by omega) (by omega) (fun c8 => ?_) (fun c8 => ?_)
    · refine G_aload_n (q := 14) dX2_setHint_13 rfl 0 rfl rfl ?_
      refine G_iload_n (q := 15) dX2_setHint_14 rfl 1 rfl rfl ?_
      refine G_put (ws2 := [(h, .inr (2, [.ref ka, .ref aa, .ref ma, .ref ta, .ref qa, .int (nI n), .int (nI k), .int (nI deed), .int (nI p0)])), (ka, .inl (Z 0, 6, .inl (fun j => nI (kd j)))), (aa, .inl (Z 0, 6, .inl (fun j => nI (ag j)))), (ma, .inl (Z 0, 6, .inl (fun j => nI (ml j)))), (ta, .inl (Z 0, 8, .inl (fun j => nI (tp j)))), (qa, .inl (Z 2, 8, .inl (fun j => bI (qu j))))]) (q := 18) dX2_setHint_15 0 rfl (show vwCl[2]? = some (RX2, TX2, 9) from rfl) cf_X2 8 (by decide) in_X2_setHint_X2 fl_X2_setHint_38 rfl (rfl) rfl (by simp only [List.length_cons, List.length_nil]; decide) rfl rfl ?_
      refine G_iconst (v := nI 1) (q := 19) dX2_setHint_18 (by decide) rfl ?_
      refine GG.of (ws2 := [(h, .inr (2, [.ref ka, .ref aa, .ref ma, .ref ta, .ref qa, .int (nI n), .int (nI k), .int (nI deed), .int (nI p0)])), (ka, .inl (Z 0, 6, .inl (fun j => nI (kd j)))), (aa, .inl (Z 0, 6, .inl (fun j => nI (ag j)))), (ma, .inl (Z 0, 6, .inl (fun j => nI (ml j)))), (ta, .inl (Z 0, 8, .inl (fun j => nI (tp j)))), (qa, .inl (Z 2, 8, .inl (fun j => bI (qu j))))]) (lv2 := [(0, .ref h), (1, .int (nI p0))]) (st2 := [.int (bI true)]) (rfl) (rfl) (st_c (vi_c (show nI 1 = bI true from rfl)) (rfl)) ?_
      exact G_iret dX2_setHint_19 rfl rfl ⟨rfl, rfl⟩
    · exfalso; omega
set_option maxHeartbeats 4000000 in
set_option maxRecDepth 100000 in
theorem ct_X2_setHint_bad (Z : Nat → ClassId) (h : Nat) (ka : Nat) (aa : Nat) (ma : Nat) (ta : Nat) (qa : Nat) (kd : Nat → Nat) (ag : Nat → Nat) (ml : Nat → Nat) (tp : Nat → Nat) (qu : Nat → Bool) (n : Nat) (k : Nat) (deed : Nat) (hint : Nat) (p0 : Nat) (h0 : p0 < 1000) (hc : ¬ (1 ≤ p0 ∧ p0 ≤ 6)): Ct false yX2_setHint wsX2_setHint ({ frames := 0, cells := 0, slots := 0, locals := 0 }) [.ref h, .int (nI p0)] Z [(h, .inr (2, [.ref ka, .ref aa, .ref ma, .ref ta, .ref qa, .int (nI n), .int (nI k), .int (nI deed), .int (nI hint)])), (ka, .inl (Z 0, 6, .inl (fun j => nI (kd j)))), (aa, .inl (Z 0, 6, .inl (fun j => nI (ag j)))), (ma, .inl (Z 0, 6, .inl (fun j => nI (ml j)))), (ta, .inl (Z 0, 8, .inl (fun j => nI (tp j)))), (qa, .inl (Z 2, 8, .inl (fun j => bI (qu j))))] (rI (bI false) [(h, .inr (2, [.ref ka, .ref aa, .ref ma, .ref ta, .ref qa, .int (nI n), .int (nI k), .int (nI deed), .int (nI hint)])), (ka, .inl (Z 0, 6, .inl (fun j => nI (kd j)))), (aa, .inl (Z 0, 6, .inl (fun j => nI (ag j)))), (ma, .inl (Z 0, 6, .inl (fun j => nI (ml j)))), (ta, .inl (Z 0, 8, .inl (fun j => nI (tp j)))), (qa, .inl (Z 2, 8, .inl (fun j => bI (qu j))))]) 0 0 := by
  refine Ct_of (cc := cX2_setHint) (maxL := 2) (ret := (some .boolean)) (own := RX2) false false (by decide +kernel) rfl rfl (by decide) (fun v w h => by rw [h.1]; exact ⟨_, rfl, bI_01 _⟩) (Nat.le_of_ble_eq_true rfl) (fun X => ?_)
  show GG X _ _ _ _ _ _ _ _ _ _ _ _ _ _ [(0, .ref h), (1, .int (nI p0))] _ _
  refine G_iload_n (q := 1) dX2_setHint_0 rfl 1 rfl rfl ?_
  refine G_iconst (v := nI 1) (q := 2) dX2_setHint_1 (by decide) rfl ?_
  refine G_icmp_ltN (tgt := 11) (q := 5) dX2_setHint_2 (by decide) rfl (by omega) (by omega) (fun c2 => ?_) (fun c2 => ?_)
  · refine G_iconst (v := nI 0) (q := 12) dX2_setHint_11 (by decide) rfl ?_
    refine GG.of (ws2 := [(h, .inr (2, [.ref ka, .ref aa, .ref ma, .ref ta, .ref qa, .int (nI n), .int (nI k), .int (nI deed), .int (nI hint)])), (ka, .inl (Z 0, 6, .inl (fun j => nI (kd j)))), (aa, .inl (Z 0, 6, .inl (fun j => nI (ag j)))), (ma, .inl (Z 0, 6, .inl (fun j => nI (ml j)))), (ta, .inl (Z 0, 8, .inl (fun j => nI (tp j)))), (qa, .inl (Z 2, 8, .inl (fun j => bI (qu j))))]) (lv2 := [(0, .ref h), (1, .int (nI p0))]) (st2 := [.int (bI false)]) (rfl) (rfl) (st_c (vi_c (show nI 0 = bI false from rfl)) (rfl)) ?_
    exact G_iret dX2_setHint_12 rfl rfl ⟨rfl, rfl⟩
  · refine G_iload_n (q := 6) dX2_setHint_5 rfl 1 rfl rfl ?_
    refine G_bipush (v := nI 6) (q := 8) dX2_setHint_6 (by decide) rfl ?_
    refine G_icmp_leN (tgt := 13) (q := 11) dX2_setHint_8 (by decide) rfl (by omega) (by omega) (fun c8 => ?_) (fun c8 => ?_)
    · exfalso; omega
    · refine G_iconst (v := nI 0) (q := 12) dX2_setHint_11 (by decide) rfl ?_
      refine GG.of (ws2 := [(h, .inr (2, [.ref ka, .ref aa, .ref ma, .ref ta, .ref qa, .int (nI n), .int (nI k), .int (nI deed), .int (nI hint)])), (ka, .inl (Z 0, 6, .inl (fun j => nI (kd j)))), (aa, .inl (Z 0, 6, .inl (fun j => nI (ag j)))), (ma, .inl (Z 0, 6, .inl (fun j => nI (ml j)))), (ta, .inl (Z 0, 8, .inl (fun j => nI (tp j)))), (qa, .inl (Z 2, 8, .inl (fun j => bI (qu j))))]) (lv2 := [(0, .ref h), (1, .int (nI p0))]) (st2 := [.int (bI false)]) (rfl) (rfl) (st_c (vi_c (show nI 0 = bI false from rfl)) (rfl)) ?_
      exact G_iret dX2_setHint_12 rfl rfl ⟨rfl, rfl⟩
theorem cs_X2_isEnough : CS yX2_isEnough wsX2_isEnough cX2_isEnough 1 (some .boolean) 0 := ⟨⟨_, rfl⟩, by decide +kernel, by decide +kernel, by decide +kernel⟩
theorem fl_X2_isEnough_28 : Cond.fieldLink RX2 28 (TX2 5).1 (TX2 5).2.1 (TX2 5).2.2.1 ∈ wsX2_isEnough := by decide +kernel
theorem fl_X2_isEnough_32 : Cond.fieldLink RX2 32 (TX2 6).1 (TX2 6).2.1 (TX2 6).2.2.1 ∈ wsX2_isEnough := by decide +kernel
theorem in_X2_isEnough_X2 : ∀ w ∈ u_ws RX2 TX2 9, w ∈ wsX2_isEnough := by decide +kernel
set_option maxHeartbeats 4000000 in
set_option maxRecDepth 100000 in
theorem ct_X2_isEnough (Z : Nat → ClassId) (h : Nat) (ka : Nat) (aa : Nat) (ma : Nat) (ta : Nat) (qa : Nat) (kd : Nat → Nat) (ag : Nat → Nat) (ml : Nat → Nat) (tp : Nat → Nat) (qu : Nat → Bool) (n : Nat) (k : Nat) (deed : Nat) (hint : Nat) (hn : n ≤ 6) (hk : k ≤ 8): Ct false yX2_isEnough wsX2_isEnough ({ frames := 0, cells := 0, slots := 0, locals := 0 }) [.ref h] Z [(h, .inr (2, [.ref ka, .ref aa, .ref ma, .ref ta, .ref qa, .int (nI n), .int (nI k), .int (nI deed), .int (nI hint)])), (ka, .inl (Z 0, 6, .inl (fun j => nI (kd j)))), (aa, .inl (Z 0, 6, .inl (fun j => nI (ag j)))), (ma, .inl (Z 0, 6, .inl (fun j => nI (ml j)))), (ta, .inl (Z 0, 8, .inl (fun j => nI (tp j)))), (qa, .inl (Z 2, 8, .inl (fun j => bI (qu j))))] (rI (bI (decide (2 ≤ n ∧ 1 ≤ k))) [(h, .inr (2, [.ref ka, .ref aa, .ref ma, .ref ta, .ref qa, .int (nI n), .int (nI k), .int (nI deed), .int (nI hint)])), (ka, .inl (Z 0, 6, .inl (fun j => nI (kd j)))), (aa, .inl (Z 0, 6, .inl (fun j => nI (ag j)))), (ma, .inl (Z 0, 6, .inl (fun j => nI (ml j)))), (ta, .inl (Z 0, 8, .inl (fun j => nI (tp j)))), (qa, .inl (Z 2, 8, .inl (fun j => bI (qu j))))]) 0 0 := by
  refine Ct_of (cc := cX2_isEnough) (maxL := 1) (ret := (some .boolean)) (own := RX2) false false (by decide +kernel) rfl rfl (by decide) (fun v w h => by rw [h.1]; exact ⟨_, rfl, bI_01 _⟩) (Nat.le_of_ble_eq_true rfl) (fun X => ?_)
  show GG X _ _ _ _ _ _ _ _ _ _ _ _ _ _ [(0, .ref h)] _ _
  refine G_aload_n (q := 1) dX2_isEnough_0 rfl 0 rfl rfl ?_
  refine G_get (q := 4) dX2_isEnough_1 0 rfl (show vwCl[2]? = some (RX2, TX2, 9) from rfl) 5 (by decide) in_X2_isEnough_X2 fl_X2_isEnough_28 rfl rfl ?_
  refine G_iconst (v := nI 2) (q := 5) dX2_isEnough_4 (by decide) rfl ?_
  have J21_1 : GG X ({ frames := 0, cells := 0, slots := 0, locals := 0 }) cX2_isEnough 1 wsX2_isEnough RX2 false false Z (rI (bI (decide (2 ≤ n ∧ 1 ≤ k))) [(h, .inr (2, [.ref ka, .ref aa, .ref ma, .ref ta, .ref qa, .int (nI n), .int (nI k), .int (nI deed), .int (nI hint)])), (ka, .inl (Z 0, 6, .inl (fun j => nI (kd j)))), (aa, .inl (Z 0, 6, .inl (fun j => nI (ag j)))), (ma, .inl (Z 0, 6, .inl (fun j => nI (ml j)))), (ta, .inl (Z 0, 8, .inl (fun j => nI (tp j)))), (qa, .inl (Z 2, 8, .inl (fun j => bI (qu j))))]) 0 0 0 0 [(h, .inr (2, [.ref ka, .ref aa, .ref ma, .ref ta, .ref qa, .int (nI n), .int (nI k), .int (nI deed), .int (nI hint)])), (ka, .inl (Z 0, 6, .inl (fun j => nI (kd j)))), (aa, .inl (Z 0, 6, .inl (fun j => nI (ag j)))), (ma, .inl (Z 0, 6, .inl (fun j => nI (ml j)))), (ta, .inl (Z 0, 8, .inl (fun j => nI (tp j)))), (qa, .inl (Z 2, 8, .inl (fun j => bI (qu j))))] [(0, .ref h)] [.int (bI (decide (2 ≤ n ∧ 1 ≤ k)))] 21 := by
    exact G_iret dX2_isEnough_21 rfl rfl ⟨rfl, rfl⟩
  refine G_icmp_ltN (tgt := 20) (q := 8) dX2_isEnough_5 (by decide) rfl (by omega) (by omega) (fun c5 => ?_) (fun c5 => ?_)
  · refine G_iconst (v := nI 0) (q := 21) dX2_isEnough_20 (by decide) rfl ?_
    refine GG.of (ws2 := [(h, .inr (2, [.ref ka, .ref aa, .ref ma, .ref ta, .ref qa, .int (nI n), .int (nI k), .int (nI deed), .int (nI hint)])), (ka, .inl (Z 0, 6, .inl (fun j => nI (kd j)))), (aa, .inl (Z 0, 6, .inl (fun j => nI (ag j)))), (ma, .inl (Z 0, 6, .inl (fun j => nI (ml j)))), (ta, .inl (Z 0, 8, .inl (fun j => nI (tp j)))), (qa, .inl (Z 2, 8, .inl (fun j => bI (qu j))))]) (lv2 := [(0, .ref h)]) (st2 := [.int (bI (decide (2 ≤ n ∧ 1 ≤ k)))]) (rfl) (rfl) (st_c (vi_c (show nI 0 = bI (decide (2 ≤ n ∧ 1 ≤ k)) from by first | exact (bI_t (decide_eq_true ⟨c5, c13⟩)).symm | exact (bI_f (decide_eq_false (fun z => by omega))).symm)) (rfl)) ?_
    exact J21_1
  · refine G_aload_n (q := 9) dX2_isEnough_8 rfl 0 rfl rfl ?_
    refine G_get (q := 12) dX2_isEnough_9 0 rfl (show vwCl[2]? = some (RX2, TX2, 9) from rfl) 6 (by decide) in_X2_isEnough_X2 fl_X2_isEnough_32 rfl rfl ?_
    refine G_iconst (v := nI 1) (q := 13) dX2_isEnough_12 (by decide) rfl ?_
    refine G_icmp_ltN (tgt := 20) (q := 16) dX2_isEnough_13 (by decide) rfl (by omega) (by omega) (fun c13 => ?_) (fun c13 => ?_)
    · refine G_iconst (v := nI 0) (q := 21) dX2_isEnough_20 (by decide) rfl ?_
      refine GG.of (ws2 := [(h, .inr (2, [.ref ka, .ref aa, .ref ma, .ref ta, .ref qa, .int (nI n), .int (nI k), .int (nI deed), .int (nI hint)])), (ka, .inl (Z 0, 6, .inl (fun j => nI (kd j)))), (aa, .inl (Z 0, 6, .inl (fun j => nI (ag j)))), (ma, .inl (Z 0, 6, .inl (fun j => nI (ml j)))), (ta, .inl (Z 0, 8, .inl (fun j => nI (tp j)))), (qa, .inl (Z 2, 8, .inl (fun j => bI (qu j))))]) (lv2 := [(0, .ref h)]) (st2 := [.int (bI (decide (2 ≤ n ∧ 1 ≤ k)))]) (rfl) (rfl) (st_c (vi_c (show nI 0 = bI (decide (2 ≤ n ∧ 1 ≤ k)) from by first | exact (bI_t (decide_eq_true ⟨c5, c13⟩)).symm | exact (bI_f (decide_eq_false (fun z => by omega))).symm)) (rfl)) ?_
      exact J21_1
    · refine G_iconst (v := nI 1) (q := 17) dX2_isEnough_16 (by decide) rfl ?_
      refine G_goto (q := 21) dX2_isEnough_17 (by decide) ?_
      refine GG.of (ws2 := [(h, .inr (2, [.ref ka, .ref aa, .ref ma, .ref ta, .ref qa, .int (nI n), .int (nI k), .int (nI deed), .int (nI hint)])), (ka, .inl (Z 0, 6, .inl (fun j => nI (kd j)))), (aa, .inl (Z 0, 6, .inl (fun j => nI (ag j)))), (ma, .inl (Z 0, 6, .inl (fun j => nI (ml j)))), (ta, .inl (Z 0, 8, .inl (fun j => nI (tp j)))), (qa, .inl (Z 2, 8, .inl (fun j => bI (qu j))))]) (lv2 := [(0, .ref h)]) (st2 := [.int (bI (decide (2 ≤ n ∧ 1 ≤ k)))]) (rfl) (rfl) (st_c (vi_c (show nI 1 = bI (decide (2 ≤ n ∧ 1 ≤ k)) from by first | exact (bI_t (decide_eq_true ⟨c5, c13⟩)).symm | exact (bI_f (decide_eq_false (fun z => by omega))).symm)) (rfl)) ?_
      exact J21_1
set_option maxHeartbeats 4000000 in
set_option maxRecDepth 100000 in
theorem ct_X2_ago_out (Z : Nat → ClassId) (h : Nat) (ka : Nat) (aa : Nat) (ma : Nat) (ta : Nat) (qa : Nat) (kd : Nat → Nat) (ag : Nat → Nat) (ml : Nat → Nat) (tp : Nat → Nat) (qu : Nat → Bool) (n : Nat) (k : Nat) (deed : Nat) (hint : Nat) (j : Nat) (hn : n ≤ 6) (hj : ¬ j < n) (hj6 : j < 6): Ct false yX2_ago wsX2_ago ({ frames := 1, cells := 0, slots := 0, locals := 21 }) [.ref h, .int (nI j)] Z [(h, .inr (2, [.ref ka, .ref aa, .ref ma, .ref ta, .ref qa, .int (nI n), .int (nI k), .int (nI deed), .int (nI hint)])), (ka, .inl (Z 0, 6, .inl (fun j => nI (kd j)))), (aa, .inl (Z 0, 6, .inl (fun j => nI (ag j)))), (ma, .inl (Z 0, 6, .inl (fun j => nI (ml j)))), (ta, .inl (Z 0, 8, .inl (fun j => nI (tp j)))), (qa, .inl (Z 2, 8, .inl (fun j => bI (qu j))))] (rI (nI 0) [(h, .inr (2, [.ref ka, .ref aa, .ref ma, .ref ta, .ref qa, .int (nI n), .int (nI k), .int (nI deed), .int (nI hint)])), (ka, .inl (Z 0, 6, .inl (fun j => nI (kd j)))), (aa, .inl (Z 0, 6, .inl (fun j => nI (ag j)))), (ma, .inl (Z 0, 6, .inl (fun j => nI (ml j)))), (ta, .inl (Z 0, 8, .inl (fun j => nI (tp j)))), (qa, .inl (Z 2, 8, .inl (fun j => bI (qu j))))]) 0 0 := by
  refine Ct_of (cc := cX2_ago) (maxL := 2) (ret := (some .int)) (own := RX2) false false (by decide +kernel) rfl rfl (by decide) (fun v w h => by rw [h.1]; exact ⟨_, rfl, rfl⟩) (Nat.le_of_ble_eq_true rfl) (fun X => ?_)
  show GG X _ _ _ _ _ _ _ _ _ _ _ _ _ _ [(0, .ref h), (1, .int (nI j))] _ _
  refine G_aload_n (q := 1) dX2_ago_0 rfl 0 rfl rfl ?_
  refine G_iload_n (q := 2) dX2_ago_1 rfl 1 rfl rfl ?_
  refine G_callVP (As := [.int (nI j)]) (rest := []) (st2 := [.int (bI false)]) (q := 5) dX2_ago_2 [0, 1, 2, 3, 4, 5] (ct_X2_hasRelative_bad Z h ka aa ma ta qa kd ag ml tp qu n k deed hint (nI j) (by omega) (fun i hi e => absurd ((nI_eq (by omega) (by omega)).mp e) (by omega))) (fun h => h) cs_X2_hasRelative gX2_ago_X2_hasRelative rfl ⟨Nat.le_of_ble_eq_true rfl, Nat.le_of_ble_eq_true rfl⟩ ⟨rfl, rfl⟩ 0 rfl (show vwCl[2]? = some (RX2, TX2, 9) from rfl) rfl (by decide) rfl rfl (Nat.le_of_ble_eq_true rfl) ⟨by decide, by decide⟩ rfl rfl ?_
  refine G_if_eqT (tgt := 17) dX2_ago_5 (by decide) (by decide) ?_
  refine G_iconst (v := nI 0) (q := 18) dX2_ago_17 (by decide) rfl ?_
  exact G_iret dX2_ago_18 rfl rfl ⟨rfl, rfl⟩
