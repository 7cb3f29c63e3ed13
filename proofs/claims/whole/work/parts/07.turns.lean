
theorem sh5 {i : Nat} (h : i < 6) : 1 <<< i ≤ 32 := by
  rw [Nat.one_shiftLeft]
  have h9 : 2 ^ i ≤ 2 ^ 5 := Nat.pow_le_pow_right (by decide) (by omega)
  omega
theorem rk_le (ow : Int32) (c : Nat) : rkN ow c ≤ 2 := by
  unfold rkN
  split
  · exact Nat.le_refl _
  · split <;> omega
theorem tst_t {way nd many : Nat} {f : Nat → Int32} {n dy : Nat} {ak : Bool} {ow : Int32} {k : Nat} (h : (way >>> (nd - 1 - k)) &&& 1 = 1) : tst way nd many f n dy ak ow (k + 1) = (upd (tst way nd many f n dy ak ow k).1 (k % many) (nI (dy + k)), false, nI (hbw (agoF (nI (dy + k)) (upd (tst way nd many f n dy ak ow k).1 (k % many) (nI (dy + k)))) n 0)) := by
  rw [tst]; simp [h]
theorem tst_f {way nd many : Nat} {f : Nat → Int32} {n dy : Nat} {ak : Bool} {ow : Int32} {k : Nat} (h : ¬ (way >>> (nd - 1 - k)) &&& 1 = 1) : tst way nd many f n dy ak ow (k + 1) = ((tst way nd many f n dy ak ow k).1, false, if (tst way nd many f n dy ak ow k).2.1 = true then nI (hbw (agoF (nI (dy + k)) (tst way nd many f n dy ak ow k).1) n 0) else (tst way nd many f n dy ak ow k).2.2) := by
  simp only [tst, decide_eq_false h, Bool.or_false, Bool.false_eq_true, if_false]
theorem chs_1 (c : Nat) (e : Nat → Int32) (w : Nat) : (chs c e (w + 1)).1 = upd (chs c e w).1 w (if decide (rkN ((chs c e w).1 (2 * w)) c < rkN ((chs c e w).1 (2 * w + 1)) c) = true then (chs c e w).1 (2 * w + 1) else (chs c e w).1 (2 * w)) := rfl
theorem chs_2 (c : Nat) (e : Nat → Int32) (w : Nat) : (chs c e (w + 1)).2 = some (decide (rkN ((chs c e w).1 (2 * w)) c < rkN ((chs c e w).1 (2 * w + 1)) c)) := rfl
theorem max1 {n : Nat} (hn : n < 2147483648) (h : 0 < n) : (if nI 1 < nI n then nI n else nI 1) = nI n := by
  by_cases h1 : 1 < n
  · rw [if_pos ((nI_ltI (by decide) hn).mpr h1)]
  · rw [show n = 1 by omega]; rfl
theorem chs_some (c : Nat) (e : Nat → Int32) : ∀ {w : Nat}, 0 < w → ∃ b, (chs c e w).2 = some b
  | w + 1, _ => ⟨_, rfl⟩
theorem getD_any {c : Nat} {e : Nat → Int32} {w : Nat} (h : 0 < w) (a b : Bool) : ((chs c e w).2).getD a = ((chs c e w).2).getD b := by
  obtain ⟨x, hx⟩ := chs_some c e h
  rw [hx]; rfl
theorem chD_2 (nd many : Nat) (e : Nat → Int32) (t : Nat) : (chD nd many e (t + 1)).2 = ((chs ((nd - 1 - t) % many) (chD nd many e t).1 (1 <<< (nd - 1 - t))).2).getD (chD nd many e t).2 := rfl
theorem shp (i : Nat) : 0 < 1 <<< i := by rw [Nat.one_shiftLeft]; exact Nat.pow_pos (by decide)

theorem cs_X7_owner : CS yX7_owner wsX7_owner cX7_owner 1 (some .int) 0 := ⟨⟨_, rfl⟩, by decide +kernel, by decide +kernel, by decide +kernel⟩
theorem fl_X7_owner_9 : Cond.fieldLink RX7 9 (TX7 0).1 (TX7 0).2.1 (TX7 0).2.2.1 ∈ wsX7_owner := by decide +kernel
theorem in_X7_owner_X7 : ∀ w ∈ u_ws RX7 TX7 3, w ∈ wsX7_owner := by decide +kernel
set_option maxHeartbeats 4000000 in
set_option maxRecDepth 100000 in
theorem ct_X7_owner (Z : Nat → ClassId) (u : Nat) (e : Nat) (tr : Nat) (ra : Nat) (en : Nat → Int32) (fa : Bool) (rf : Nat → Int32) (rn : Nat) (rd : Int32) (rk : Bool) (ro : Int32) : Ct false yX7_owner wsX7_owner ({ frames := 0, cells := 0, slots := 0, locals := 0 }) [.ref u] Z [(u, .inr (7, [.ref e, .ref tr, .int (bI fa)])), (e, .inl (Z 0, 64, .inl en)), (tr, .inr (6, [.ref ra, .int (nI rn), .int rd, .int (bI rk), .int ro])), (ra, .inl (Z 0, 6, .inl rf))] (rI (en 0) [(u, .inr (7, [.ref e, .ref tr, .int (bI fa)])), (e, .inl (Z 0, 64, .inl en)), (tr, .inr (6, [.ref ra, .int (nI rn), .int rd, .int (bI rk), .int ro])), (ra, .inl (Z 0, 6, .inl rf))]) 0 0 := by
  refine Ct_of (cc := cX7_owner) (maxL := 1) (ret := (some .int)) (own := RX7) false false (by decide +kernel) rfl rfl (by decide) (fun v w h => by rw [h.1]; exact ⟨_, rfl, rfl⟩) (Nat.le_of_ble_eq_true rfl) (fun X => ?_)
  show GG X _ _ _ _ _ _ _ _ _ _ _ _ _ _ [(0, .ref u)] _ _
  refine G_aload_n (q := 1) dX7_owner_0 rfl 0 rfl rfl ?_
  refine G_get (q := 4) dX7_owner_1 0 rfl (show vwCl[7]? = some (RX7, TX7, 3) from rfl) 0 (by decide) in_X7_owner_X7 fl_X7_owner_9 rfl rfl ?_
  refine G_iconst (v := nI 0) (q := 5) dX7_owner_4 (by decide) rfl ?_
  refine G_iald (q := 6) dX7_owner_5 1 rfl 0 (rfl) (by omega) (by omega) rfl ?_
  exact G_iret dX7_owner_6 rfl rfl ⟨rfl, rfl⟩
theorem cs_X7_firstAsks : CS yX7_firstAsks wsX7_firstAsks cX7_firstAsks 1 (some .boolean) 0 := ⟨⟨_, rfl⟩, by decide +kernel, by decide +kernel, by decide +kernel⟩
theorem fl_X7_firstAsks_22 : Cond.fieldLink RX7 22 (TX7 2).1 (TX7 2).2.1 (TX7 2).2.2.1 ∈ wsX7_firstAsks := by decide +kernel
theorem in_X7_firstAsks_X7 : ∀ w ∈ u_ws RX7 TX7 3, w ∈ wsX7_firstAsks := by decide +kernel
set_option maxHeartbeats 4000000 in
set_option maxRecDepth 100000 in
theorem ct_X7_firstAsks (Z : Nat → ClassId) (u : Nat) (e : Nat) (tr : Nat) (ra : Nat) (en : Nat → Int32) (fa : Bool) (rf : Nat → Int32) (rn : Nat) (rd : Int32) (rk : Bool) (ro : Int32) : Ct false yX7_firstAsks wsX7_firstAsks ({ frames := 0, cells := 0, slots := 0, locals := 0 }) [.ref u] Z [(u, .inr (7, [.ref e, .ref tr, .int (bI fa)])), (e, .inl (Z 0, 64, .inl en)), (tr, .inr (6, [.ref ra, .int (nI rn), .int rd, .int (bI rk), .int ro])), (ra, .inl (Z 0, 6, .inl rf))] (rI (bI fa) [(u, .inr (7, [.ref e, .ref tr, .int (bI fa)])), (e, .inl (Z 0, 64, .inl en)), (tr, .inr (6, [.ref ra, .int (nI rn), .int rd, .int (bI rk), .int ro])), (ra, .inl (Z 0, 6, .inl rf))]) 0 0 := by
  refine Ct_of (cc := cX7_firstAsks) (maxL := 1) (ret := (some .boolean)) (own := RX7) false false (by decide +kernel) rfl rfl (by decide) (fun v w h => by rw [h.1]; exact ⟨_, rfl, bI_01 _⟩) (Nat.le_of_ble_eq_true rfl) (fun X => ?_)
  show GG X _ _ _ _ _ _ _ _ _ _ _ _ _ _ [(0, .ref u)] _ _
  refine G_aload_n (q := 1) dX7_firstAsks_0 rfl 0 rfl rfl ?_
  refine G_get (q := 4) dX7_firstAsks_1 0 rfl (show vwCl[7]? = some (RX7, TX7, 3) from rfl) 2 (by decide) in_X7_firstAsks_X7 fl_X7_firstAsks_22 rfl rfl ?_
  exact G_iret dX7_firstAsks_4 rfl rfl ⟨rfl, rfl⟩
theorem cs_X7_rank : CS yX7_rank wsX7_rank cX7_rank 3 (some .int) 2 := ⟨⟨_, rfl⟩, by decide +kernel, by decide +kernel, by decide +kernel⟩
set_option maxHeartbeats 4000000 in
set_option maxRecDepth 100000 in
theorem ct_X7_rank (Z : Nat → ClassId) (u : Nat) (e : Nat) (tr : Nat) (ra : Nat) (en : Nat → Int32) (fa : Bool) (rf : Nat → Int32) (rn : Nat) (rd : Int32) (rk : Bool) (ro : Int32) (ow : Int32) (c : Nat) : Ct false yX7_rank wsX7_rank ({ frames := 0, cells := 0, slots := 0, locals := 0 }) [.ref u, .int ow, .int (nI c)] Z [(u, .inr (7, [.ref e, .ref tr, .int (bI fa)])), (e, .inl (Z 0, 64, .inl en)), (tr, .inr (6, [.ref ra, .int (nI rn), .int rd, .int (bI rk), .int ro])), (ra, .inl (Z 0, 6, .inl rf))] (rI (nI (rkN ow c)) [(u, .inr (7, [.ref e, .ref tr, .int (bI fa)])), (e, .inl (Z 0, 64, .inl en)), (tr, .inr (6, [.ref ra, .int (nI rn), .int rd, .int (bI rk), .int ro])), (ra, .inl (Z 0, 6, .inl rf))]) 0 0 := by
  refine Ct_of (cc := cX7_rank) (maxL := 3) (ret := (some .int)) (own := RX7) false false (by decide +kernel) rfl rfl (by decide) (fun v w h => by rw [h.1]; exact ⟨_, rfl, rfl⟩) (Nat.le_of_ble_eq_true rfl) (fun X => ?_)
  show GG X _ _ _ _ _ _ _ _ _ _ _ _ _ _ [(0, .ref u), (1, .int ow), (2, .int (nI c))] _ _
  refine G_iload_n (q := 1) dX7_rank_0 rfl 1 rfl rfl ?_
  refine G_iload_n (q := 2) dX7_rank_1 rfl 2 rfl rfl ?_
  have hr9 : ∀ (h1 : ¬ ow = nI c) (h2 : ow = -4 ∨ ¬ ow ≤ nI c), nI 1 = nI (rkN ow c) := fun h1 h2 => by rw [rkN, if_neg h1, if_pos h2]
  have hr8 : ∀ (h1 : ¬ ow = nI c) (h2 : ¬ (ow = -4 ∨ ¬ ow ≤ nI c)), nI 0 = nI (rkN ow c) := fun h1 h2 => by rw [rkN, if_neg h1, if_neg h2]
  refine G_icmp_ne (tgt := 7) (q := 5) dX7_rank_2 (by decide) rfl (fun c2 => ?_) (fun c2 => ?_)
  · refine G_iload_n (q := 8) dX7_rank_7 rfl 1 rfl rfl ?_
    refine G_bipush (v := -4) (q := 10) dX7_rank_8 (by decide) rfl ?_
    refine G_icmp_eq (tgt := 18) (q := 13) dX7_rank_10 (by decide) rfl (fun c10 => ?_) (fun c10 => ?_)
    · refine G_iconst (v := nI 1) (q := 19) dX7_rank_18 (by decide) rfl ?_
      refine G_goto (q := 23) dX7_rank_19 (by decide) ?_
      refine GG.of (ws2 := [(u, .inr (7, [.ref e, .ref tr, .int (bI fa)])), (e, .inl (Z 0, 64, .inl en)), (tr, .inr (6, [.ref ra, .int (nI rn), .int rd, .int (bI rk), .int ro])), (ra, .inl (Z 0, 6, .inl rf))]) (lv2 := [(0, .ref u), (1, .int ow), (2, .int (nI c))]) (st2 := [.int (nI (rkN ow c))]) (rfl) (rfl) (st_c (vi_c (show nI 1 = nI (rkN ow c) from by first | exact hr9 c2 (Or.inl c10) | exact hr9 c2 (Or.inr c15) | exact hr8 c2 (fun z => z.elim c10 (fun y => y c15)))) (rfl)) ?_
      exact G_iret dX7_rank_23 rfl rfl ⟨rfl, rfl⟩
    · refine G_iload_n (q := 14) dX7_rank_13 rfl 1 rfl rfl ?_
      refine G_iload_n (q := 15) dX7_rank_14 rfl 2 rfl rfl ?_
      refine G_icmp_le (tgt := 22) (q := 18) dX7_rank_15 (by decide) rfl (fun c15 => ?_) (fun c15 => ?_)
      · refine G_iconst (v := nI 0) (q := 23) dX7_rank_22 (by decide) rfl ?_
        refine GG.of (ws2 := [(u, .inr (7, [.ref e, .ref tr, .int (bI fa)])), (e, .inl (Z 0, 64, .inl en)), (tr, .inr (6, [.ref ra, .int (nI rn), .int rd, .int (bI rk), .int ro])), (ra, .inl (Z 0, 6, .inl rf))]) (lv2 := [(0, .ref u), (1, .int ow), (2, .int (nI c))]) (st2 := [.int (nI (rkN ow c))]) (rfl) (rfl) (st_c (vi_c (show nI 0 = nI (rkN ow c) from by first | exact hr9 c2 (Or.inl c10) | exact hr9 c2 (Or.inr c15) | exact hr8 c2 (fun z => z.elim c10 (fun y => y c15)))) (rfl)) ?_
        exact G_iret dX7_rank_23 rfl rfl ⟨rfl, rfl⟩
      · refine G_iconst (v := nI 1) (q := 19) dX7_rank_18 (by decide) rfl ?_
        refine G_goto (q := 23) dX7_rank_19 (by decide) ?_
        refine GG.of (ws2 := [(u, .inr (7, [.ref e, .ref tr, .int (bI fa)])), (e, .inl (Z 0, 64, .inl en)), (tr, .inr (6, [.ref ra, .int (nI rn), .int rd, .int (bI rk), .int ro])), (ra, .inl (Z 0, 6, .inl rf))]) (lv2 := [(0, .ref u), (1, .int ow), (2, .int (nI c))]) (st2 := [.int (nI (rkN ow c))]) (rfl) (rfl) (st_c (vi_c (show nI 1 = nI (rkN ow c) from by first | exact hr9 c2 (Or.inl c10) | exact hr9 c2 (Or.inr c15) | exact hr8 c2 (fun z => z.elim c10 (fun y => y c15)))) (rfl)) ?_
        exact G_iret dX7_rank_23 rfl rfl ⟨rfl, rfl⟩
  · refine G_iconst (v := nI 2) (q := 6) dX7_rank_5 (by decide) rfl ?_
    refine GG.of (ws2 := [(u, .inr (7, [.ref e, .ref tr, .int (bI fa)])), (e, .inl (Z 0, 64, .inl en)), (tr, .inr (6, [.ref ra, .int (nI rn), .int rd, .int (bI rk), .int ro])), (ra, .inl (Z 0, 6, .inl rf))]) (lv2 := [(0, .ref u), (1, .int ow), (2, .int (nI c))]) (st2 := [.int (nI (rkN ow c))]) (rfl) (rfl) (st_c (vi_c (show nI 2 = nI (rkN ow c) from by rw [rkN, if_pos c2])) (rfl)) ?_
    exact G_iret dX7_rank_6 rfl rfl ⟨rfl, rfl⟩
theorem cs_X7_endOf : CS yX7_endOf wsX7_endOf cX7_endOf 6 (some .int) 4 := ⟨⟨_, rfl⟩, by decide +kernel, by decide +kernel, by decide +kernel⟩
theorem fl_X7_endOf_18 : Cond.fieldLink RX7 18 (TX7 1).1 (TX7 1).2.1 (TX7 1).2.2.1 ∈ wsX7_endOf := by decide +kernel
theorem in_X7_endOf_X7 : ∀ w ∈ u_ws RX7 TX7 3, w ∈ wsX7_endOf := by decide +kernel
set_option maxHeartbeats 4000000 in
set_option maxRecDepth 100000 in
theorem ct_X7_endOf (Z : Nat → ClassId) (u : Nat) (e : Nat) (tr : Nat) (ra : Nat) (en : Nat → Int32) (fa : Bool) (rf : Nat → Int32) (rn : Nat) (rd : Int32) (rk : Bool) (ro : Int32) (o : Nat) (oa : Nat) (f : Nat → Int32) (n : Nat) (dy : Nat) (ak : Bool) (ow : Int32) (way : Nat) (nd : Nat) (many : Nat) (hn : n ≤ 6) (hw : way < 64) (hnd : nd ≤ 6 ∧ 0 < nd) (hm : many ≤ n ∧ 0 < many): Ct false yX7_endOf wsX7_endOf ({ frames := 3, cells := 0, slots := 0, locals := 66 }) [.ref u, .int (nI way), .ref o, .int (nI nd), .int (nI many)] Z [(u, .inr (7, [.ref e, .ref tr, .int (bI fa)])), (e, .inl (Z 0, 64, .inl en)), (tr, .inr (6, [.ref ra, .int (nI rn), .int rd, .int (bI rk), .int ro])), (ra, .inl (Z 0, 6, .inl rf)), (o, .inr (6, [.ref oa, .int (nI n), .int (nI dy), .int (bI ak), .int ow])), (oa, .inl (Z 0, 6, .inl f))] (rI (endW way nd many f n dy ak ow) [(u, .inr (7, [.ref e, .ref tr, .int (bI fa)])), (e, .inl (Z 0, 64, .inl en)), (tr, .inr (6, [.ref ra, .int (nI n), .int (nI (dy + nd)), .int (bI ((tst way nd many f n dy ak ow nd).2.1)), .int ((tst way nd many f n dy ak ow nd).2.2)])), (ra, .inl (Z 0, 6, .inl ((tst way nd many f n dy ak ow nd).1))), (o, .inr (6, [.ref oa, .int (nI n), .int (nI dy), .int (bI ak), .int ow])), (oa, .inl (Z 0, 6, .inl f))]) 0 0 := by
  refine Ct_of (cc := cX7_endOf) (maxL := 6) (ret := (some .int)) (own := RX7) false false (by decide +kernel) rfl rfl (by decide) (fun v w h => by rw [h.1]; exact ⟨_, rfl, rfl⟩) (Nat.le_of_ble_eq_true rfl) (fun X => ?_)
  show GG X _ _ _ _ _ _ _ _ _ _ _ _ _ _ [(0, .ref u), (1, .int (nI way)), (2, .ref o), (3, .int (nI nd)), (4, .int (nI many))] _ _
  refine G_aload_n (q := 1) dX7_endOf_0 rfl 0 rfl rfl ?_
  refine G_get (q := 4) dX7_endOf_1 0 rfl (show vwCl[7]? = some (RX7, TX7, 3) from rfl) 1 (by decide) in_X7_endOf_X7 fl_X7_endOf_18 rfl rfl ?_
  refine G_aload_n (q := 5) dX7_endOf_4 rfl 2 rfl rfl ?_
  refine G_callVX (As := [.ref o]) (rest := []) (st2 := []) (ws2 := [(u, .inr (7, [.ref e, .ref tr, .int (bI fa)])), (e, .inl (Z 0, 64, .inl en)), (tr, .inr (6, [.ref ra, .int (nI n), .int (nI dy), .int (bI ak), .int ow])), (ra, .inl (Z 0, 6, .inl f)), (o, .inr (6, [.ref oa, .int (nI n), .int (nI dy), .int (bI ak), .int ow])), (oa, .inl (Z 0, 6, .inl f))]) (q := 8) dX7_endOf_5 [2, 3, 4, 5] (ct_X6_copy Z tr ra rf rn rd rk ro o oa f n (nI dy) ak ow) (fun h => h) cs_X6_copy gX7_endOf_X6_copy rfl ⟨Nat.le_of_ble_eq_true rfl, Nat.le_of_ble_eq_true rfl⟩ ⟨rfl, rfl⟩ 2 rfl (show vwCl[6]? = some (RX6, TX6, 5) from rfl) rfl (by decide) rfl rfl (Nat.le_of_ble_eq_true rfl) ⟨by decide, by decide⟩ rfl rfl rfl rfl ?_
  refine G_iconst (v := nI 0) (q := 9) dX7_endOf_8 (by decide) rfl ?_
  refine G_istore (lv2 := [(0, .ref u), (1, .int (nI way)), (2, .ref o), (3, .int (nI nd)), (4, .int (nI many)), (5, .int (nI 0))]) (q := 11) dX7_endOf_9 (by decide) rfl rfl ?_
  have L11_1 : ∀ fu1 kk : Nat, kk ≤ nd → nd + 1 ≤ kk + fu1 → GG X ({ frames := 3, cells := 0, slots := 0, locals := 66 }) cX7_endOf 6 wsX7_endOf RX7 false false Z (rI (endW way nd many f n dy ak ow) [(u, .inr (7, [.ref e, .ref tr, .int (bI fa)])), (e, .inl (Z 0, 64, .inl en)), (tr, .inr (6, [.ref ra, .int (nI n), .int (nI (dy + nd)), .int (bI ((tst way nd many f n dy ak ow nd).2.1)), .int ((tst way nd many f n dy ak ow nd).2.2)])), (ra, .inl (Z 0, 6, .inl ((tst way nd many f n dy ak ow nd).1))), (o, .inr (6, [.ref oa, .int (nI n), .int (nI dy), .int (bI ak), .int ow])), (oa, .inl (Z 0, 6, .inl f))]) 0 0 0 0 [(u, .inr (7, [.ref e, .ref tr, .int (bI fa)])), (e, .inl (Z 0, 64, .inl en)), (tr, .inr (6, [.ref ra, .int (nI n), .int (nI (dy + kk)), .int (bI ((tst way nd many f n dy ak ow kk).2.1)), .int ((tst way nd many f n dy ak ow kk).2.2)])), (ra, .inl (Z 0, 6, .inl ((tst way nd many f n dy ak ow kk).1))), (o, .inr (6, [.ref oa, .int (nI n), .int (nI dy), .int (bI ak), .int ow])), (oa, .inl (Z 0, 6, .inl f))] [(0, .ref u), (1, .int (nI way)), (2, .ref o), (3, .int (nI nd)), (4, .int (nI many)), (5, .int (nI kk))] [] 11 := by
    intro fu1
    induction fu1 with
    | zero => intro kk q1 q2; exact absurd q2 (by omega)
    | succ fu1 ih1 =>
      intro kk hi1 hf1  
      refine G_iload (q := 13) dX7_endOf_11 5 rfl rfl ?_
      refine G_iload_n (q := 14) dX7_endOf_13 rfl 3 rfl rfl ?_
      refine G_icmp_geN (tgt := 56) (q := 17) dX7_endOf_14 (by decide) rfl (by omega) (by omega) (fun c14 => ?_) (fun c14 => ?_)
      · have e9 : nd = kk := by omega
        subst e9
        refine G_aload_n (q := 57) dX7_endOf_56 rfl 0 rfl rfl ?_
        refine G_get (q := 60) dX7_endOf_57 0 rfl (show vwCl[7]? = some (RX7, TX7, 3) from rfl) 1 (by decide) in_X7_endOf_X7 fl_X7_endOf_18 rfl rfl ?_
        refine G_callVP (As := []) (rest := []) (st2 := [.int ((tst way nd many f n dy ak ow nd).2.2)]) (q := 63) dX7_endOf_60 [2, 3] (ct_X6_owner Z tr ra ((tst way nd many f n dy ak ow nd).1) n (nI (dy + nd)) ((tst way nd many f n dy ak ow nd).2.1) ((tst way nd many f n dy ak ow nd).2.2)) (fun h => h) cs_X6_owner gX7_endOf_X6_owner rfl ⟨Nat.le_of_ble_eq_true rfl, Nat.le_of_ble_eq_true rfl⟩ ⟨rfl, rfl⟩ 2 rfl (show vwCl[6]? = some (RX6, TX6, 5) from rfl) rfl (by decide) rfl rfl (Nat.le_of_ble_eq_true rfl) ⟨by decide, by decide⟩ rfl rfl ?_
        refine GG.of (ws2 := [(u, .inr (7, [.ref e, .ref tr, .int (bI fa)])), (e, .inl (Z 0, 64, .inl en)), (tr, .inr (6, [.ref ra, .int (nI n), .int (nI (dy + nd)), .int (bI ((tst way nd many f n dy ak ow nd).2.1)), .int ((tst way nd many f n dy ak ow nd).2.2)])), (ra, .inl (Z 0, 6, .inl ((tst way nd many f n dy ak ow nd).1))), (o, .inr (6, [.ref oa, .int (nI n), .int (nI dy), .int (bI ak), .int ow])), (oa, .inl (Z 0, 6, .inl f))]) (lv2 := [(0, .ref u), (1, .int (nI way)), (2, .ref o), (3, .int (nI nd)), (4, .int (nI many)), (5, .int (nI nd))]) (st2 := [.int (endW way nd many f n dy ak ow)]) (rfl) (rfl) (st_c (vi_c (show ((tst way nd many f n dy ak ow nd).2.2) = endW way nd many f n dy ak ow from rfl)) (rfl)) ?_
        exact G_iret dX7_endOf_63 rfl rfl ⟨rfl, rfl⟩
      · refine G_iload_n (q := 18) dX7_endOf_17 rfl 1 rfl rfl ?_
        refine G_iload_n (q := 19) dX7_endOf_18 rfl 3 rfl rfl ?_
        refine G_iconst (v := nI 1) (q := 20) dX7_endOf_19 (by decide) rfl ?_
        refine G_isubN (a := nd) (b := 1) (q := 21) dX7_endOf_20 (by omega) rfl ?_
        refine G_iload (q := 23) dX7_endOf_21 5 rfl rfl ?_
        refine G_isubN (a := (nd - 1)) (b := kk) (q := 24) dX7_endOf_23 (by omega) rfl ?_
        refine G_ishrN (a := way) (b := ((nd - 1) - kk)) (q := 25) dX7_endOf_24 (by omega) (by omega) rfl ?_
        refine G_iconst (v := nI 1) (q := 26) dX7_endOf_25 (by decide) rfl ?_
        refine G_iandN (a := (way >>> ((nd - 1) - kk))) (b := 1) (q := 27) dX7_endOf_26 rfl ?_
        refine G_iconst (v := nI 1) (q := 28) dX7_endOf_27 (by decide) rfl ?_
        refine G_icmp_neN (tgt := 43) (q := 31) dX7_endOf_28 (by decide) rfl (and1_lt _) (by omega) (fun c28 => ?_) (fun c28 => ?_)
        · refine G_aload_n (q := 44) dX7_endOf_43 rfl 0 rfl rfl ?_
          refine G_get (q := 47) dX7_endOf_44 0 rfl (show vwCl[7]? = some (RX7, TX7, 3) from rfl) 1 (by decide) in_X7_endOf_X7 fl_X7_endOf_18 rfl rfl ?_
          refine G_callVX (As := []) (rest := []) (st2 := []) (ws2 := [(u, .inr (7, [.ref e, .ref tr, .int (bI fa)])), (e, .inl (Z 0, 64, .inl en)), (tr, .inr (6, [.ref ra, .int (nI n), .int ((nI (dy + kk)) + nI 1), .int (bI false), .int (if ((tst way nd many f n dy ak ow kk).2.1) = true then nI (hbw (agoF (nI (dy + kk)) ((tst way nd many f n dy ak ow kk).1)) n 0) else ((tst way nd many f n dy ak ow kk).2.2))])), (ra, .inl (Z 0, 6, .inl ((tst way nd many f n dy ak ow kk).1))), (o, .inr (6, [.ref oa, .int (nI n), .int (nI dy), .int (bI ak), .int ow])), (oa, .inl (Z 0, 6, .inl f))]) (q := 50) dX7_endOf_47 [2, 3] (ct_X6_passNoon Z tr ra ((tst way nd many f n dy ak ow kk).1) n (nI (dy + kk)) ((tst way nd many f n dy ak ow kk).2.1) ((tst way nd many f n dy ak ow kk).2.2) (by omega)) (fun h => h) cs_X6_passNoon gX7_endOf_X6_passNoon rfl ⟨Nat.le_of_ble_eq_true rfl, Nat.le_of_ble_eq_true rfl⟩ ⟨rfl, rfl⟩ 2 rfl (show vwCl[6]? = some (RX6, TX6, 5) from rfl) rfl (by decide) rfl rfl (Nat.le_of_ble_eq_true rfl) ⟨by decide, by decide⟩ rfl rfl rfl rfl ?_
          refine G_iincN (x := kk) (d := 1) (lv2 := [(0, .ref u), (1, .int (nI way)), (2, .ref o), (3, .int (nI nd)), (4, .int (nI many)), (5, .int (nI (kk + 1)))]) (q := 53) dX7_endOf_50 5 rfl (by decide) (by decide) rfl rfl ?_
          refine G_goto (q := 11) dX7_endOf_53 (by decide) ?_
          refine GG.of (ws2 := [(u, .inr (7, [.ref e, .ref tr, .int (bI fa)])), (e, .inl (Z 0, 64, .inl en)), (tr, .inr (6, [.ref ra, .int (nI n), .int (nI (dy + (kk + 1))), .int (bI ((tst way nd many f n dy ak ow (kk + 1)).2.1)), .int ((tst way nd many f n dy ak ow (kk + 1)).2.2)])), (ra, .inl (Z 0, 6, .inl ((tst way nd many f n dy ak ow (kk + 1)).1))), (o, .inr (6, [.ref oa, .int (nI n), .int (nI dy), .int (bI ak), .int ow])), (oa, .inl (Z 0, 6, .inl f))]) (lv2 := [(0, .ref u), (1, .int (nI way)), (2, .ref o), (3, .int (nI nd)), (4, .int (nI many)), (5, .int (nI (kk + 1)))]) (st2 := []) (ws_c (rfl) (ws_c (rfl) (ws_c (by first | (rw [tst_t c28, nI_add]; rfl) | (rw [tst_f c28, nI_add]; rfl)) (ws_c (by first | rw [tst_t c28] | rw [tst_f c28]) (ws_c (rfl) (ws_c (rfl) (rfl))))))) (rfl) (rfl) ?_
          exact ih1 (kk + 1) (by omega) (by omega)  
        · refine G_aload_n (q := 32) dX7_endOf_31 rfl 0 rfl rfl ?_
          refine G_get (q := 35) dX7_endOf_32 0 rfl (show vwCl[7]? = some (RX7, TX7, 3) from rfl) 1 (by decide) in_X7_endOf_X7 fl_X7_endOf_18 rfl rfl ?_
          refine G_iload (q := 37) dX7_endOf_35 5 rfl rfl ?_
          refine G_iload (q := 39) dX7_endOf_37 4 rfl rfl ?_
          refine G_iremN (a := kk) (b := many) (q := 40) dX7_endOf_39 (by omega) (by omega) (by omega) rfl ?_
          refine G_callVX (As := [.int (nI (kk % many))]) (rest := []) (st2 := []) (ws2 := [(u, .inr (7, [.ref e, .ref tr, .int (bI fa)])), (e, .inl (Z 0, 64, .inl en)), (tr, .inr (6, [.ref ra, .int (nI n), .int (nI (dy + kk)), .int (bI true), .int ((tst way nd many f n dy ak ow kk).2.2)])), (ra, .inl (Z 0, 6, .inl (upd ((tst way nd many f n dy ak ow kk).1) (kk % many) (nI (dy + kk))))), (o, .inr (6, [.ref oa, .int (nI n), .int (nI dy), .int (bI ak), .int ow])), (oa, .inl (Z 0, 6, .inl f))]) (q := 43) dX7_endOf_40 [2, 3] (ct_X6_ask Z tr ra ((tst way nd many f n dy ak ow kk).1) n (nI (dy + kk)) ((tst way nd many f n dy ak ow kk).2.1) ((tst way nd many f n dy ak ow kk).2.2) (kk % many) (by omega) (Nat.lt_of_lt_of_le (Nat.mod_lt _ hm.2) hm.1)) (fun h => h) cs_X6_ask gX7_endOf_X6_ask rfl ⟨Nat.le_of_ble_eq_true rfl, Nat.le_of_ble_eq_true rfl⟩ ⟨rfl, rfl⟩ 2 rfl (show vwCl[6]? = some (RX6, TX6, 5) from rfl) rfl (by decide) rfl rfl (Nat.le_of_ble_eq_true rfl) ⟨by decide, by decide⟩ rfl rfl rfl rfl ?_
          refine G_aload_n (q := 44) dX7_endOf_43 rfl 0 rfl rfl ?_
          refine G_get (q := 47) dX7_endOf_44 0 rfl (show vwCl[7]? = some (RX7, TX7, 3) from rfl) 1 (by decide) in_X7_endOf_X7 fl_X7_endOf_18 rfl rfl ?_
          refine G_callVX (As := []) (rest := []) (st2 := []) (ws2 := [(u, .inr (7, [.ref e, .ref tr, .int (bI fa)])), (e, .inl (Z 0, 64, .inl en)), (tr, .inr (6, [.ref ra, .int (nI n), .int ((nI (dy + kk)) + nI 1), .int (bI false), .int (if true = true then nI (hbw (agoF (nI (dy + kk)) (upd ((tst way nd many f n dy ak ow kk).1) (kk % many) (nI (dy + kk)))) n 0) else ((tst way nd many f n dy ak ow kk).2.2))])), (ra, .inl (Z 0, 6, .inl (upd ((tst way nd many f n dy ak ow kk).1) (kk % many) (nI (dy + kk))))), (o, .inr (6, [.ref oa, .int (nI n), .int (nI dy), .int (bI ak), .int ow])), (oa, .inl (Z 0, 6, .inl f))]) (q := 50) dX7_endOf_47 [2, 3] (ct_X6_passNoon Z tr ra (upd ((tst way nd many f n dy ak ow kk).1) (kk % many) (nI (dy + kk))) n (nI (dy + kk)) true ((tst way nd many f n dy ak ow kk).2.2) (by omega)) (fun h => h) cs_X6_passNoon gX7_endOf_X6_passNoon rfl ⟨Nat.le_of_ble_eq_true rfl, Nat.le_of_ble_eq_true rfl⟩ ⟨rfl, rfl⟩ 2 rfl (show vwCl[6]? = some (RX6, TX6, 5) from rfl) rfl (by decide) rfl rfl (Nat.le_of_ble_eq_true rfl) ⟨by decide, by decide⟩ rfl rfl rfl rfl ?_
          refine G_iincN (x := kk) (d := 1) (lv2 := [(0, .ref u), (1, .int (nI way)), (2, .ref o), (3, .int (nI nd)), (4, .int (nI many)), (5, .int (nI (kk + 1)))]) (q := 53) dX7_endOf_50 5 rfl (by decide) (by decide) rfl rfl ?_
          refine G_goto (q := 11) dX7_endOf_53 (by decide) ?_
          refine GG.of (ws2 := [(u, .inr (7, [.ref e, .ref tr, .int (bI fa)])), (e, .inl (Z 0, 64, .inl en)), (tr, .inr (6, [.ref ra, .int (nI n), .int (nI (dy + (kk + 1))), .int (bI ((tst way nd many f n dy ak ow (kk + 1)).2.1)), .int ((tst way nd many f n dy ak ow (kk + 1)).2.2)])), (ra, .inl (Z 0, 6, .inl ((tst way nd many f n dy ak ow (kk + 1)).1))), (o, .inr (6, [.ref oa, .int (nI n), .int (nI dy), .int (bI ak), .int ow])), (oa, .inl (Z 0, 6, .inl f))]) (lv2 := [(0, .ref u), (1, .int (nI way)), (2, .ref o), (3, .int (nI nd)), (4, .int (nI many)), (5, .int (nI (kk + 1)))]) (st2 := []) (ws_c (rfl) (ws_c (rfl) (ws_c (by first | (rw [tst_t c28, nI_add]; rfl) | (rw [tst_f c28, nI_add]; rfl)) (ws_c (by first | rw [tst_t c28] | rw [tst_f c28]) (ws_c (rfl) (ws_c (rfl) (rfl))))))) (rfl) (rfl) ?_
          exact ih1 (kk + 1) (by omega) (by omega)  
  refine GG.of (ws2 := [(u, .inr (7, [.ref e, .ref tr, .int (bI fa)])), (e, .inl (Z 0, 64, .inl en)), (tr, .inr (6, [.ref ra, .int (nI n), .int (nI (dy + 0)), .int (bI ((tst way nd many f n dy ak ow 0).2.1)), .int ((tst way nd many f n dy ak ow 0).2.2)])), (ra, .inl (Z 0, 6, .inl ((tst way nd many f n dy ak ow 0).1))), (o, .inr (6, [.ref oa, .int (nI n), .int (nI dy), .int (bI ak), .int ow])), (oa, .inl (Z 0, 6, .inl f))]) (lv2 := [(0, .ref u), (1, .int (nI way)), (2, .ref o), (3, .int (nI nd)), (4, .int (nI many)), (5, .int (nI 0))]) (st2 := []) (ws_c (rfl) (ws_c (rfl) (ws_c (rfl) (ws_c (rfl) (ws_c (rfl) (ws_c (rfl) (rfl))))))) (rfl) (rfl) ?_
  exact L11_1 (nd + 1) (0) (Nat.zero_le _) (by omega)  
theorem cs_X7_chooseOn : CS yX7_chooseOn wsX7_chooseOn cX7_chooseOn 6 none 2 := ⟨⟨_, rfl⟩, by decide +kernel, by decide +kernel, by decide +kernel⟩
theorem fl_X7_chooseOn_22 : Cond.fieldLink RX7 22 (TX7 2).1 (TX7 2).2.1 (TX7 2).2.2.1 ∈ wsX7_chooseOn := by decide +kernel
theorem fl_X7_chooseOn_9 : Cond.fieldLink RX7 9 (TX7 0).1 (TX7 0).2.1 (TX7 0).2.2.1 ∈ wsX7_chooseOn := by decide +kernel
theorem in_X7_chooseOn_X7 : ∀ w ∈ u_ws RX7 TX7 3, w ∈ wsX7_chooseOn := by decide +kernel
set_option maxHeartbeats 4000000 in
set_option maxRecDepth 100000 in
theorem ct_X7_chooseOn (Z : Nat → ClassId) (u : Nat) (e : Nat) (tr : Nat) (ra : Nat) (en : Nat → Int32) (fa : Bool) (rf : Nat → Int32) (rn : Nat) (rd : Int32) (rk : Bool) (ro : Int32) (day : Nat) (c : Nat) (hd : day < 6): Ct false yX7_chooseOn wsX7_chooseOn ({ frames := 1, cells := 0, slots := 0, locals := 22 }) [.ref u, .int (nI day), .int (nI c)] Z [(u, .inr (7, [.ref e, .ref tr, .int (bI fa)])), (e, .inl (Z 0, 64, .inl en)), (tr, .inr (6, [.ref ra, .int (nI rn), .int rd, .int (bI rk), .int ro])), (ra, .inl (Z 0, 6, .inl rf))] (rV [(u, .inr (7, [.ref e, .ref tr, .int (bI (((chs c en (1 <<< day)).2).getD fa))])), (e, .inl (Z 0, 64, .inl ((chs c en (1 <<< day)).1))), (tr, .inr (6, [.ref ra, .int (nI rn), .int rd, .int (bI rk), .int ro])), (ra, .inl (Z 0, 6, .inl rf))]) 0 0 := by
  refine Ct_of (cc := cX7_chooseOn) (maxL := 6) (ret := none) (own := RX7) false false (by decide +kernel) rfl rfl (by decide) (fun v w h => by rw [h.1]; rfl) (Nat.le_of_ble_eq_true rfl) (fun X => ?_)
  show GG X _ _ _ _ _ _ _ _ _ _ _ _ _ _ [(0, .ref u), (1, .int (nI day)), (2, .int (nI c))] _ _
  refine G_iconst (v := nI 0) (q := 1) dX7_chooseOn_0 (by decide) rfl ?_
  refine G_istore_n (lv2 := [(0, .ref u), (1, .int (nI day)), (2, .int (nI c)), (3, .int (nI 0))]) (q := 2) dX7_chooseOn_1 rfl (by decide) rfl rfl ?_
  have L2_1 : ∀ fu1 w : Nat, w ≤ (1 <<< day) → (1 <<< day) + 1 ≤ w + fu1 → GG X ({ frames := 1, cells := 0, slots := 0, locals := 22 }) cX7_chooseOn 6 wsX7_chooseOn RX7 false false Z (rV [(u, .inr (7, [.ref e, .ref tr, .int (bI (((chs c en (1 <<< day)).2).getD fa))])), (e, .inl (Z 0, 64, .inl ((chs c en (1 <<< day)).1))), (tr, .inr (6, [.ref ra, .int (nI rn), .int rd, .int (bI rk), .int ro])), (ra, .inl (Z 0, 6, .inl rf))]) 0 0 0 0 [(u, .inr (7, [.ref e, .ref tr, .int (bI (((chs c en w).2).getD fa))])), (e, .inl (Z 0, 64, .inl ((chs c en w).1))), (tr, .inr (6, [.ref ra, .int (nI rn), .int rd, .int (bI rk), .int ro])), (ra, .inl (Z 0, 6, .inl rf))] [(0, .ref u), (1, .int (nI day)), (2, .int (nI c)), (3, .int (nI w))] [] 2 := by
    intro fu1
    induction fu1 with
    | zero => intro w q1 q2; exact absurd q2 (by omega)
    | succ fu1 ih1 =>
      intro w hi1 hf1  
      have h5 := sh5 hd
      refine G_iload_n (q := 3) dX7_chooseOn_2 rfl 3 rfl rfl ?_
      refine G_iconst (v := nI 1) (q := 4) dX7_chooseOn_3 (by decide) rfl ?_
      refine G_iload_n (q := 5) dX7_chooseOn_4 rfl 1 rfl rfl ?_
      refine G_ishlN (a := 1) (b := day) (q := 6) dX7_chooseOn_5 (by omega) (sh_ok (by omega)) rfl ?_
      refine G_icmp_geN (tgt := 96) (q := 9) dX7_chooseOn_6 (by decide) rfl (by omega) (by omega) (fun c6 => ?_) (fun c6 => ?_)
      · have e9 : w = 1 <<< day := by omega
        subst e9
        exact G_ret dX7_chooseOn_96 rfl rfl ⟨rfl, rfl⟩
      · refine G_iconst (v := nI 2) (q := 10) dX7_chooseOn_9 (by decide) rfl ?_
        refine G_iload_n (q := 11) dX7_chooseOn_10 rfl 3 rfl rfl ?_
        refine G_imulN (a := 2) (b := w) (q := 12) dX7_chooseOn_11 rfl ?_
        refine G_iconst (v := nI 1) (q := 13) dX7_chooseOn_12 (by decide) rfl ?_
        refine G_iaddN (a := (2 * w)) (b := 1) (q := 14) dX7_chooseOn_13 rfl ?_
        refine G_aload_n (q := 15) dX7_chooseOn_14 rfl 0 rfl rfl ?_
        refine G_get (q := 18) dX7_chooseOn_15 0 rfl (show vwCl[7]? = some (RX7, TX7, 3) from rfl) 0 (by decide) in_X7_chooseOn_X7 fl_X7_chooseOn_9 rfl rfl ?_
        refine G_alen (q := 19) dX7_chooseOn_18 1 rfl (show (tz Z)[0]? = _ from rfl) rfl ?_
        refine G_icmp_geN (tgt := 96) (q := 22) dX7_chooseOn_19 (by decide) rfl (by omega) (by omega) (fun c19 => ?_) (fun c19 => ?_)
        · exfalso; omega
        · refine G_aload_n (q := 23) dX7_chooseOn_22 rfl 0 rfl rfl ?_
          refine G_get (q := 26) dX7_chooseOn_23 0 rfl (show vwCl[7]? = some (RX7, TX7, 3) from rfl) 0 (by decide) in_X7_chooseOn_X7 fl_X7_chooseOn_9 rfl rfl ?_
          refine G_iconst (v := nI 2) (q := 27) dX7_chooseOn_26 (by decide) rfl ?_
          refine G_iload_n (q := 28) dX7_chooseOn_27 rfl 3 rfl rfl ?_
          refine G_imulN (a := 2) (b := w) (q := 29) dX7_chooseOn_28 rfl ?_
          refine G_iald (q := 30) dX7_chooseOn_29 1 rfl (2 * w) (rfl) (by omega) (by omega) rfl ?_
          refine G_istore (lv2 := [(0, .ref u), (1, .int (nI day)), (2, .int (nI c)), (3, .int (nI w)), (4, .int (((chs c en w).1) (2 * w)))]) (q := 32) dX7_chooseOn_30 (by decide) rfl rfl ?_
          refine G_aload_n (q := 33) dX7_chooseOn_32 rfl 0 rfl rfl ?_
          refine G_get (q := 36) dX7_chooseOn_33 0 rfl (show vwCl[7]? = some (RX7, TX7, 3) from rfl) 0 (by decide) in_X7_chooseOn_X7 fl_X7_chooseOn_9 rfl rfl ?_
          refine G_iconst (v := nI 2) (q := 37) dX7_chooseOn_36 (by decide) rfl ?_
          refine G_iload_n (q := 38) dX7_chooseOn_37 rfl 3 rfl rfl ?_
          refine G_imulN (a := 2) (b := w) (q := 39) dX7_chooseOn_38 rfl ?_
          refine G_iconst (v := nI 1) (q := 40) dX7_chooseOn_39 (by decide) rfl ?_
          refine G_iaddN (a := (2 * w)) (b := 1) (q := 41) dX7_chooseOn_40 rfl ?_
          refine G_iald (q := 42) dX7_chooseOn_41 1 rfl ((2 * w) + 1) (rfl) (by omega) (by omega) rfl ?_
          refine G_istore (lv2 := [(0, .ref u), (1, .int (nI day)), (2, .int (nI c)), (3, .int (nI w)), (4, .int (((chs c en w).1) (2 * w))), (5, .int (((chs c en w).1) ((2 * w) + 1)))]) (q := 44) dX7_chooseOn_42 (by decide) rfl rfl ?_
          have hk1 := rk_le ((chs c en w).1 (2 * w)) c
          have hk2 := rk_le ((chs c en w).1 (2 * w + 1)) c
          refine G_aload_n (q := 45) dX7_chooseOn_44 rfl 0 rfl rfl ?_
          refine G_aload_n (q := 46) dX7_chooseOn_45 rfl 0 rfl rfl ?_
          refine G_iload (q := 48) dX7_chooseOn_46 5 rfl rfl ?_
          refine G_iload_n (q := 49) dX7_chooseOn_48 rfl 2 rfl rfl ?_
          refine G_callVP (As := [.int (((chs c en w).1) ((2 * w) + 1)), .int (nI c)]) (rest := [.ref u]) (st2 := [.int (nI (rkN (((chs c en w).1) ((2 * w) + 1)) c)), .ref u]) (q := 52) dX7_chooseOn_49 [0, 1, 2, 3] (ct_X7_rank Z u e tr ra ((chs c en w).1) (((chs c en w).2).getD fa) rf rn rd rk ro (((chs c en w).1) ((2 * w) + 1)) c) (fun h => h) cs_X7_rank gX7_chooseOn_X7_rank rfl ⟨Nat.le_of_ble_eq_true rfl, Nat.le_of_ble_eq_true rfl⟩ ⟨rfl, rfl⟩ 0 rfl (show vwCl[7]? = some (RX7, TX7, 3) from rfl) rfl (by decide) rfl rfl (Nat.le_of_ble_eq_true rfl) ⟨by decide, by decide⟩ rfl rfl ?_
          refine G_aload_n (q := 53) dX7_chooseOn_52 rfl 0 rfl rfl ?_
          refine G_iload (q := 55) dX7_chooseOn_53 4 rfl rfl ?_
          refine G_iload_n (q := 56) dX7_chooseOn_55 rfl 2 rfl rfl ?_
          refine G_callVP (As := [.int (((chs c en w).1) (2 * w)), .int (nI c)]) (rest := [.int (nI (rkN (((chs c en w).1) ((2 * w) + 1)) c)), .ref u]) (st2 := [.int (nI (rkN (((chs c en w).1) (2 * w)) c)), .int (nI (rkN (((chs c en w).1) ((2 * w) + 1)) c)), .ref u]) (q := 59) dX7_chooseOn_56 [0, 1, 2, 3] (ct_X7_rank Z u e tr ra ((chs c en w).1) (((chs c en w).2).getD fa) rf rn rd rk ro (((chs c en w).1) (2 * w)) c) (fun h => h) cs_X7_rank gX7_chooseOn_X7_rank rfl ⟨Nat.le_of_ble_eq_true rfl, Nat.le_of_ble_eq_true rfl⟩ ⟨rfl, rfl⟩ 0 rfl (show vwCl[7]? = some (RX7, TX7, 3) from rfl) rfl (by decide) rfl rfl (Nat.le_of_ble_eq_true rfl) ⟨by decide, by decide⟩ rfl rfl ?_
          have J67_2 : GG X ({ frames := 1, cells := 0, slots := 0, locals := 22 }) cX7_chooseOn 6 wsX7_chooseOn RX7 false false Z (rV [(u, .inr (7, [.ref e, .ref tr, .int (bI (((chs c en (1 <<< day)).2).getD fa))])), (e, .inl (Z 0, 64, .inl ((chs c en (1 <<< day)).1))), (tr, .inr (6, [.ref ra, .int (nI rn), .int rd, .int (bI rk), .int ro])), (ra, .inl (Z 0, 6, .inl rf))]) 0 0 0 0 [(u, .inr (7, [.ref e, .ref tr, .int (bI (((chs c en w).2).getD fa))])), (e, .inl (Z 0, 64, .inl ((chs c en w).1))), (tr, .inr (6, [.ref ra, .int (nI rn), .int rd, .int (bI rk), .int ro])), (ra, .inl (Z 0, 6, .inl rf))] [(0, .ref u), (1, .int (nI day)), (2, .int (nI c)), (3, .int (nI w)), (4, .int (((chs c en w).1) (2 * w))), (5, .int (((chs c en w).1) ((2 * w) + 1)))] [.int (bI (decide (rkN ((chs c en w).1 (2 * w)) c < rkN ((chs c en w).1 (2 * w + 1)) c))), .ref u] 67 := by
            refine G_put (ws2 := [(u, .inr (7, [.ref e, .ref tr, .int (bI (decide (rkN ((chs c en w).1 (2 * w)) c < rkN ((chs c en w).1 (2 * w + 1)) c)))])), (e, .inl (Z 0, 64, .inl ((chs c en w).1))), (tr, .inr (6, [.ref ra, .int (nI rn), .int rd, .int (bI rk), .int ro])), (ra, .inl (Z 0, 6, .inl rf))]) (q := 70) dX7_chooseOn_67 0 rfl (show vwCl[7]? = some (RX7, TX7, 3) from rfl) cf_X7 2 (by decide) in_X7_chooseOn_X7 fl_X7_chooseOn_22 rfl (bI_01 _) (bI_fit _) (by simp only [List.length_cons, List.length_nil]; decide) rfl rfl ?_
            refine G_aload_n (q := 71) dX7_chooseOn_70 rfl 0 rfl rfl ?_
            refine G_get (q := 74) dX7_chooseOn_71 0 rfl (show vwCl[7]? = some (RX7, TX7, 3) from rfl) 0 (by decide) in_X7_chooseOn_X7 fl_X7_chooseOn_9 rfl rfl ?_
            refine G_iload_n (q := 75) dX7_chooseOn_74 rfl 3 rfl rfl ?_
            refine G_aload_n (q := 76) dX7_chooseOn_75 rfl 0 rfl rfl ?_
            refine G_get (q := 79) dX7_chooseOn_76 0 rfl (show vwCl[7]? = some (RX7, TX7, 3) from rfl) 2 (by decide) in_X7_chooseOn_X7 fl_X7_chooseOn_22 rfl rfl ?_
            refine G_if_eqB (tgt := 87) (q := 82) dX7_chooseOn_79 (by decide) rfl (fun c79 => ?_) (fun c79 => ?_)
            · refine G_iload (q := 89) dX7_chooseOn_87 4 rfl rfl ?_
              refine G_iast (ws2 := [(u, .inr (7, [.ref e, .ref tr, .int (bI (decide (rkN ((chs c en w).1 (2 * w)) c < rkN ((chs c en w).1 (2 * w + 1)) c)))])), (e, .inl (Z 0, 64, .inl (upd ((chs c en w).1) w (((chs c en w).1) (2 * w))))), (tr, .inr (6, [.ref ra, .int (nI rn), .int rd, .int (bI rk), .int ro])), (ra, .inl (Z 0, 6, .inl rf))]) (q := 90) dX7_chooseOn_89 1 rfl w (rfl) (by omega) (by omega) rfl rfl ?_
              refine G_iincN (x := w) (d := 1) (lv2 := [(0, .ref u), (1, .int (nI day)), (2, .int (nI c)), (3, .int (nI (w + 1))), (4, .int (((chs c en w).1) (2 * w))), (5, .int (((chs c en w).1) ((2 * w) + 1)))]) (q := 93) dX7_chooseOn_90 3 rfl (by decide) (by decide) rfl rfl ?_
              refine G_goto (q := 2) dX7_chooseOn_93 (by decide) ?_
              refine GG.pick (lv2 := [(0, .ref u), (1, .int (nI day)), (2, .int (nI c)), (3, .int (nI (w + 1)))]) [0, 1, 2, 3] rfl ?_
              refine GG.of (ws2 := [(u, .inr (7, [.ref e, .ref tr, .int (bI (((chs c en (w + 1)).2).getD fa))])), (e, .inl (Z 0, 64, .inl ((chs c en (w + 1)).1))), (tr, .inr (6, [.ref ra, .int (nI rn), .int rd, .int (bI rk), .int ro])), (ra, .inl (Z 0, 6, .inl rf))]) (lv2 := [(0, .ref u), (1, .int (nI day)), (2, .int (nI c)), (3, .int (nI (w + 1)))]) (st2 := []) (ws_c (by rw [chs_2]; simp [c79]) (ws_c (cell_i (by rw [chs_1]; simp [c79])) (ws_c (rfl) (ws_c (rfl) (rfl))))) (rfl) (rfl) ?_
              exact ih1 (w + 1) (by omega) (by omega)  
            · refine G_iload (q := 84) dX7_chooseOn_82 5 rfl rfl ?_
              refine G_goto (q := 89) dX7_chooseOn_84 (by decide) ?_
              refine G_iast (ws2 := [(u, .inr (7, [.ref e, .ref tr, .int (bI (decide (rkN ((chs c en w).1 (2 * w)) c < rkN ((chs c en w).1 (2 * w + 1)) c)))])), (e, .inl (Z 0, 64, .inl (upd ((chs c en w).1) w (((chs c en w).1) ((2 * w) + 1))))), (tr, .inr (6, [.ref ra, .int (nI rn), .int rd, .int (bI rk), .int ro])), (ra, .inl (Z 0, 6, .inl rf))]) (q := 90) dX7_chooseOn_89 1 rfl w (rfl) (by omega) (by omega) rfl rfl ?_
              refine G_iincN (x := w) (d := 1) (lv2 := [(0, .ref u), (1, .int (nI day)), (2, .int (nI c)), (3, .int (nI (w + 1))), (4, .int (((chs c en w).1) (2 * w))), (5, .int (((chs c en w).1) ((2 * w) + 1)))]) (q := 93) dX7_chooseOn_90 3 rfl (by decide) (by decide) rfl rfl ?_
              refine G_goto (q := 2) dX7_chooseOn_93 (by decide) ?_
              refine GG.pick (lv2 := [(0, .ref u), (1, .int (nI day)), (2, .int (nI c)), (3, .int (nI (w + 1)))]) [0, 1, 2, 3] rfl ?_
              refine GG.of (ws2 := [(u, .inr (7, [.ref e, .ref tr, .int (bI (((chs c en (w + 1)).2).getD fa))])), (e, .inl (Z 0, 64, .inl ((chs c en (w + 1)).1))), (tr, .inr (6, [.ref ra, .int (nI rn), .int rd, .int (bI rk), .int ro])), (ra, .inl (Z 0, 6, .inl rf))]) (lv2 := [(0, .ref u), (1, .int (nI day)), (2, .int (nI c)), (3, .int (nI (w + 1)))]) (st2 := []) (ws_c (by rw [chs_2]; simp [c79]) (ws_c (cell_i (by rw [chs_1]; simp [c79])) (ws_c (rfl) (ws_c (rfl) (rfl))))) (rfl) (rfl) ?_
              exact ih1 (w + 1) (by omega) (by omega)  
          refine G_icmp_leN (tgt := 66) (q := 62) dX7_chooseOn_59 (by decide) rfl (by omega) (by omega) (fun c59 => ?_) (fun c59 => ?_)
          · refine G_iconst (v := nI 0) (q := 67) dX7_chooseOn_66 (by decide) rfl ?_
            refine GG.of (ws2 := [(u, .inr (7, [.ref e, .ref tr, .int (bI (((chs c en w).2).getD fa))])), (e, .inl (Z 0, 64, .inl ((chs c en w).1))), (tr, .inr (6, [.ref ra, .int (nI rn), .int rd, .int (bI rk), .int ro])), (ra, .inl (Z 0, 6, .inl rf))]) (lv2 := [(0, .ref u), (1, .int (nI day)), (2, .int (nI c)), (3, .int (nI w)), (4, .int (((chs c en w).1) (2 * w))), (5, .int (((chs c en w).1) ((2 * w) + 1)))]) (st2 := [.int (bI (decide (rkN ((chs c en w).1 (2 * w)) c < rkN ((chs c en w).1 (2 * w + 1)) c))), .ref u]) (rfl) (rfl) (st_c (vi_c (show nI 0 = bI (decide (rkN ((chs c en w).1 (2 * w)) c < rkN ((chs c en w).1 (2 * w + 1)) c)) from by first | exact (bI_t (dlt_t c59)).symm | exact (bI_f (dlt_f c59)).symm)) (st_c rfl (rfl))) ?_
            exact J67_2
          · refine G_iconst (v := nI 1) (q := 63) dX7_chooseOn_62 (by decide) rfl ?_
            refine G_goto (q := 67) dX7_chooseOn_63 (by decide) ?_
            refine GG.of (ws2 := [(u, .inr (7, [.ref e, .ref tr, .int (bI (((chs c en w).2).getD fa))])), (e, .inl (Z 0, 64, .inl ((chs c en w).1))), (tr, .inr (6, [.ref ra, .int (nI rn), .int rd, .int (bI rk), .int ro])), (ra, .inl (Z 0, 6, .inl rf))]) (lv2 := [(0, .ref u), (1, .int (nI day)), (2, .int (nI c)), (3, .int (nI w)), (4, .int (((chs c en w).1) (2 * w))), (5, .int (((chs c en w).1) ((2 * w) + 1)))]) (st2 := [.int (bI (decide (rkN ((chs c en w).1 (2 * w)) c < rkN ((chs c en w).1 (2 * w + 1)) c))), .ref u]) (rfl) (rfl) (st_c (vi_c (show nI 1 = bI (decide (rkN ((chs c en w).1 (2 * w)) c < rkN ((chs c en w).1 (2 * w + 1)) c)) from by first | exact (bI_t (dlt_t c59)).symm | exact (bI_f (dlt_f c59)).symm)) (st_c rfl (rfl))) ?_
            exact J67_2
  refine GG.of (ws2 := [(u, .inr (7, [.ref e, .ref tr, .int (bI (((chs c en 0).2).getD fa))])), (e, .inl (Z 0, 64, .inl ((chs c en 0).1))), (tr, .inr (6, [.ref ra, .int (nI rn), .int rd, .int (bI rk), .int ro])), (ra, .inl (Z 0, 6, .inl rf))]) (lv2 := [(0, .ref u), (1, .int (nI day)), (2, .int (nI c)), (3, .int (nI 0))]) (st2 := []) (ws_c (rfl) (ws_c (rfl) (ws_c (rfl) (ws_c (rfl) (rfl))))) (rfl) (rfl) ?_
  exact L2_1 ((1 <<< day) + 1) (0) (Nat.zero_le _) (by omega)  
theorem cs_X7_play : CS yX7_play wsX7_play cX7_play 5 none 2 := ⟨⟨_, rfl⟩, by decide +kernel, by decide +kernel, by decide +kernel⟩
theorem fl_X7_play_9 : Cond.fieldLink RX7 9 (TX7 0).1 (TX7 0).2.1 (TX7 0).2.2.1 ∈ wsX7_play := by decide +kernel
theorem in_X7_play_X7 : ∀ w ∈ u_ws RX7 TX7 3, w ∈ wsX7_play := by decide +kernel
set_option maxHeartbeats 4000000 in
set_option maxRecDepth 100000 in
theorem ct_X7_play (Z : Nat → ClassId) (u : Nat) (e : Nat) (tr : Nat) (ra : Nat) (en : Nat → Int32) (fa : Bool) (rf : Nat → Int32) (rn : Nat) (rd : Int32) (rk : Bool) (ro : Int32) (o : Nat) (oa : Nat) (f : Nat → Int32) (n : Nat) (dy : Nat) (ak : Bool) (ow : Int32) (nd : Nat) (hn : n ≤ 6) (h0 : 0 < n) (hnd : nd ≤ 6 ∧ 0 < nd): Ct false yX7_play wsX7_play ({ frames := 4, cells := 0, slots := 0, locals := 91 }) [.ref u, .ref o, .int (nI nd)] Z [(u, .inr (7, [.ref e, .ref tr, .int (bI fa)])), (e, .inl (Z 0, 64, .inl en)), (tr, .inr (6, [.ref ra, .int (nI rn), .int rd, .int (bI rk), .int ro])), (ra, .inl (Z 0, 6, .inl rf)), (o, .inr (6, [.ref oa, .int (nI n), .int (nI dy), .int (bI ak), .int ow])), (oa, .inl (Z 0, 6, .inl f))] (fun v w => ∃ (g9 : Nat → Int32) (fa9 : Bool) (f9 : Nat → Int32) (n9 : Nat) (d9 : Int32) (k9 : Bool) (o9 : Int32), v = none ∧ g9 0 = (chD nd n (fillF (fun way => endW way nd n f n dy ak ow) en (1 <<< nd)) nd).1 0 ∧ fa9 = (chD nd n (fillF (fun way => endW way nd n f n dy ak ow) en (1 <<< nd)) nd).2 ∧ w = [(u, .inr (7, [.ref e, .ref tr, .int (bI fa9)])), (e, .inl (Z 0, 64, .inl g9)), (tr, .inr (6, [.ref ra, .int (nI n9), .int d9, .int (bI k9), .int o9])), (ra, .inl (Z 0, 6, .inl f9)), (o, .inr (6, [.ref oa, .int (nI n), .int (nI dy), .int (bI ak), .int ow])), (oa, .inl (Z 0, 6, .inl f))]) 0 0 := by
  refine Ct_of (cc := cX7_play) (maxL := 5) (ret := none) (own := RX7) false false (by decide +kernel) rfl rfl (by decide) (fun v w h9 => by obtain ⟨g8, b8, f8, n8, d8, k8, o8, rfl, h8⟩ := h9; rfl) (Nat.le_of_ble_eq_true rfl) (fun X => ?_)
  show GG X _ _ _ _ _ _ _ _ _ _ _ _ _ _ [(0, .ref u), (1, .ref o), (2, .int (nI nd))] _ _
  refine G_iconst (v := nI 1) (q := 1) dX7_play_0 (by decide) rfl ?_
  refine G_aload_n (q := 2) dX7_play_1 rfl 1 rfl rfl ?_
  refine G_callVP (As := []) (rest := [.int (nI 1)]) (st2 := [.int (nI n), .int (nI 1)]) (q := 5) dX7_play_2 [4, 5] (ct_X6_relatives Z o oa f n (nI dy) ak ow) (fun h => h) cs_X6_relatives gX7_play_X6_relatives rfl ⟨Nat.le_of_ble_eq_true rfl, Nat.le_of_ble_eq_true rfl⟩ ⟨rfl, rfl⟩ 4 rfl (show vwCl[6]? = some (RX6, TX6, 5) from rfl) rfl (by decide) rfl rfl (Nat.le_of_ble_eq_true rfl) ⟨by decide, by decide⟩ rfl rfl ?_
  refine G_max (q := 8) dX7_play_5 (by decide +kernel) (by decide +kernel) (by decide +kernel) (by decide +kernel) (Nat.le_of_ble_eq_true rfl) (Nat.le_of_ble_eq_true rfl) ⟨by decide, by decide⟩ (nI n) (by rw [max1 (by omega) h0]) rfl ?_
  refine G_istore_n (lv2 := [(0, .ref u), (1, .ref o), (2, .int (nI nd)), (3, .int (nI n))]) (q := 9) dX7_play_8 rfl (by decide) rfl rfl ?_
  refine G_iconst (v := nI 0) (q := 10) dX7_play_9 (by decide) rfl ?_
  refine G_istore (lv2 := [(0, .ref u), (1, .ref o), (2, .int (nI nd)), (3, .int (nI n)), (4, .int (nI 0))]) (q := 12) dX7_play_10 (by decide) rfl rfl ?_
  have L12_1 : ∀ fu1 w : Nat, w ≤ (1 <<< nd) → (1 <<< nd) + 1 ≤ w + fu1 → ∀ (f9 : Nat → Int32), ∀ (n9 : Nat), ∀ (d9 : Int32), ∀ (k9 : Bool), ∀ (o9 : Int32), GG X ({ frames := 4, cells := 0, slots := 0, locals := 91 }) cX7_play 5 wsX7_play RX7 false false Z (fun v w => ∃ (g9 : Nat → Int32) (fa9 : Bool) (f9 : Nat → Int32) (n9 : Nat) (d9 : Int32) (k9 : Bool) (o9 : Int32), v = none ∧ g9 0 = (chD nd n (fillF (fun way => endW way nd n f n dy ak ow) en (1 <<< nd)) nd).1 0 ∧ fa9 = (chD nd n (fillF (fun way => endW way nd n f n dy ak ow) en (1 <<< nd)) nd).2 ∧ w = [(u, .inr (7, [.ref e, .ref tr, .int (bI fa9)])), (e, .inl (Z 0, 64, .inl g9)), (tr, .inr (6, [.ref ra, .int (nI n9), .int d9, .int (bI k9), .int o9])), (ra, .inl (Z 0, 6, .inl f9)), (o, .inr (6, [.ref oa, .int (nI n), .int (nI dy), .int (bI ak), .int ow])), (oa, .inl (Z 0, 6, .inl f))]) 0 0 0 0 [(u, .inr (7, [.ref e, .ref tr, .int (bI fa)])), (e, .inl (Z 0, 64, .inl (fillF (fun way => endW way nd n f n dy ak ow) en w))), (tr, .inr (6, [.ref ra, .int (nI n9), .int d9, .int (bI k9), .int o9])), (ra, .inl (Z 0, 6, .inl f9)), (o, .inr (6, [.ref oa, .int (nI n), .int (nI dy), .int (bI ak), .int ow])), (oa, .inl (Z 0, 6, .inl f))] [(0, .ref u), (1, .ref o), (2, .int (nI nd)), (3, .int (nI n)), (4, .int (nI w))] [] 12 := by
    intro fu1
    induction fu1 with
    | zero => intro w q1 q2; exact absurd q2 (by omega)
    | succ fu1 ih1 =>
      intro w hi1 hf1 f9 n9 d9 k9 o9 
      have h64 := sh6e hnd.1
      refine G_iload (q := 14) dX7_play_12 4 rfl rfl ?_
      refine G_iconst (v := nI 1) (q := 15) dX7_play_14 (by decide) rfl ?_
      refine G_iload_n (q := 16) dX7_play_15 rfl 2 rfl rfl ?_
      refine G_ishlN (a := 1) (b := nd) (q := 17) dX7_play_16 (by omega) (sh_ok (by omega)) rfl ?_
      refine G_icmp_geN (tgt := 52) (q := 20) dX7_play_17 (by decide) rfl (by omega) (by omega) (fun c17 => ?_) (fun c17 => ?_)
      · have e9 : w = 1 <<< nd := by omega
        subst e9
        refine G_iload_n (q := 53) dX7_play_52 rfl 2 rfl rfl ?_
        refine G_iconst (v := nI 1) (q := 54) dX7_play_53 (by decide) rfl ?_
        refine G_isubN (a := nd) (b := 1) (q := 55) dX7_play_54 (by omega) rfl ?_
        refine G_istore (lv2 := [(0, .ref u), (1, .ref o), (2, .int (nI nd)), (3, .int (nI n)), (4, .int (nI (nd - 1)))]) (q := 57) dX7_play_55 (by decide) rfl rfl ?_
        have L57_2 : ∀ fu2 t : Nat, t ≤ nd → nd + 1 ≤ t + fu2 → GG X ({ frames := 4, cells := 0, slots := 0, locals := 91 }) cX7_play 5 wsX7_play RX7 false false Z (fun v w => ∃ (g9 : Nat → Int32) (fa9 : Bool) (f9 : Nat → Int32) (n9 : Nat) (d9 : Int32) (k9 : Bool) (o9 : Int32), v = none ∧ g9 0 = (chD nd n (fillF (fun way => endW way nd n f n dy ak ow) en (1 <<< nd)) nd).1 0 ∧ fa9 = (chD nd n (fillF (fun way => endW way nd n f n dy ak ow) en (1 <<< nd)) nd).2 ∧ w = [(u, .inr (7, [.ref e, .ref tr, .int (bI fa9)])), (e, .inl (Z 0, 64, .inl g9)), (tr, .inr (6, [.ref ra, .int (nI n9), .int d9, .int (bI k9), .int o9])), (ra, .inl (Z 0, 6, .inl f9)), (o, .inr (6, [.ref oa, .int (nI n), .int (nI dy), .int (bI ak), .int ow])), (oa, .inl (Z 0, 6, .inl f))]) 0 0 0 0 [(u, .inr (7, [.ref e, .ref tr, .int (bI (if t = 0 then fa else (chD nd n (fillF (fun way => endW way nd n f n dy ak ow) en (1 <<< nd)) t).2))])), (e, .inl (Z 0, 64, .inl ((chD nd n (fillF (fun way => endW way nd n f n dy ak ow) en (1 <<< nd)) t).1))), (tr, .inr (6, [.ref ra, .int (nI n9), .int d9, .int (bI k9), .int o9])), (ra, .inl (Z 0, 6, .inl f9)), (o, .inr (6, [.ref oa, .int (nI n), .int (nI dy), .int (bI ak), .int ow])), (oa, .inl (Z 0, 6, .inl f))] [(0, .ref u), (1, .ref o), (2, .int (nI nd)), (3, .int (nI n)), (4, .int (nI (nd - t) + (-1)))] [] 57 := by
          intro fu2
          induction fu2 with
          | zero => intro t q1 q2; exact absurd q2 (by omega)
          | succ fu2 ih2 =>
            intro t hi2 hf2  
            rcases Nat.lt_or_ge t nd with ht | ht
            · refine GG.of (ws2 := [(u, .inr (7, [.ref e, .ref tr, .int (bI (if t = 0 then fa else (chD nd n (fillF (fun way => endW way nd n f n dy ak ow) en (1 <<< nd)) t).2))])), (e, .inl (Z 0, 64, .inl ((chD nd n (fillF (fun way => endW way nd n f n dy ak ow) en (1 <<< nd)) t).1))), (tr, .inr (6, [.ref ra, .int (nI n9), .int d9, .int (bI k9), .int o9])), (ra, .inl (Z 0, 6, .inl f9)), (o, .inr (6, [.ref oa, .int (nI n), .int (nI dy), .int (bI ak), .int ow])), (oa, .inl (Z 0, 6, .inl f))]) (lv2 := [(0, .ref u), (1, .ref o), (2, .int (nI nd)), (3, .int (nI n)), (4, .int (nI (nd - 1 - t)))]) (st2 := []) (rfl) (lv_c rfl (lv_c rfl (lv_c rfl (lv_c rfl (lv_c (vi_c (show nI (nd - t) + (-1) = nI (nd - 1 - t) from by rw [show nd - t = (nd - 1 - t) + 1 by omega, pk_m1])) (rfl)))))) (rfl) ?_
              refine G_iload (q := 59) dX7_play_57 4 rfl rfl ?_
              refine G_if_ltN (tgt := 78) (q := 62) dX7_play_59 (by decide) rfl (by omega) (fun c59 => ?_) (fun c59 => ?_)
              · exact c59.elim
              · refine G_aload_n (q := 63) dX7_play_62 rfl 0 rfl rfl ?_
                refine G_iload (q := 65) dX7_play_63 4 rfl rfl ?_
                refine G_iload (q := 67) dX7_play_65 4 rfl rfl ?_
                refine G_iload_n (q := 68) dX7_play_67 rfl 3 rfl rfl ?_
                refine G_iremN (a := (nd - 1 - t)) (b := n) (q := 69) dX7_play_68 (by omega) (by omega) (by omega) rfl ?_
                refine G_callVX (As := [.int (nI (nd - 1 - t)), .int (nI ((nd - 1 - t) % n))]) (rest := []) (st2 := []) (ws2 := [(u, .inr (7, [.ref e, .ref tr, .int (bI (((chs ((nd - 1 - t) % n) ((chD nd n (fillF (fun way => endW way nd n f n dy ak ow) en (1 <<< nd)) t).1) (1 <<< (nd - 1 - t))).2).getD (if t = 0 then fa else (chD nd n (fillF (fun way => endW way nd n f n dy ak ow) en (1 <<< nd)) t).2)))])), (e, .inl (Z 0, 64, .inl ((chs ((nd - 1 - t) % n) ((chD nd n (fillF (fun way => endW way nd n f n dy ak ow) en (1 <<< nd)) t).1) (1 <<< (nd - 1 - t))).1))), (tr, .inr (6, [.ref ra, .int (nI n9), .int d9, .int (bI k9), .int o9])), (ra, .inl (Z 0, 6, .inl f9)), (o, .inr (6, [.ref oa, .int (nI n), .int (nI dy), .int (bI ak), .int ow])), (oa, .inl (Z 0, 6, .inl f))]) (q := 72) dX7_play_69 [0, 1, 2, 3] (ct_X7_chooseOn Z u e tr ra ((chD nd n (fillF (fun way => endW way nd n f n dy ak ow) en (1 <<< nd)) t).1) (if t = 0 then fa else (chD nd n (fillF (fun way => endW way nd n f n dy ak ow) en (1 <<< nd)) t).2) f9 n9 d9 k9 o9 (nd - 1 - t) ((nd - 1 - t) % n) (by omega)) (fun h => h) cs_X7_chooseOn gX7_play_X7_chooseOn rfl ⟨Nat.le_of_ble_eq_true rfl, Nat.le_of_ble_eq_true rfl⟩ ⟨rfl, rfl⟩ 0 rfl (show vwCl[7]? = some (RX7, TX7, 3) from rfl) rfl (by decide) rfl rfl (Nat.le_of_ble_eq_true rfl) ⟨by decide, by decide⟩ rfl rfl rfl rfl ?_
                refine G_iinc (y := nI (nd - (t + 1)) + (-1)) (lv2 := [(0, .ref u), (1, .ref o), (2, .int (nI nd)), (3, .int (nI n)), (4, .int (nI (nd - (t + 1)) + (-1)))]) (q := 75) dX7_play_72 4 rfl (by rw [show nd - (t + 1) = nd - 1 - t by omega]; rfl) (by decide) rfl rfl ?_
                refine G_goto (q := 57) dX7_play_75 (by decide) ?_
                refine GG.of (ws2 := [(u, .inr (7, [.ref e, .ref tr, .int (bI (if (t + 1) = 0 then fa else (chD nd n (fillF (fun way => endW way nd n f n dy ak ow) en (1 <<< nd)) (t + 1)).2))])), (e, .inl (Z 0, 64, .inl ((chD nd n (fillF (fun way => endW way nd n f n dy ak ow) en (1 <<< nd)) (t + 1)).1))), (tr, .inr (6, [.ref ra, .int (nI n9), .int d9, .int (bI k9), .int o9])), (ra, .inl (Z 0, 6, .inl f9)), (o, .inr (6, [.ref oa, .int (nI n), .int (nI dy), .int (bI ak), .int ow])), (oa, .inl (Z 0, 6, .inl f))]) (lv2 := [(0, .ref u), (1, .ref o), (2, .int (nI nd)), (3, .int (nI n)), (4, .int (nI (nd - (t + 1)) + (-1)))]) (st2 := []) (ws_c (by rw [if_neg (Nat.succ_ne_zero t), chD_2, getD_any (shp _) (if t = 0 then fa else (chD nd n (fillF (fun way => endW way nd n f n dy ak ow) en (1 <<< nd)) t).2) (chD nd n (fillF (fun way => endW way nd n f n dy ak ow) en (1 <<< nd)) t).2]) (ws_c (rfl) (ws_c (rfl) (ws_c (rfl) (ws_c (rfl) (ws_c (rfl) (rfl))))))) (rfl) (rfl) ?_
                exact ih2 (t + 1) (by omega) (by omega)  
            · have e8 : nd = t := by omega
              subst e8
              refine GG.of (ws2 := [(u, .inr (7, [.ref e, .ref tr, .int (bI (if nd = 0 then fa else (chD nd n (fillF (fun way => endW way nd n f n dy ak ow) en (1 <<< nd)) nd).2))])), (e, .inl (Z 0, 64, .inl ((chD nd n (fillF (fun way => endW way nd n f n dy ak ow) en (1 <<< nd)) nd).1))), (tr, .inr (6, [.ref ra, .int (nI n9), .int d9, .int (bI k9), .int o9])), (ra, .inl (Z 0, 6, .inl f9)), (o, .inr (6, [.ref oa, .int (nI n), .int (nI dy), .int (bI ak), .int ow])), (oa, .inl (Z 0, 6, .inl f))]) (lv2 := [(0, .ref u), (1, .ref o), (2, .int (nI nd)), (3, .int (nI n)), (4, .int (-1))]) (st2 := []) (rfl) (lv_c rfl (lv_c rfl (lv_c rfl (lv_c rfl (lv_c (vi_c (show nI (nd - nd) + (-1) = -1 from by rw [Nat.sub_self]; decide)) (rfl)))))) (rfl) ?_
              refine G_iload (q := 59) dX7_play_57 4 rfl rfl ?_
              refine G_if_ltT (tgt := 78) dX7_play_59 (by decide) (by decide) ?_
              exact G_ret dX7_play_78 rfl rfl (⟨_, _, _, _, _, _, _, rfl, rfl, if_neg (by omega), rfl⟩)
        refine GG.of (ws2 := [(u, .inr (7, [.ref e, .ref tr, .int (bI (if 0 = 0 then fa else (chD nd n (fillF (fun way => endW way nd n f n dy ak ow) en (1 <<< nd)) 0).2))])), (e, .inl (Z 0, 64, .inl ((chD nd n (fillF (fun way => endW way nd n f n dy ak ow) en (1 <<< nd)) 0).1))), (tr, .inr (6, [.ref ra, .int (nI n9), .int d9, .int (bI k9), .int o9])), (ra, .inl (Z 0, 6, .inl f9)), (o, .inr (6, [.ref oa, .int (nI n), .int (nI dy), .int (bI ak), .int ow])), (oa, .inl (Z 0, 6, .inl f))]) (lv2 := [(0, .ref u), (1, .ref o), (2, .int (nI nd)), (3, .int (nI n)), (4, .int (nI (nd - 0) + (-1)))]) (st2 := []) (ws_c (rfl) (ws_c (rfl) (ws_c (rfl) (ws_c (rfl) (ws_c (rfl) (ws_c (rfl) (rfl))))))) (lv_c rfl (lv_c rfl (lv_c rfl (lv_c rfl (lv_c (vi_c (show nI (nd - 1) = nI (nd - 0) + (-1) from by rw [Nat.sub_zero, show nd = (nd - 1) + 1 by omega, pk_m1]; rfl)) (rfl)))))) (rfl) ?_
        exact L57_2 (nd + 1) (0) (Nat.zero_le _) (by omega)  
      · refine G_iload (q := 22) dX7_play_20 4 rfl rfl ?_
        refine G_aload_n (q := 23) dX7_play_22 rfl 0 rfl rfl ?_
        refine G_get (q := 26) dX7_play_23 0 rfl (show vwCl[7]? = some (RX7, TX7, 3) from rfl) 0 (by decide) in_X7_play_X7 fl_X7_play_9 rfl rfl ?_
        refine G_alen (q := 27) dX7_play_26 1 rfl (show (tz Z)[0]? = _ from rfl) rfl ?_
        refine G_icmp_geN (tgt := 52) (q := 30) dX7_play_27 (by decide) rfl (by omega) (by omega) (fun c27 => ?_) (fun c27 => ?_)
        · exfalso; omega
        · refine G_aload_n (q := 31) dX7_play_30 rfl 0 rfl rfl ?_
          refine G_get (q := 34) dX7_play_31 0 rfl (show vwCl[7]? = some (RX7, TX7, 3) from rfl) 0 (by decide) in_X7_play_X7 fl_X7_play_9 rfl rfl ?_
          refine G_iload (q := 36) dX7_play_34 4 rfl rfl ?_
          refine G_aload_n (q := 37) dX7_play_36 rfl 0 rfl rfl ?_
          refine G_iload (q := 39) dX7_play_37 4 rfl rfl ?_
          refine G_aload_n (q := 40) dX7_play_39 rfl 1 rfl rfl ?_
          refine G_iload_n (q := 41) dX7_play_40 rfl 2 rfl rfl ?_
          refine G_iload_n (q := 42) dX7_play_41 rfl 3 rfl rfl ?_
          refine G_callVX (As := [.int (nI w), .ref o, .int (nI nd), .int (nI n)]) (rest := [.int (nI w), .ref e]) (st2 := [.int (endW w nd n f n dy ak ow), .int (nI w), .ref e]) (ws2 := [(u, .inr (7, [.ref e, .ref tr, .int (bI fa)])), (e, .inl (Z 0, 64, .inl (fillF (fun way => endW way nd n f n dy ak ow) en w))), (tr, .inr (6, [.ref ra, .int (nI n), .int (nI (dy + nd)), .int (bI ((tst w nd n f n dy ak ow nd).2.1)), .int ((tst w nd n f n dy ak ow nd).2.2)])), (ra, .inl (Z 0, 6, .inl ((tst w nd n f n dy ak ow nd).1))), (o, .inr (6, [.ref oa, .int (nI n), .int (nI dy), .int (bI ak), .int ow])), (oa, .inl (Z 0, 6, .inl f))]) (q := 45) dX7_play_42 [0, 1, 2, 3, 4, 5] (ct_X7_endOf Z u e tr ra (fillF (fun way => endW way nd n f n dy ak ow) en w) fa f9 n9 d9 k9 o9 o oa f n dy ak ow w nd n (by omega) (by omega) (by omega) (⟨Nat.le_refl _, h0⟩)) (fun h => h) cs_X7_endOf gX7_play_X7_endOf rfl ⟨Nat.le_of_ble_eq_true rfl, Nat.le_of_ble_eq_true rfl⟩ ⟨rfl, rfl⟩ 0 rfl (show vwCl[7]? = some (RX7, TX7, 3) from rfl) rfl (by decide) rfl rfl (Nat.le_of_ble_eq_true rfl) ⟨by decide, by decide⟩ rfl rfl rfl rfl ?_
          refine G_iast (ws2 := [(u, .inr (7, [.ref e, .ref tr, .int (bI fa)])), (e, .inl (Z 0, 64, .inl (upd (fillF (fun way => endW way nd n f n dy ak ow) en w) w (endW w nd n f n dy ak ow)))), (tr, .inr (6, [.ref ra, .int (nI n), .int (nI (dy + nd)), .int (bI ((tst w nd n f n dy ak ow nd).2.1)), .int ((tst w nd n f n dy ak ow nd).2.2)])), (ra, .inl (Z 0, 6, .inl ((tst w nd n f n dy ak ow nd).1))), (o, .inr (6, [.ref oa, .int (nI n), .int (nI dy), .int (bI ak), .int ow])), (oa, .inl (Z 0, 6, .inl f))]) (q := 46) dX7_play_45 1 rfl w (rfl) (by omega) (by omega) rfl rfl ?_
          refine G_iincN (x := w) (d := 1) (lv2 := [(0, .ref u), (1, .ref o), (2, .int (nI nd)), (3, .int (nI n)), (4, .int (nI (w + 1)))]) (q := 49) dX7_play_46 4 rfl (by decide) (by decide) rfl rfl ?_
          refine G_goto (q := 12) dX7_play_49 (by decide) ?_
          refine GG.of (ws2 := [(u, .inr (7, [.ref e, .ref tr, .int (bI fa)])), (e, .inl (Z 0, 64, .inl (fillF (fun way => endW way nd n f n dy ak ow) en (w + 1)))), (tr, .inr (6, [.ref ra, .int (nI n), .int (nI (dy + nd)), .int (bI ((tst w nd n f n dy ak ow nd).2.1)), .int ((tst w nd n f n dy ak ow nd).2.2)])), (ra, .inl (Z 0, 6, .inl ((tst w nd n f n dy ak ow nd).1))), (o, .inr (6, [.ref oa, .int (nI n), .int (nI dy), .int (bI ak), .int ow])), (oa, .inl (Z 0, 6, .inl f))]) (lv2 := [(0, .ref u), (1, .ref o), (2, .int (nI nd)), (3, .int (nI n)), (4, .int (nI (w + 1)))]) (st2 := []) (ws_c (rfl) (ws_c (cell_i (fill_s (fun way => endW way nd n f n dy ak ow) en w)) (ws_c (rfl) (ws_c (rfl) (ws_c (rfl) (ws_c (rfl) (rfl))))))) (rfl) (rfl) ?_
          exact ih1 (w + 1) (by omega) (by omega) ((tst w nd n f n dy ak ow nd).1) n (nI (dy + nd)) ((tst w nd n f n dy ak ow nd).2.1) ((tst w nd n f n dy ak ow nd).2.2) 
  refine GG.of (ws2 := [(u, .inr (7, [.ref e, .ref tr, .int (bI fa)])), (e, .inl (Z 0, 64, .inl (fillF (fun way => endW way nd n f n dy ak ow) en 0))), (tr, .inr (6, [.ref ra, .int (nI rn), .int rd, .int (bI rk), .int ro])), (ra, .inl (Z 0, 6, .inl rf)), (o, .inr (6, [.ref oa, .int (nI n), .int (nI dy), .int (bI ak), .int ow])), (oa, .inl (Z 0, 6, .inl f))]) (lv2 := [(0, .ref u), (1, .ref o), (2, .int (nI nd)), (3, .int (nI n)), (4, .int (nI 0))]) (st2 := []) (ws_c (rfl) (ws_c (cell_i (fill_0 _ _).symm) (ws_c (rfl) (ws_c (rfl) (ws_c (rfl) (ws_c (rfl) (rfl))))))) (rfl) (rfl) ?_
  exact L12_1 ((1 <<< nd) + 1) (0) (Nat.zero_le _) (by omega) rf rn rd rk ro 
