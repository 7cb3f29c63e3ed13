theorem it_rel {p a b c q : Nat} {F : FS} (hl : ltr (lx9 76) 76 p = 114) (hp : (pnN (lx9 76) 76 3 (p + 1) 3).map (fun x => (x.1, x.2 0, x.2 1, x.2 2)) = some (q, a, b, c)) (hF : Fn F < 6 ∧ a ≤ 4 ∧ b ≤ 99 ∧ c ≤ 9) : itN (lx9 76) 76 p F = some (addR3 F a b c, q) := by
  rcases pn_cases (L := lx9 76) (ln := 76) (many := 3) (p0 := p + 1) 3 with h | ⟨p1, g, h⟩
  · rw [h] at hp; cases hp
  · rw [h] at hp
    have e : (p1, g 0, g 1, g 2) = (q, a, b, c) := Option.some.inj hp
    simp only [Prod.mk.injEq] at e
    obtain ⟨rfl, rfl, rfl, rfl⟩ := e
    refine itN_2 (g := g) ?_ ?_
    · rw [hl]; exact h
    · rw [hl]; unfold addF; rw [if_pos rfl, if_pos hF]; rfl
theorem it_say {p a b q : Nat} {F : FS} (hl : ltr (lx9 76) 76 p = 115) (hp : (pnN (lx9 76) 76 2 (p + 1) 2).map (fun x => (x.1, x.2 0, x.2 1)) = some (q, a, b)) (hF : Fk F < 8 ∧ a < 64 ∧ b ≤ 1) : itN (lx9 76) 76 p F = some (addS2 F a b, q) := by
  rcases pn_cases (L := lx9 76) (ln := 76) (many := 2) (p0 := p + 1) 2 with h | ⟨p1, g, h⟩
  · rw [h] at hp; cases hp
  · rw [h] at hp
    have e : (p1, g 0, g 1) = (q, a, b) := Option.some.inj hp
    simp only [Prod.mk.injEq] at e
    obtain ⟨rfl, rfl, rfl⟩ := e
    refine itN_2 (g := g) ?_ ?_
    · rw [hl]; exact h
    · rw [hl]; unfold addF; rw [if_neg (show ¬ (115 : Nat) = 114 by decide), if_pos rfl, if_pos hF]; rfl
theorem it_deed {p a q : Nat} {F : FS} (hl : ltr (lx9 76) 76 p = 100) (hp : (pnN (lx9 76) 76 1 (p + 1) 1).map (fun x => (x.1, x.2 0)) = some (q, a)) (hF : a < 64) : itN (lx9 76) 76 p F = some (addD F (fun _ => a), q) := by
  rcases pn_cases (L := lx9 76) (ln := 76) (many := 1) (p0 := p + 1) 1 with h | ⟨p1, g, h⟩
  · rw [h] at hp; cases hp
  · rw [h] at hp
    have e : (p1, g 0) = (q, a) := Option.some.inj hp
    simp only [Prod.mk.injEq] at e
    obtain ⟨rfl, rfl⟩ := e
    refine itN_2 (g := g) ?_ ?_
    · rw [hl]; exact h
    · rw [hl]; unfold addF; rw [if_neg (show ¬ (100 : Nat) = 114 by decide), if_neg (show ¬ (100 : Nat) = 115 by decide), if_pos rfl, if_pos hF]; rfl
theorem it_hint {p a q : Nat} {F : FS} (hl : ltr (lx9 76) 76 p = 104) (hp : (pnN (lx9 76) 76 1 (p + 1) 1).map (fun x => (x.1, x.2 0)) = some (q, a)) (hF : 1 ≤ a ∧ a ≤ 6) : itN (lx9 76) 76 p F = some (addH F (fun _ => a), q) := by
  rcases pn_cases (L := lx9 76) (ln := 76) (many := 1) (p0 := p + 1) 1 with h | ⟨p1, g, h⟩
  · rw [h] at hp; cases hp
  · rw [h] at hp
    have e : (p1, g 0) = (q, a) := Option.some.inj hp
    simp only [Prod.mk.injEq] at e
    obtain ⟨rfl, rfl⟩ := e
    refine itN_2 (g := g) ?_ ?_
    · rw [hl]; exact h
    · rw [hl]; unfold addF; rw [if_neg (show ¬ (104 : Nat) = 114 by decide), if_neg (show ¬ (104 : Nat) = 115 by decide), if_neg (show ¬ (104 : Nat) = 100 by decide), if_pos rfl, if_pos hF]; rfl
theorem first_FI : rdF (lx9 76) 76 FM0 = FI := by
  have p1 : prS (lx9 76) 76 FM0 1 = (false, FI1, 8) := prS_y (m := 0) (x := (FI1, 8)) rfl (by decide) (it_rel (p := 0) (q := 8) (F := (clrF FM0)) (a := 0) (b := 40) (c := 1) (by decide +kernel) (by decide +kernel) (by decide))
  have p2 : prS (lx9 76) 76 FM0 2 = (false, FI2, 16) := prS_y (m := 1) (x := (FI2, 16)) (by rw [p1]) (by rw [p1]; decide) (by rw [p1]; exact it_rel (p := 8) (q := 16) (F := FI1) (a := 1) (b := 12) (c := 2) (by decide +kernel) (by decide +kernel) (by decide))
  have p3 : prS (lx9 76) 76 FM0 3 = (false, FI3, 24) := prS_y (m := 2) (x := (FI3, 24)) (by rw [p2]) (by rw [p2]; decide) (by rw [p2]; exact it_rel (p := 16) (q := 24) (F := FI2) (a := 2) (b := 55) (c := 0) (by decide +kernel) (by decide +kernel) (by decide))
  have p4 : prS (lx9 76) 76 FM0 4 = (false, FI4, 31) := prS_y (m := 3) (x := (FI4, 31)) (by rw [p3]) (by rw [p3]; decide) (by rw [p3]; exact it_rel (p := 24) (q := 31) (F := FI3) (a := 3) (b := 3) (c := 1) (by decide +kernel) (by decide +kernel) (by decide))
  have p5 : prS (lx9 76) 76 FM0 5 = (false, FI5, 39) := prS_y (m := 4) (x := (FI5, 39)) (by rw [p4]) (by rw [p4]; decide) (by rw [p4]; exact it_rel (p := 31) (q := 39) (F := FI4) (a := 4) (b := 70) (c := 9) (by decide +kernel) (by decide +kernel) (by decide))
  have p6 : prS (lx9 76) 76 FM0 6 = (false, FJ1, 44) := prS_y (m := 5) (x := (FJ1, 44)) (by rw [p5]) (by rw [p5]; decide) (by rw [p5]; exact it_say (p := 39) (q := 44) (F := FI5) (a := 1) (b := 1) (by decide +kernel) (by decide +kernel) (by decide))
  have p7 : prS (lx9 76) 76 FM0 7 = (false, FJ2, 49) := prS_y (m := 6) (x := (FJ2, 49)) (by rw [p6]) (by rw [p6]; decide) (by rw [p6]; exact it_say (p := 44) (q := 49) (F := FJ1) (a := 6) (b := 0) (by decide +kernel) (by decide +kernel) (by decide))
  have p8 : prS (lx9 76) 76 FM0 8 = (false, FJ3, 54) := prS_y (m := 7) (x := (FJ3, 54)) (by rw [p7]) (by rw [p7]; decide) (by rw [p7]; exact it_say (p := 49) (q := 54) (F := FJ2) (a := 5) (b := 1) (by decide +kernel) (by decide +kernel) (by decide))
  have p9 : prS (lx9 76) 76 FM0 9 = (false, FJ4, 60) := prS_y (m := 8) (x := (FJ4, 60)) (by rw [p8]) (by rw [p8]; decide) (by rw [p8]; exact it_say (p := 54) (q := 60) (F := FJ3) (a := 14) (b := 0) (by decide +kernel) (by decide +kernel) (by decide))
  have p10 : prS (lx9 76) 76 FM0 10 = (false, FJ5, 65) := prS_y (m := 9) (x := (FJ5, 65)) (by rw [p9]) (by rw [p9]; decide) (by rw [p9]; exact it_say (p := 60) (q := 65) (F := FJ4) (a := 8) (b := 1) (by decide +kernel) (by decide +kernel) (by decide))
  have p11 : prS (lx9 76) 76 FM0 11 = (false, FJ6, 70) := prS_y (m := 10) (x := (FJ6, 70)) (by rw [p10]) (by rw [p10]; decide) (by rw [p10]; exact it_say (p := 65) (q := 70) (F := FJ5) (a := 3) (b := 0) (by decide +kernel) (by decide +kernel) (by decide))
  have p12 : prS (lx9 76) 76 FM0 12 = (false, (addD FJ6 (fun _ => 5)), 73) := prS_y (m := 11) (x := ((addD FJ6 (fun _ => 5)), 73)) (by rw [p11]) (by rw [p11]; decide) (by rw [p11]; exact it_deed (p := 70) (q := 73) (F := FJ6) (a := 5) (by decide +kernel) (by decide +kernel) (by decide))
  have p13 : prS (lx9 76) 76 FM0 13 = (false, FI, 76) := prS_y (m := 12) (x := (FI, 76)) (by rw [p12]) (by rw [p12]; decide) (by rw [p12]; exact it_hint (p := 73) (q := 76) (F := (addD FJ6 (fun _ => 5))) (a := 2) (by decide +kernel) (by decide +kernel) (by decide))
  unfold rdF
  rw [prS_at (m := 13) (M := 200) (Or.inr (by rw [p13]; decide)) (by decide), p13]
set_option maxHeartbeats 1000000 in
theorem law_case {X : GX} {Z : Nat → ClassId} {Φ : Option Value → va_W → Prop} {k n b b9 b10 L i : Nat} {xs : Nat → Int32} {u9 u10 : va_W} (hX : XS X b L xs) (hi : i + 4 ≤ L) (hL : L ≤ 256) (hI : INV Z b9 b10 u9 u10) (hroom : k ≤ 600000 ∧ n ≤ 7302250) (next : ∀ v9 v10, INV Z b9 b10 v9 v10 → LG X Z Φ k n (v9 ++ v10) (LV b b9 b10 i) [] 815) : LG X Z Φ k n (u9 ++ u10) (LV b b9 b10 i) [.int (xs i &&& nI 31)] 32 := by
  obtain ⟨v, hv, e⟩ := pk_andE (xs i) (m := nI 31) 5 (by decide)
  rw [e]
  show GG X room_1 cL_law 4 wsL_law RL false true Z Φ 137 3683 k n (u9 ++ u10) [(0, .ref b), (1, .ref b9), (2, .ref b10), (3, .int (nI i))] [.int (nI v)] 32
  rcases Nat.lt_or_ge v 28 with h | h
  · rcases (show v = 0 ∨ v = 1 ∨ v = 2 ∨ v = 3 ∨ v = 4 ∨ v = 5 ∨ v = 6 ∨ v = 7 ∨ v = 8 ∨ v = 9 ∨ v = 10 ∨ v = 11 ∨ v = 12 ∨ v = 13 ∨ v = 14 ∨ v = 15 ∨ v = 16 ∨ v = 17 ∨ v = 18 ∨ v = 19 ∨ v = 20 ∨ v = 21 ∨ v = 22 ∨ v = 23 ∨ v = 24 ∨ v = 25 ∨ v = 26 ∨ v = 27 by omega) with rfl | rfl | rfl | rfl | rfl | rfl | rfl | rfl | rfl | rfl | rfl | rfl | rfl | rfl | rfl | rfl | rfl | rfl | rfl | rfl | rfl | rfl | rfl | rfl | rfl | rfl | rfl | rfl
    · refine G_tabI (off := 128) (q := 160) dL_law_32 (by decide) (by decide) (by decide +kernel) (by decide) ?_
      exact law_b160 hX hi hL hI hroom next
    · refine G_tabI (off := 151) (q := 183) dL_law_32 (by decide) (by decide) (by decide +kernel) (by decide) ?_
      exact law_b183 hX hi hL hI hroom next
    · refine G_tabI (off := 164) (q := 196) dL_law_32 (by decide) (by decide) (by decide +kernel) (by decide) ?_
      exact law_b196 hX hi hL hI hroom next
    · refine G_tabI (off := 177) (q := 209) dL_law_32 (by decide) (by decide) (by decide +kernel) (by decide) ?_
      exact law_b209 hX hi hL hI hroom next
    · refine G_tabI (off := 190) (q := 222) dL_law_32 (by decide) (by decide) (by decide +kernel) (by decide) ?_
      exact law_b222 hX hi hL hI hroom next
    · refine G_tabI (off := 223) (q := 255) dL_law_32 (by decide) (by decide) (by decide +kernel) (by decide) ?_
      exact law_b255 hX hi hL hI hroom next
    · refine G_tabI (off := 256) (q := 288) dL_law_32 (by decide) (by decide) (by decide +kernel) (by decide) ?_
      exact law_b288 hX hi hL hI hroom next
    · refine G_tabI (off := 289) (q := 321) dL_law_32 (by decide) (by decide) (by decide +kernel) (by decide) ?_
      exact law_b321 hX hi hL hI hroom next
    · refine G_tabI (off := 322) (q := 354) dL_law_32 (by decide) (by decide) (by decide +kernel) (by decide) ?_
      exact law_b354 hX hi hL hI hroom next
    · refine G_tabI (off := 355) (q := 387) dL_law_32 (by decide) (by decide) (by decide +kernel) (by decide) ?_
      exact law_b387 hX hi hL hI hroom next
    · refine G_tabI (off := 368) (q := 400) dL_law_32 (by decide) (by decide) (by decide +kernel) (by decide) ?_
      exact law_b400 hX hi hL hI hroom next
    · refine G_tabI (off := 391) (q := 423) dL_law_32 (by decide) (by decide) (by decide +kernel) (by decide) ?_
      exact law_b423 hX hi hL hI hroom next
    · refine G_tabI (off := 404) (q := 436) dL_law_32 (by decide) (by decide) (by decide +kernel) (by decide) ?_
      exact law_b436 hX hi hL hI hroom next
    · refine G_tabI (off := 427) (q := 459) dL_law_32 (by decide) (by decide) (by decide +kernel) (by decide) ?_
      exact law_b459 hX hi hL hI hroom next
    · refine G_tabI (off := 440) (q := 472) dL_law_32 (by decide) (by decide) (by decide +kernel) (by decide) ?_
      exact law_b472 hX hi hL hI hroom next
    · refine G_tabI (off := 463) (q := 495) dL_law_32 (by decide) (by decide) (by decide +kernel) (by decide) ?_
      exact law_b495 hX hi hL hI hroom next
    · refine G_tabI (off := 486) (q := 518) dL_law_32 (by decide) (by decide) (by decide +kernel) (by decide) ?_
      exact law_b518 hX hi hL hI hroom next
    · refine G_tabI (off := 519) (q := 551) dL_law_32 (by decide) (by decide) (by decide +kernel) (by decide) ?_
      exact law_b551 hX hi hL hI hroom next
    · refine G_tabI (off := 552) (q := 584) dL_law_32 (by decide) (by decide) (by decide +kernel) (by decide) ?_
      exact law_b584 hX hi hL hI hroom next
    · refine G_tabI (off := 565) (q := 597) dL_law_32 (by decide) (by decide) (by decide +kernel) (by decide) ?_
      exact law_b597 hX hi hL hI hroom next
    · refine G_tabI (off := 588) (q := 620) dL_law_32 (by decide) (by decide) (by decide +kernel) (by decide) ?_
      exact law_b620 hX hi hL hI hroom next
    · refine G_tabI (off := 601) (q := 633) dL_law_32 (by decide) (by decide) (by decide +kernel) (by decide) ?_
      exact law_b633 hX hi hL hI hroom next
    · refine G_tabI (off := 634) (q := 666) dL_law_32 (by decide) (by decide) (by decide +kernel) (by decide) ?_
      exact law_b666 hX hi hL hI hroom next
    · refine G_tabI (off := 647) (q := 679) dL_law_32 (by decide) (by decide) (by decide +kernel) (by decide) ?_
      exact law_b679 hX hi hL hI hroom next
    · refine G_tabI (off := 691) (q := 723) dL_law_32 (by decide) (by decide) (by decide +kernel) (by decide) ?_
      exact law_b723 hX hi hL hI hroom next
    · refine G_tabI (off := 734) (q := 766) dL_law_32 (by decide) (by decide) (by decide +kernel) (by decide) ?_
      exact law_b766 hX hi hL hI hroom next
    · refine G_tabI (off := 747) (q := 779) dL_law_32 (by decide) (by decide) (by decide +kernel) (by decide) ?_
      exact law_b779 hX hi hL hI hroom next
    · refine G_tabI (off := 760) (q := 792) dL_law_32 (by decide) (by decide) (by decide +kernel) (by decide) ?_
      exact law_b792 hX hi hL hI hroom next
  · refine G_tabO (q := 815) dL_law_32 (Or.inr ?_) (by decide) ?_
    · have hv2 : v < 32 := hv
      rw [nI_toInt (by omega)]; omega
    · exact next u9 u10 hI
theorem neg_lt {L i : Nat} (h : L < 4) (hi : i ≤ 256) : nI L - nI 4 < nI i := by
  rw [Int32.lt_iff_toInt_lt, nI_toInt (n := i) (by omega)]
  rcases (show L = 0 ∨ L = 1 ∨ L = 2 ∨ L = 3 by omega) with rfl | rfl | rfl | rfl
  · have e : (nI 0 - nI 4).toInt = -4 := by decide
    omega
  · have e : (nI 1 - nI 4).toInt = -3 := by decide
    omega
  · have e : (nI 2 - nI 4).toInt = -2 := by decide
    omega
  · have e : (nI 3 - nI 4).toInt = -1 := by decide
    omega
theorem law_loop {X : GX} {Z : Nat → ClassId} {Φ : Option Value → va_W → Prop} {k n b b9 b10 L : Nat} {xs : Nat → Int32} (hX : XS X b L xs) (hL : L ≤ 256) (hroom : k ≤ 600000 ∧ n ≤ 7302250) (hfin : ∀ v9 v10 i, INV Z b9 b10 v9 v10 → LG X Z Φ k n (v9 ++ v10) (LV b b9 b10 i) [] 821) :
    ∀ fu i u9 u10, i ≤ 256 → L + 5 ≤ i + fu → INV Z b9 b10 u9 u10 → LG X Z Φ k n (u9 ++ u10) (LV b b9 b10 i) [] 18
  | 0, i, u9, u10, h1, h2, hI => by
    show GG X room_1 cL_law 4 wsL_law RL false true Z Φ 137 3683 k n (u9 ++ u10) [(0, .ref b), (1, .ref b9), (2, .ref b10), (3, .int (nI i))] [] 18
    refine G_iload_n (q := 19) dL_law_18 rfl 3 rfl rfl ?_
    refine G_aload_n (q := 20) dL_law_19 rfl 0 rfl rfl ?_
    refine G_slen hX (q := 21) dL_law_20 rfl ?_
    refine G_iconst (v := nI 4) (q := 22) dL_law_21 (by decide) rfl ?_
    rcases Nat.lt_or_ge L 4 with h4 | h4
    · refine G_isub (q := 23) dL_law_22 rfl ?_
      refine G_icmp_gtT (tgt := 821) dL_law_23 (by decide) (neg_lt h4 h1) ?_
      exact hfin u9 u10 i hI
    · refine G_isubN (a := L) (b := 4) (q := 23) dL_law_22 h4 rfl ?_
      refine G_icmp_gtN (tgt := 821) (q := 26) dL_law_23 (by decide) rfl (by omega) (by omega) (fun c => ?_) (fun c => ?_)
      · exact hfin u9 u10 i hI
      · exfalso; omega
  | fu + 1, i, u9, u10, h1, h2, hI => by
    show GG X room_1 cL_law 4 wsL_law RL false true Z Φ 137 3683 k n (u9 ++ u10) [(0, .ref b), (1, .ref b9), (2, .ref b10), (3, .int (nI i))] [] 18
    refine G_iload_n (q := 19) dL_law_18 rfl 3 rfl rfl ?_
    refine G_aload_n (q := 20) dL_law_19 rfl 0 rfl rfl ?_
    refine G_slen hX (q := 21) dL_law_20 rfl ?_
    refine G_iconst (v := nI 4) (q := 22) dL_law_21 (by decide) rfl ?_
    rcases Nat.lt_or_ge L 4 with h4 | h4
    · refine G_isub (q := 23) dL_law_22 rfl ?_
      refine G_icmp_gtT (tgt := 821) dL_law_23 (by decide) (neg_lt h4 h1) ?_
      exact hfin u9 u10 i hI
    · refine G_isubN (a := L) (b := 4) (q := 23) dL_law_22 h4 rfl ?_
      refine G_icmp_gtN (tgt := 821) (q := 26) dL_law_23 (by decide) rfl (by omega) (by omega) (fun c => ?_) (fun c => ?_)
      · exact hfin u9 u10 i hI
      · refine G_aload_n (q := 27) dL_law_26 rfl 0 rfl rfl ?_
        refine G_iload_n (q := 28) dL_law_27 rfl 3 rfl rfl ?_
        refine G_sld (j := i) hX (by omega) hL (q := 29) dL_law_28 rfl ?_
        refine G_bipush (v := nI 31) (q := 31) dL_law_29 (by decide) rfl ?_
        refine G_iand (q := 32) dL_law_31 rfl ?_
        refine law_case hX (by omega) hL hI hroom (fun v9 v10 hI2 => ?_)
        show GG X room_1 cL_law 4 wsL_law RL false true Z Φ 137 3683 k n (v9 ++ v10) [(0, .ref b), (1, .ref b9), (2, .ref b10), (3, .int (nI i))] [] 815
        refine G_iincN (x := i) (d := 4) (lv2 := LV b b9 b10 (i + 4)) (q := 818) dL_law_815 3 rfl (by decide) (by decide) rfl rfl ?_
        refine G_goto (q := 18) dL_law_818 (by decide) ?_
        exact law_loop hX hL hroom hfin fu (i + 4) v9 v10 (by omega) (by omega) hI2
