/-! PART 13: the String constant -/
section
variable {X : GX} {R : Room} {cc : ByteArray} {nL : Nat} {Ts : List Cond} {own : String} {ini sb : Bool} {Z : Nat → ClassId} {Φ : Option Value → va_W → Prop} {mc ms k n : Nat} {ws : va_W} {lv : List (Nat × Value)} {st : List Value} {pc q : Nat}
theorem G_ldcS (hsb : sb = true) (ho : own = RX9) (hd : decode cc pc = .ok (.ldc 73, 2)) (hq : pc + 2 = q) (kk : GG X R cc nL Ts own ini sb Z Φ mc ms k n ws lv (.ref (Z 4) :: st) q) : GG X R cc nL Ts own ini sb Z Φ mc ms k n ws lv (st) pc := by
  obtain ⟨p, l, e, s, m, args, below, meth, c, D, A, Q⟩ := X
  intro S I E F H locs ls hW hl
  obtain ⟨hx, hb, hml, hown, hts⟩ := id S
  obtain ⟨hK, hP, hD, hS, hA⟩ := id hW
  obtain ⟨h1, h2, h3, h4⟩ := E.2.2 hsb
  subst hq
  subst ho
  exact va_ldcS hx hb hown h1 hd (kk S I E F H locs ls hW hl)
theorem G_getsC {index : Nat} (hsb : sb = true) (hm : Cond.fieldLink own index "java/lang/String" "COMPACT_STRINGS" "Z" ∈ Ts) (hd : decode cc pc = .ok (.getstatic index, 3)) (hq : pc + 3 = q) (kk : GG X R cc nL Ts own ini sb Z Φ mc ms k n ws lv (.int (nI 1) :: st) q) : GG X R cc nL Ts own ini sb Z Φ mc ms k n ws lv (st) pc := by
  obtain ⟨p, l, e, s, m, args, below, meth, c, D, A, Q⟩ := X
  intro S I E F H locs ls hW hl
  obtain ⟨hx, hb, hml, hown, hts⟩ := id S
  obtain ⟨hK, hP, hD, hS, hA⟩ := id hW
  obtain ⟨h1, h2, h3, h4⟩ := E.2.2 hsb
  subst hq
  exact va_gets hx hb h3 hS hown (hts _ hm) (fun _ h => h) hd (kk S I E F H locs ls hW hl)
theorem G_getsF {index : Nat} (hsb : sb = true) (hm : Cond.fieldLink own index "jdk/internal/util/Preconditions" "SIOOBE_FORMATTER" "Ljava/util/function/BiFunction;" ∈ Ts) (hd : decode cc pc = .ok (.getstatic index, 3)) (hq : pc + 3 = q) (kn : GG X R cc nL Ts own ini sb Z Φ mc ms k n ws lv (.null :: st) q) (kr : ∀ t : Nat, GG X R cc nL Ts own ini sb Z Φ mc ms k n ws lv (.ref t :: st) q) : GG X R cc nL Ts own ini sb Z Φ mc ms k n ws lv (st) pc := by
  obtain ⟨p, l, e, s, m, args, below, meth, c, D, A, Q⟩ := X
  intro S I E F H locs ls hW hl
  obtain ⟨hx, hb, hml, hown, hts⟩ := id S
  obtain ⟨hK, hP, hD, hS, hA⟩ := id hW
  obtain ⟨h1, h2, h3, h4⟩ := E.2.2 hsb
  subst hq
  rcases h4 with h4 | ⟨t, h4⟩
  · exact va_gets hx hb h4 hS hown (hts _ hm) (fun _ h => h) hd (kn S I E F H locs ls hW hl)
  · exact va_gets hx hb h4 hS hown (hts _ hm) (fun _ h => h) hd (kr t S I E F H locs ls hW hl)
theorem G_sgetC {index : Nat} (hsb : sb = true) (hm : Cond.fieldLink own index "java/lang/String" "coder" "B" ∈ Ts) (hd : decode cc pc = .ok (.getfield index, 3)) (hq : pc + 3 = q) (kk : GG X R cc nL Ts own ini sb Z Φ mc ms k n ws lv (.int (nI 0) :: st) q) : GG X R cc nL Ts own ini sb Z Φ mc ms k n ws lv (.ref (Z 4) :: st) pc := by
  obtain ⟨p, l, e, s, m, args, below, meth, c, D, A, Q⟩ := X
  intro S I E F H locs ls hW hl
  obtain ⟨hx, hb, hml, hown, hts⟩ := id S
  obtain ⟨hK, hP, hD, hS, hA⟩ := id hW
  obtain ⟨h1, h2, h3, h4⟩ := E.2.2 hsb
  subst hq
  exact vk_getf hx hb (h2.1 0 (by decide)).2.1 hS hown (hts _ hm) (fun _ h => h) hd (kk S I E F H locs ls hW hl)
theorem G_sgetV {index : Nat} (hsb : sb = true) (hm : Cond.fieldLink own index "java/lang/String" "value" "[B" ∈ Ts) (hd : decode cc pc = .ok (.getfield index, 3)) (hq : pc + 3 = q) (kk : GG X R cc nL Ts own ini sb Z Φ mc ms k n ws lv (.ref (Z 5) :: st) q) : GG X R cc nL Ts own ini sb Z Φ mc ms k n ws lv (.ref (Z 4) :: st) pc := by
  obtain ⟨p, l, e, s, m, args, below, meth, c, D, A, Q⟩ := X
  intro S I E F H locs ls hW hl
  obtain ⟨hx, hb, hml, hown, hts⟩ := id S
  obtain ⟨hK, hP, hD, hS, hA⟩ := id hW
  obtain ⟨h1, h2, h3, h4⟩ := E.2.2 hsb
  subst hq
  exact vk_getf hx hb (h2.1 0 (by decide)).2.2.1 hS hown (hts _ hm) (fun _ h => h) hd (kk S I E F H locs ls hW hl)
theorem G_tlen (hsb : sb = true) (hd : decode cc pc = .ok (.arraylength, 1)) (hq : pc + 1 = q) (kk : GG X R cc nL Ts own ini sb Z Φ mc ms k n ws lv (.int (nI 76) :: st) q) : GG X R cc nL Ts own ini sb Z Φ mc ms k n ws lv (.ref (Z 5) :: st) pc := by
  obtain ⟨p, l, e, s, m, args, below, meth, c, D, A, Q⟩ := X
  intro S I E F H locs ls hW hl
  obtain ⟨hx, hb, hml, hown, hts⟩ := id S
  obtain ⟨hK, hP, hD, hS, hA⟩ := id hW
  obtain ⟨h1, h2, h3, h4⟩ := E.2.2 hsb
  subst hq
  exact va_tlen hx hb (h2.1 0 (by decide)).2.2.2 hS rfl hd (kk S I E F H locs ls hW hl)
theorem G_tb {j : Nat} (hsb : sb = true) (hj : j < 76) (hd : decode cc pc = .ok (.baload, 1)) (hq : pc + 1 = q) (kk : GG X R cc nL Ts own ini sb Z Φ mc ms k n ws lv (.int (bx0.getD j 0) :: st) q) : GG X R cc nL Ts own ini sb Z Φ mc ms k n ws lv (.int (nI j) :: .ref (Z 5) :: st) pc := by
  obtain ⟨p, l, e, s, m, args, below, meth, c, D, A, Q⟩ := X
  intro S I E F H locs ls hW hl
  obtain ⟨hx, hb, hml, hown, hts⟩ := id S
  obtain ⟨hK, hP, hD, hS, hA⟩ := id hW
  obtain ⟨h1, h2, h3, h4⟩ := E.2.2 hsb
  subst hq
  refine va_tb hx hb (h2.1 0 (by decide)).2.2.2 hS (i := nI j) (vp_in_nI hj (by decide)) (v := .int (bx0.getD j 0)) ?_ hd (kk S I E F H locs ls hW hl)
  rw [nI_clamp (by omega)]; rfl
/-- a method of the String constant -/
theorem G_callVK {y : MethodName} {Tc : List Cond} {Rc : Room} {bytes : ByteArray} {maxL nn index : Nat} {ret : Option FieldType} {As rest st2 : List Value} {v : Option Value} (hsb : sb = true) (hd : decode cc pc = .ok (.invokevirtual index, 3))
    (hC : Ct true y Tc Rc (.ref (Z 4) :: As) Z [] (rX v []) 0 0) (hk : CS y Tc bytes maxL ret nn) (hG : GoodIn Ts (wsV own index RJ0 y Tc)) (hcls : y.cls = RJ0) (hR : Rc.frames + 1 ≤ R.frames ∧ 8 + (maxL + 11) + Rc.locals ≤ R.locals) (hrm : Rc.cells = 0 ∧ Rc.slots = 0)
    (hAs : As.length = nn) (hst : st = As.reverse ++ .ref (Z 4) :: rest) (hcat : (rest.map fun v => v.category).sum ≤ 8) (hroom : k ≤ R.cells ∧ n ≤ R.slots)
    (hst2 : v.toList ++ rest = st2) (hq : pc + 3 = q) (kk : GG X R cc nL Ts own ini sb Z Φ mc ms k n ws lv (st2) q) : GG X R cc nL Ts own ini sb Z Φ mc ms k n ws lv (st) pc := by
  subst hq; subst hst2
  obtain ⟨⟨w2, hw⟩, hy1, hy2, hy3⟩ := hk
  refine G_run (sb2 := true) (rest := rest) [] rfl rfl (fun p l e s m args below meth c D A H locs ls S hls hK hP hP0 hD0 hEE hM => ?_) (fun _ => hsb) hC (fun v w1 h _ => ?_) (fun v w1 h => by rw [h.2])
  · refine va_runV S hM (cwV nn S.2.2.2.2 hG hw hrm.1 hrm.2 ⟨hcls, hy1, hy2, hy3⟩ hR) ⟨fb_Ct, ?_, fun U hU hW => ⟨rfl, by rw [hU], by rw [hU]; exact hP0, va_K.moved hW.alike hK, hD0, hEE U hU hW⟩⟩ rfl hAs hls hst (lv_room hcat) hd hroom
    have hE := hEE { s with heap := H } rfl (State.WarmedH.refl s)
    obtain ⟨h1, h2, h3, h4⟩ := hE.2.2 rfl
    obtain ⟨cell, c1, c2, c3, -⟩ := (h2.1 0 (by decide)).1
    exact ⟨cell, c1, c2, c3⟩
  · obtain ⟨rfl, rfl⟩ := h
    exact kk
end
/-- its letters -/
def tx9 (k : Nat) : Nat := (bx0.getD k 0).toNatClampNeg
theorem tx9_all : ∀ k, k < 76 → ((bx0.getD k 0 &&& nI 255).toUInt32 % 65536).toInt32 = nI (tx9 k) ∧ tx9 k < 128 := by decide +kernel
theorem tx9_i {k : Nat} (h : k < 76) : ((bx0.getD k 0 &&& nI 255).toUInt32 % 65536).toInt32 = nI (tx9 k) := (tx9_all k h).1
def lx9 (i : Nat) : Nat → Nat := fun j => if j < i then tx9 j else 0
theorem lx9_0 : lx9 0 = fun _ => 0 := by funext j; simp [lx9]
theorem lx9_s (i : Nat) : updN (lx9 i) i (tx9 i) = lx9 (i + 1) := by
  funext j; unfold updN lx9
  by_cases h : j = i
  · subst h; simp
  · by_cases h2 : j < i
    · simp [h, h2, Nat.lt_succ_of_lt h2]
    · have h3 : ¬ j < i + 1 := by omega
      simp [h, h2, h3]
theorem lx9_lt {i : Nat} (hi : i ≤ 76) (j : Nat) : lx9 i j < 128 := by
  unfold lx9; split
  · exact (tx9_all j (by omega)).2
  · decide
def S00 : DS := S0
def P00 : PS := mkP 0 0 (fun _ => S0)

theorem cs_J0_coder_7d493 : CS yJ0_coder_7d493 wsJ0_coder_7d493 cJ0_coder_7d493 1 (some .byte) 0 := ⟨⟨_, rfl⟩, by decide +kernel, by decide +kernel, by decide +kernel⟩
set_option maxHeartbeats 4000000 in
set_option maxRecDepth 100000 in
theorem ct_J0_coder_7d493 (Z : Nat → ClassId)  : Ct true yJ0_coder_7d493 wsJ0_coder_7d493 ({ frames := 0, cells := 0, slots := 0, locals := 0 }) [.ref (Z 4)] Z [] (rI (nI 0) []) 0 0 := by
  refine Ct_of (cc := cJ0_coder_7d493) (maxL := 1) (ret := (some .byte)) (own := RJ0) false true (by decide +kernel) rfl rfl (by decide) (fun v w h => by rw [h.1]; exact ⟨_, rfl, rfl⟩) (Nat.le_of_ble_eq_true rfl) (fun X => ?_)
  show GG X _ _ _ _ _ _ _ _ _ _ _ _ _ _ [(0, .ref (Z 4))] _ _
  refine G_getsC (q := 3) rfl (by decide +kernel) dJ0_coder_7d493_0 rfl ?_
  refine G_if_eqF (tgt := 13) (q := 6) dJ0_coder_7d493_3 (by decide) rfl (by decide) ?_
  refine G_aload_n (q := 7) dJ0_coder_7d493_6 rfl 0 rfl rfl ?_
  refine G_sgetC (q := 10) rfl (by decide +kernel) dJ0_coder_7d493_7 rfl ?_
  refine G_goto (q := 14) dJ0_coder_7d493_10 (by decide) ?_
  exact G_iret dJ0_coder_7d493_14 rfl rfl ⟨rfl, rfl⟩
theorem cs_J0_length_8abf5 : CS yJ0_length_8abf5 wsJ0_length_8abf5 cJ0_length_8abf5 1 (some .int) 0 := ⟨⟨_, rfl⟩, by decide +kernel, by decide +kernel, by decide +kernel⟩
set_option maxHeartbeats 4000000 in
set_option maxRecDepth 100000 in
theorem ct_J0_length_8abf5 (Z : Nat → ClassId)  : Ct true yJ0_length_8abf5 wsJ0_length_8abf5 ({ frames := 1, cells := 0, slots := 0, locals := 20 }) [.ref (Z 4)] Z [] (rI (nI 76) []) 0 0 := by
  refine Ct_of (cc := cJ0_length_8abf5) (maxL := 1) (ret := (some .int)) (own := RJ0) false true (by decide +kernel) rfl rfl (by decide) (fun v w h => by rw [h.1]; exact ⟨_, rfl, rfl⟩) (Nat.le_of_ble_eq_true rfl) (fun X => ?_)
  show GG X _ _ _ _ _ _ _ _ _ _ _ _ _ _ [(0, .ref (Z 4))] _ _
  refine G_aload_n (q := 1) dJ0_length_8abf5_0 rfl 0 rfl rfl ?_
  refine G_sgetV (q := 4) rfl (by decide +kernel) dJ0_length_8abf5_1 rfl ?_
  refine G_tlen (q := 5) rfl dJ0_length_8abf5_4 rfl ?_
  refine G_aload_n (q := 6) dJ0_length_8abf5_5 rfl 0 rfl rfl ?_
  refine G_callVK (As := []) (rest := [.int (nI 76)]) (st2 := [.int (nI 0), .int (nI 76)]) (q := 9) rfl dJ0_length_8abf5_6 (ct_J0_coder_7d493 Z ) cs_J0_coder_7d493 gJ0_length_8abf5_J0_coder_7d493 rfl ⟨Nat.le_of_ble_eq_true rfl, Nat.le_of_ble_eq_true rfl⟩ ⟨rfl, rfl⟩ rfl rfl (Nat.le_of_ble_eq_true rfl) ⟨by decide, by decide⟩ rfl rfl ?_
  refine G_ishrE (q := 10) dJ0_length_8abf5_9 (nI 76) (by decide) rfl ?_
  exact G_iret dJ0_length_8abf5_10 rfl rfl ⟨rfl, rfl⟩
theorem cs_J0_isLatin1_aae02 : CS yJ0_isLatin1_aae02 wsJ0_isLatin1_aae02 cJ0_isLatin1_aae02 1 (some .boolean) 0 := ⟨⟨_, rfl⟩, by decide +kernel, by decide +kernel, by decide +kernel⟩
set_option maxHeartbeats 4000000 in
set_option maxRecDepth 100000 in
theorem ct_J0_isLatin1_aae02 (Z : Nat → ClassId)  : Ct true yJ0_isLatin1_aae02 wsJ0_isLatin1_aae02 ({ frames := 0, cells := 0, slots := 0, locals := 0 }) [.ref (Z 4)] Z [] (rI (bI true) []) 0 0 := by
  refine Ct_of (cc := cJ0_isLatin1_aae02) (maxL := 1) (ret := (some .boolean)) (own := RJ0) false true (by decide +kernel) rfl rfl (by decide) (fun v w h => by rw [h.1]; exact ⟨_, rfl, bI_01 _⟩) (Nat.le_of_ble_eq_true rfl) (fun X => ?_)
  show GG X _ _ _ _ _ _ _ _ _ _ _ _ _ _ [(0, .ref (Z 4))] _ _
  refine G_getsC (q := 3) rfl (by decide +kernel) dJ0_isLatin1_aae02_0 rfl ?_
  refine G_if_eqF (tgt := 17) (q := 6) dJ0_isLatin1_aae02_3 (by decide) rfl (by decide) ?_
  refine G_aload_n (q := 7) dJ0_isLatin1_aae02_6 rfl 0 rfl rfl ?_
  refine G_sgetC (q := 10) rfl (by decide +kernel) dJ0_isLatin1_aae02_7 rfl ?_
  refine G_if_neF (tgt := 17) (q := 13) dJ0_isLatin1_aae02_10 (by decide) rfl (by decide) ?_
  refine G_iconst (v := nI 1) (q := 14) dJ0_isLatin1_aae02_13 (by decide) rfl ?_
  refine G_goto (q := 18) dJ0_isLatin1_aae02_14 (by decide) ?_
  refine GG.of (ws2 := []) (lv2 := [(0, .ref (Z 4))]) (st2 := [.int (bI true)]) (rfl) (rfl) (st_c (vi_c (show nI 1 = bI true from rfl)) (rfl)) ?_
  exact G_iret dJ0_isLatin1_aae02_18 rfl rfl ⟨rfl, rfl⟩
theorem cs_J3_checkIndex_8e157 : CS yJ3_checkIndex_8e157 wsJ3_checkIndex_8e157 cJ3_checkIndex_8e157 3 (some .int) 3 := ⟨⟨_, rfl⟩, by decide +kernel, by decide +kernel, by decide +kernel⟩
set_option maxHeartbeats 4000000 in
set_option maxRecDepth 100000 in
theorem ct_J3_checkIndex_8e157_nul (Z : Nat → ClassId) (kk : Nat) (nn : Nat) (hk : kk < nn) (hn : nn < 1000): Ct true yJ3_checkIndex_8e157 wsJ3_checkIndex_8e157 ({ frames := 0, cells := 0, slots := 0, locals := 0 }) [.int (nI kk), .int (nI nn), .null] Z [] (rI (nI kk) []) 0 0 := by
  refine Ct_of (cc := cJ3_checkIndex_8e157) (maxL := 3) (ret := (some .int)) (own := RJ3) false true (by decide +kernel) rfl rfl (by decide) (fun v w h => by rw [h.1]; exact ⟨_, rfl, rfl⟩) (Nat.le_of_ble_eq_true rfl) (fun X => ?_)
  show GG X _ _ _ _ _ _ _ _ _ _ _ _ _ _ [(0, .int (nI kk)), (1, .int (nI nn)), (2, .null)] _ _
  refine G_iload_n (q := 1) dJ3_checkIndex_8e157_0 rfl 0 rfl rfl ?_
  refine G_if_ltN (tgt := 9) (q := 4) dJ3_checkIndex_8e157_1 (by decide) rfl (by omega) (fun c1 => ?_) (fun c1 => ?_)
  · exact c1.elim
  · refine G_iload_n (q := 5) dJ3_checkIndex_8e157_4 rfl 0 rfl rfl ?_
    refine G_iload_n (q := 6) dJ3_checkIndex_8e157_5 rfl 1 rfl rfl ?_
    refine G_icmp_ltN (tgt := 16) (q := 9) dJ3_checkIndex_8e157_6 (by decide) rfl (by omega) (by omega) (fun c6 => ?_) (fun c6 => ?_)
    · refine G_iload_n (q := 17) dJ3_checkIndex_8e157_16 rfl 0 rfl rfl ?_
      exact G_iret dJ3_checkIndex_8e157_17 rfl rfl ⟨rfl, rfl⟩
    · exfalso; omega
set_option maxHeartbeats 4000000 in
set_option maxRecDepth 100000 in
theorem ct_J3_checkIndex_8e157_ref (Z : Nat → ClassId) (kk : Nat) (nn : Nat) (fv : Nat) (hk : kk < nn) (hn : nn < 1000): Ct true yJ3_checkIndex_8e157 wsJ3_checkIndex_8e157 ({ frames := 0, cells := 0, slots := 0, locals := 0 }) [.int (nI kk), .int (nI nn), .ref fv] Z [] (rI (nI kk) []) 0 0 := by
  refine Ct_of (cc := cJ3_checkIndex_8e157) (maxL := 3) (ret := (some .int)) (own := RJ3) false true (by decide +kernel) rfl rfl (by decide) (fun v w h => by rw [h.1]; exact ⟨_, rfl, rfl⟩) (Nat.le_of_ble_eq_true rfl) (fun X => ?_)
  show GG X _ _ _ _ _ _ _ _ _ _ _ _ _ _ [(0, .int (nI kk)), (1, .int (nI nn)), (2, .ref fv)] _ _
  refine G_iload_n (q := 1) dJ3_checkIndex_8e157_0 rfl 0 rfl rfl ?_
  refine G_if_ltN (tgt := 9) (q := 4) dJ3_checkIndex_8e157_1 (by decide) rfl (by omega) (fun c1 => ?_) (fun c1 => ?_)
  · exact c1.elim
  · refine G_iload_n (q := 5) dJ3_checkIndex_8e157_4 rfl 0 rfl rfl ?_
    refine G_iload_n (q := 6) dJ3_checkIndex_8e157_5 rfl 1 rfl rfl ?_
    refine G_icmp_ltN (tgt := 16) (q := 9) dJ3_checkIndex_8e157_6 (by decide) rfl (by omega) (by omega) (fun c6 => ?_) (fun c6 => ?_)
    · refine G_iload_n (q := 17) dJ3_checkIndex_8e157_16 rfl 0 rfl rfl ?_
      exact G_iret dJ3_checkIndex_8e157_17 rfl rfl ⟨rfl, rfl⟩
    · exfalso; omega
theorem cs_J0_checkIndex_df160 : CS yJ0_checkIndex_df160 wsJ0_checkIndex_df160 cJ0_checkIndex_df160 2 none 2 := ⟨⟨_, rfl⟩, by decide +kernel, by decide +kernel, by decide +kernel⟩
set_option maxHeartbeats 4000000 in
set_option maxRecDepth 100000 in
theorem ct_J0_checkIndex_df160 (Z : Nat → ClassId) (kk : Nat) (nn : Nat) (hk : kk < nn) (hn : nn < 1000): Ct true yJ0_checkIndex_df160 wsJ0_checkIndex_df160 ({ frames := 1, cells := 0, slots := 0, locals := 22 }) [.int (nI kk), .int (nI nn)] Z [] (rV []) 0 0 := by
  refine Ct_of (cc := cJ0_checkIndex_df160) (maxL := 2) (ret := none) (own := RJ0) false true (by decide +kernel) rfl rfl (by decide) (fun v w h => by rw [h.1]; rfl) (Nat.le_of_ble_eq_true rfl) (fun X => ?_)
  show GG X _ _ _ _ _ _ _ _ _ _ _ _ _ _ [(0, .int (nI kk)), (1, .int (nI nn))] _ _
  refine G_iload_n (q := 1) dJ0_checkIndex_df160_0 rfl 0 rfl rfl ?_
  refine G_iload_n (q := 2) dJ0_checkIndex_df160_1 rfl 1 rfl rfl ?_
  refine G_getsF (q := 5) rfl (by decide +kernel) dJ0_checkIndex_df160_2 rfl ?_ (fun fv => ?_)
  · refine G_callSP (As := [.int (nI kk), .int (nI nn), .null]) (rest := []) (st2 := [.int (nI kk)]) (q := 8) dJ0_checkIndex_df160_5 [] (ct_J3_checkIndex_8e157_nul Z kk nn (hk) (hn)) (fun h => h) cs_J3_checkIndex_8e157 gJ0_checkIndex_df160_J3_checkIndex_8e157 ⟨Nat.le_of_ble_eq_true rfl, Nat.le_of_ble_eq_true rfl⟩ ⟨rfl, rfl⟩ rfl (by decide) rfl rfl (Nat.le_of_ble_eq_true rfl) ⟨by decide, by decide⟩ rfl rfl ?_
    refine G_pop (q := 9) dJ0_checkIndex_df160_8 rfl rfl ?_
    exact G_ret dJ0_checkIndex_df160_9 rfl rfl ⟨rfl, rfl⟩
  · refine G_callSP (As := [.int (nI kk), .int (nI nn), .ref fv]) (rest := []) (st2 := [.int (nI kk)]) (q := 8) dJ0_checkIndex_df160_5 [] (ct_J3_checkIndex_8e157_ref Z kk nn fv (hk) (hn)) (fun h => h) cs_J3_checkIndex_8e157 gJ0_checkIndex_df160_J3_checkIndex_8e157 ⟨Nat.le_of_ble_eq_true rfl, Nat.le_of_ble_eq_true rfl⟩ ⟨rfl, rfl⟩ rfl (by decide) rfl rfl (Nat.le_of_ble_eq_true rfl) ⟨by decide, by decide⟩ rfl rfl ?_
    refine G_pop (q := 9) dJ0_checkIndex_df160_8 rfl rfl ?_
    exact G_ret dJ0_checkIndex_df160_9 rfl rfl ⟨rfl, rfl⟩
theorem cs_J1_charAt_3b067 : CS yJ1_charAt_3b067 wsJ1_charAt_3b067 cJ1_charAt_3b067 2 (some .char) 2 := ⟨⟨_, rfl⟩, by decide +kernel, by decide +kernel, by decide +kernel⟩
set_option maxHeartbeats 4000000 in
set_option maxRecDepth 100000 in
theorem ct_J1_charAt_3b067 (Z : Nat → ClassId) (kk : Nat) (hk : kk < 76): Ct true yJ1_charAt_3b067 wsJ1_charAt_3b067 ({ frames := 2, cells := 0, slots := 0, locals := 43 }) [.ref (Z 5), .int (nI kk)] Z [] (rI (nI (tx9 kk)) []) 0 0 := by
  refine Ct_of (cc := cJ1_charAt_3b067) (maxL := 2) (ret := (some .char)) (own := RJ1) false true (by decide +kernel) rfl rfl (by decide) (fun v w h => by rw [h.1]; exact ⟨_, rfl, (c7_all _ (tx9_all _ hk).2).2.1⟩) (Nat.le_of_ble_eq_true rfl) (fun X => ?_)
  show GG X _ _ _ _ _ _ _ _ _ _ _ _ _ _ [(0, .ref (Z 5)), (1, .int (nI kk))] _ _
  refine G_iload_n (q := 1) dJ1_charAt_3b067_0 rfl 1 rfl rfl ?_
  refine G_aload_n (q := 2) dJ1_charAt_3b067_1 rfl 0 rfl rfl ?_
  refine G_tlen (q := 3) rfl dJ1_charAt_3b067_2 rfl ?_
  refine G_callSP (As := [.int (nI kk), .int (nI 76)]) (rest := []) (st2 := []) (q := 6) dJ1_charAt_3b067_3 [] (ct_J0_checkIndex_df160 Z kk 76 (hk) (by decide)) (fun h => h) cs_J0_checkIndex_df160 gJ1_charAt_3b067_J0_checkIndex_df160 ⟨Nat.le_of_ble_eq_true rfl, Nat.le_of_ble_eq_true rfl⟩ ⟨rfl, rfl⟩ rfl (by decide) rfl rfl (Nat.le_of_ble_eq_true rfl) ⟨by decide, by decide⟩ rfl rfl ?_
  refine G_aload_n (q := 7) dJ1_charAt_3b067_6 rfl 0 rfl rfl ?_
  refine G_iload_n (q := 8) dJ1_charAt_3b067_7 rfl 1 rfl rfl ?_
  refine G_tb (j := kk) (q := 9) rfl (by omega) dJ1_charAt_3b067_8 rfl ?_
  refine G_sipush (v := nI 255) (q := 12) dJ1_charAt_3b067_9 (by decide) rfl ?_
  refine G_iand (q := 13) dJ1_charAt_3b067_12 rfl ?_
  refine G_i2c (z := nI (tx9 kk)) (q := 14) dJ1_charAt_3b067_13 (tx9_i hk) rfl ?_
  exact G_iret dJ1_charAt_3b067_14 rfl rfl ⟨rfl, rfl⟩
theorem cs_J0_charAt_5068e : CS yJ0_charAt_5068e wsJ0_charAt_5068e cJ0_charAt_5068e 2 (some .char) 1 := ⟨⟨_, rfl⟩, by decide +kernel, by decide +kernel, by decide +kernel⟩
set_option maxHeartbeats 4000000 in
set_option maxRecDepth 100000 in
theorem ct_J0_charAt_5068e (Z : Nat → ClassId) (kk : Nat) (hk : kk < 76): Ct true yJ0_charAt_5068e wsJ0_charAt_5068e ({ frames := 3, cells := 0, slots := 0, locals := 64 }) [.ref (Z 4), .int (nI kk)] Z [] (rI (nI (tx9 kk)) []) 0 0 := by
  refine Ct_of (cc := cJ0_charAt_5068e) (maxL := 2) (ret := (some .char)) (own := RJ0) false true (by decide +kernel) rfl rfl (by decide) (fun v w h => by rw [h.1]; exact ⟨_, rfl, (c7_all _ (tx9_all _ hk).2).2.1⟩) (Nat.le_of_ble_eq_true rfl) (fun X => ?_)
  show GG X _ _ _ _ _ _ _ _ _ _ _ _ _ _ [(0, .ref (Z 4)), (1, .int (nI kk))] _ _
  refine G_aload_n (q := 1) dJ0_charAt_5068e_0 rfl 0 rfl rfl ?_
  refine G_callVK (As := []) (rest := []) (st2 := [.int (bI true)]) (q := 4) rfl dJ0_charAt_5068e_1 (ct_J0_isLatin1_aae02 Z ) cs_J0_isLatin1_aae02 gJ0_charAt_5068e_J0_isLatin1_aae02 rfl ⟨Nat.le_of_ble_eq_true rfl, Nat.le_of_ble_eq_true rfl⟩ ⟨rfl, rfl⟩ rfl rfl (Nat.le_of_ble_eq_true rfl) ⟨by decide, by decide⟩ rfl rfl ?_
  refine G_if_eqF (tgt := 16) (q := 7) dJ0_charAt_5068e_4 (by decide) rfl (by decide) ?_
  refine G_aload_n (q := 8) dJ0_charAt_5068e_7 rfl 0 rfl rfl ?_
  refine G_sgetV (q := 11) rfl (by decide +kernel) dJ0_charAt_5068e_8 rfl ?_
  refine G_iload_n (q := 12) dJ0_charAt_5068e_11 rfl 1 rfl rfl ?_
  refine G_callSP (As := [.ref (Z 5), .int (nI kk)]) (rest := []) (st2 := [.int (nI (tx9 kk))]) (q := 15) dJ0_charAt_5068e_12 [] (ct_J1_charAt_3b067 Z kk (hk)) (fun h => h) cs_J1_charAt_3b067 gJ0_charAt_5068e_J1_charAt_3b067 ⟨Nat.le_of_ble_eq_true rfl, Nat.le_of_ble_eq_true rfl⟩ ⟨rfl, rfl⟩ rfl (by decide) rfl rfl (Nat.le_of_ble_eq_true rfl) ⟨by decide, by decide⟩ rfl rfl ?_
  exact G_iret dJ0_charAt_5068e_15 rfl rfl ⟨rfl, rfl⟩
