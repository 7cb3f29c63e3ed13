/-! THE CLAIM OUT OF ONE WALK OF THE LAW'S BODY. Your part is whole_start (and what it stands on); all else here is the same for every law, but numbers. -/
def R_law : String := "LastToAskLaw"
def lw_P (b : Addr) (xs : List Int32) (args : Array Value) (s : State) : Prop := args = #[.ref b] ∧ s.IntsAt b xs ∧ xs.length ≤ 256 ∧ (Jvm.Cond.and given_1 narrow_1).before args s = true
def lw_Q (_ : Array Value) (s : State) (o : Outcome) (t : State) : Prop := o = .returned (some (.int 1)) ∧ Framed s o t [] 600000 7302250
def lw_Z (below : List Frame) (a : Array Value) (s : State) : State → Prop := fun t => ∃ o, t.status = .running ∧ Ended t below o ∧ lw_Q a s o t
/-- the law's own end, with 1 on the stack, nothing written that was there before, its room as the claim has it -/
theorem lw_ret {p : Program} {l : Launch} {e : Env} {s : State} {m : MethodId} {below : List Frame} {meth : Method} {c : Code} {b : Nat} (hx : p.tables.exec = Jvm.exec) (hb : c.code = code) (hr : meth.sig.returnType = ret) (hlocks : meth.locks = false) {pc : Nat} {H : Heap} {ls : Array Slot} (hdg : decode code pc = .ok (.ireturn, 1)) : W p l e room_1 s m #[Value.ref b] below meth c H [] 600000 7302250 (lw_Z below #[Value.ref b] s) (F0 m pc ls [.int 1]) := by
  intro T hT X
  obtain ⟨fs, hret, hrun, hended, hW, hframe⟩ := X.leave (v := some (.int 1)) (hlocks := hlocks) (fun h => by rw [hr] at h; cases h)
  have hmeth' : T.vm.method? m = some meth := X.method'
  refine ⟨T.setFrames fs, ?_, .returned (some (.int 1)), hrun, hended, rfl, ⟨_, rfl⟩, hW, hframe⟩
  jvm_step X.here [X.here.top, hx, hb, hdg, hmeth', hr, ret, narrow_b1]
  (try refine ⟨rfl, ?_⟩); (try refine ⟨rfl, ?_⟩)
  first | (intro acts; rw [hret _ acts rfl rfl rfl]) | rw [hret _ _ rfl rfl rfl]
  exact Steps.refl _
/-- what holds at the law's entry: the machine, the code, the tables' words (any of lw_tbl by 'hts w (by decide +kernel)'), the script of L ints xs at the cell b, what the Statement gives of the start (any of its parts by flat_of_before) -/
def lw_At (p : Program) (s : State) (m : MethodId) (meth : Method) (c : Code) (b L : Nat) (xs : Nat → Int32) : Prop :=
  p.tables.exec = Jvm.exec ∧ c.code = code ∧ meth.sig.returnType = ret ∧ c.maxLocals = 4 ∧ s.vm.findClass R_law = some m.cls ∧ (∀ w ∈ lw_tbl, w.before #[Value.ref b] s = true) ∧ va_X b L xs s s.heap ∧ b < s.heap.size ∧ meth.locks = false ∧ (Jvm.Cond.and given_1 narrow_1).before #[Value.ref b] s = true
set_option maxRecDepth 20000 in
theorem flat_el : ∀ j, j < 76 → Cond.eq (.elem (Term.field (Term.string "LastToAsk" 73) "java/lang/String" "value" "[B") (.int (Int32.ofNat j))) (.int (bx0.getD j 0)) ∈ flatC (Jvm.Cond.and given_1 narrow_1) := by decide +kernel
set_option maxHeartbeats 4000000 in
theorem whole_start {p : Program} {e : Env} {s : State} {m : MethodId} {below : List Frame} {meth : Method} {c : Code} (l : Launch) (hflags : l.flags = flags0) {b L : Nat} {xs : Nat → Int32} (hL : L ≤ 256) (C0 : lw_At p s m meth c b L xs) : W p l e room_1 s m #[Value.ref b] below meth c s.heap [] 0 0 (lw_Z below #[Value.ref b] s) (entryFrame m ([Value.ref b] : List Value).toArray 4) := by
  obtain ⟨hx, hb, hr, hml, hown, hts, hX, hbl, hlocks, hgv⟩ := id C0
  have hA : ∀ q : Nat, s.heap.size ≤ q → (fun q : Nat => s.heap.size ≤ q) q := fun _ h => h
  have hN : ∀ q : Nat, q < s.heap.size → ¬ (fun q : Nat => s.heap.size ≤ q) q := fun q h => Nat.not_le.mpr h
  have hfl := flat_of_before _ hgv
  obtain ⟨c0, i0, hK0⟩ := u_known (C := RX0) (T := TX0) (N := 3) (n := 3) hts wsX00_tin (hts (.instantiable RX0 3) (lt_1 _ (List.mem_of_getElem? (i := 195) (by decide +kernel))))
  obtain ⟨c1, i1, hK1⟩ := u_known (C := RX1) (T := TX1) (N := 8) (n := 8) hts wsX10_tin (hts (.instantiable RX1 8) (lt_1 _ (List.mem_of_getElem? (i := 81) (by decide +kernel))))
  obtain ⟨c2, i2, hK2⟩ := u_known (C := RX2) (T := TX2) (N := 9) (n := 9) hts wsX20_tin (hts (.instantiable RX2 9) (lt_1 _ (List.mem_of_getElem? (i := 46) (by decide +kernel))))
  obtain ⟨c3, i3, hK3⟩ := u_known (C := RX3) (T := TX3) (N := 3) (n := 3) hts wsX30_tin (hts (.instantiable RX3 3) (lt_1 _ (List.mem_of_getElem? (i := 134) (by decide +kernel))))
  obtain ⟨c4, i4, hK4⟩ := u_known (C := RX4) (T := TX4) (N := 3) (n := 3) hts wsX40_tin (hts (.instantiable RX4 3) (lt_1 _ (List.mem_of_getElem? (i := 28) (by decide +kernel))))
  obtain ⟨c5, i5, hK5⟩ := u_known (C := RX5) (T := TX5) (N := 4) (n := 4) hts wsX50_tin (hts (.instantiable RX5 4) (lt_1 _ (List.mem_of_getElem? (i := 156) (by decide +kernel))))
  obtain ⟨c6, i6, hK6⟩ := u_known (C := RX6) (T := TX6) (N := 5) (n := 5) hts wsX60_tin (hts (.instantiable RX6 5) (lt_1 _ (List.mem_of_getElem? (i := 87) (by decide +kernel))))
  obtain ⟨c7, i7, hK7⟩ := u_known (C := RX7) (T := TX7) (N := 3) (n := 3) hts wsX70_tin (hts (.instantiable RX7 3) (lt_1 _ (List.mem_of_getElem? (i := 177) (by decide +kernel))))
  obtain ⟨c8, i8, hK8⟩ := u_known (C := RX8) (T := TX8) (N := 2) (n := 2) hts wsX80_tin (hts (.instantiable RX8 2) (lt_1 _ (List.mem_of_getElem? (i := 213) (by decide +kernel))))
  obtain ⟨c9, i9, hK9⟩ := u_known (C := RX9) (T := TX9) (N := 10) (n := 10) hts wsX90_tin (hts (.instantiable RX9 10) (lt_1 _ (List.mem_of_getElem? (i := 20) (by decide +kernel))))
  obtain ⟨c10, i10, hK10⟩ := u_known (C := RX10) (T := TX10) (N := 25) (n := 25) hts wsX100_tin (hts (.instantiable RX10 25) (lt_4 _ (List.mem_of_getElem? (i := 109) (by decide +kernel))))
  obtain ⟨DC, DI, hKc⟩ : ∃ (DC : Nat → ClassId) (DI : Nat → Nat → Nat), ∀ (k : Nat) (q : vw_C), vwCl[k]? = some q → u_Kn s q.1 q.2.1 q.2.2 (DC k) (DI k) := by
    refine ⟨fun k => if k = 0 then c0 else if k = 1 then c1 else if k = 2 then c2 else if k = 3 then c3 else if k = 4 then c4 else if k = 5 then c5 else if k = 6 then c6 else if k = 7 then c7 else if k = 8 then c8 else if k = 9 then c9 else c10, fun k => if k = 0 then i0 else if k = 1 then i1 else if k = 2 then i2 else if k = 3 then i3 else if k = 4 then i4 else if k = 5 then i5 else if k = 6 then i6 else if k = 7 then i7 else if k = 8 then i8 else if k = 9 then i9 else i10, ?_⟩
    intro k q hq
    match k, hq with
    | 0, hq => cases hq; exact hK0
    | 1, hq => cases hq; exact hK1
    | 2, hq => cases hq; exact hK2
    | 3, hq => cases hq; exact hK3
    | 4, hq => cases hq; exact hK4
    | 5, hq => cases hq; exact hK5
    | 6, hq => cases hq; exact hK6
    | 7, hq => cases hq; exact hK7
    | 8, hq => cases hq; exact hK8
    | 9, hq => cases hq; exact hK9
    | 10, hq => cases hq; exact hK10
    | k + 11, hq => simp [vwCl] at hq
  obtain ⟨qI, kI, mI, fI1, fI2, fI3⟩ := Cond.arrayClass_spec (hts (.arrayClass .int) (lt_1 _ (List.mem_of_getElem? (i := 44) (by decide +kernel))))
  obtain ⟨qCh, kCh, mCh, fCh1, fCh2, fCh3⟩ := Cond.arrayClass_spec (hts (.arrayClass .char) (lt_1 _ (List.mem_of_getElem? (i := 43) (by decide +kernel))))
  obtain ⟨qZ, kZ, mZ, fZ1, fZ2, fZ3⟩ := Cond.arrayClass_spec (hts (.arrayClass .boolean) (lt_1 _ (List.mem_of_getElem? (i := 79) (by decide +kernel))))
  have hAO : va_AO RX1 s := va_AO.of (hts (.arrayOver (.object RX1)) (lt_1 _ (List.mem_of_getElem? (i := 143) (by decide +kernel))))
  obtain ⟨mD, qD, kD, fD1, fD2, fD3, fD4, fD5⟩ := Cond.arrayOver_spec hAO
  obtain ⟨adK, adV, hS1, hS2⟩ := vk_Sof (args := #[Value.ref b]) (s := s) (N := 1) (tm := fun _ => (Term.string "LastToAsk" 73)) (len := [76]) (byt := [bx0]) (A := fun q : Nat => s.heap.size ≤ q)
    (fun i hi => by have h0 : i = 0 := (by omega); subst h0; decide)
    (fun i _ => show (Cond.exactly (Term.string "LastToAsk" 73) "java/lang/String").before #[Value.ref b] s = true from hfl _ (by decide +kernel)) (fun i _ => show (Cond.eq (.field (Term.string "LastToAsk" 73) "java/lang/String" "coder" "B") (.int 0)).before #[Value.ref b] s = true from hfl _ (by decide +kernel)) (fun i _ => show (Cond.arrayOf (Term.field (Term.string "LastToAsk" 73) "java/lang/String" "value" "[B") .byte).before #[Value.ref b] s = true from hfl _ (by decide +kernel))
    (fun i hi => by have h0 : i = 0 := (by omega); subst h0; exact (show (Cond.eq (.length (Term.field (Term.string "LastToAsk" 73) "java/lang/String" "value" "[B")) (.int 76)).before #[Value.ref b] s = true from hfl _ (by decide +kernel)))
    (fun i hi j hj => by have h0 : i = 0 := (by omega); subst h0; exact (show (Cond.eq (.elem (Term.field (Term.string "LastToAsk" 73) "java/lang/String" "value" "[B") (.int (Int32.ofNat j))) (.int (bx0.getD j 0))).before #[Value.ref b] s = true from hfl _ (flat_el j hj)))
    (fun i j hi hj hij => absurd (show i = j by omega) hij) hN
  obtain ⟨Z, hZ⟩ : ∃ Z : Nat → ClassId, Z = fun k => if k = 0 then qI else if k = 1 then qCh else if k = 2 then qZ else if k = 3 then qD else if k = 4 then adK 0 else adV 0 := ⟨_, rfl⟩
  have z4 : Z 4 = adK 0 := by rw [hZ]; rfl
  have z5 : Z 5 = adV 0 := by rw [hZ]; rfl
  have hE : EE true Z s (fun q : Nat => s.heap.size ≤ q) := by
    refine ⟨?_, hAO, fun _ => ⟨?_, ?_, ?_, ?_⟩⟩
    · show ∀ w ∈ nestW, va_Nw (.methodLinkNest w.1 w.2.1 w.2.2.1 w.2.2.2) s
      exact List.forall_mem_cons.mpr ⟨va_Nw.of rfl (hts (.methodLinkNest "LastToAsk" 18 ⟨"LastToAsk$Family", "<init>", "()V"⟩ "LastToAsk") (lt_1 _ (List.mem_of_getElem? (i := 47) (by decide +kernel)))), List.forall_mem_cons.mpr ⟨va_Nw.of rfl (hts (.methodLinkNest "LastToAsk" 28 ⟨"LastToAsk$Days", "<init>", "()V"⟩ "LastToAsk") (lt_1 _ (List.mem_of_getElem? (i := 82) (by decide +kernel)))), List.forall_mem_cons.mpr ⟨va_Nw.of rfl (hts (.methodLinkNest "LastToAsk" 47 ⟨"LastToAsk$Told", "<init>", "()V"⟩ "LastToAsk") (lt_1 _ (List.mem_of_getElem? (i := 157) (by decide +kernel)))), List.forall_mem_cons.mpr ⟨va_Nw.of rfl (hts (.methodLinkNest "LastToAsk" 54 ⟨"LastToAsk$Turns", "<init>", "()V"⟩ "LastToAsk") (lt_1 _ (List.mem_of_getElem? (i := 178) (by decide +kernel)))), List.forall_mem_cons.mpr ⟨va_Nw.of rfl (hts (.methodLinkNest "LastToAsk" 61 ⟨"LastToAsk$Chance", "<init>", "()V"⟩ "LastToAsk") (lt_1 _ (List.mem_of_getElem? (i := 196) (by decide +kernel)))), List.forall_mem_cons.mpr ⟨va_Nw.of rfl (hts (.methodLinkNest "LastToAsk" 68 ⟨"LastToAsk$YearAhead", "<init>", "()V"⟩ "LastToAsk") (lt_1 _ (List.mem_of_getElem? (i := 214) (by decide +kernel)))), List.forall_mem_cons.mpr ⟨va_Nw.of rfl (hts (.methodLinkNest "LastToAsk" 9 ⟨"LastToAsk$Text", "<init>", "()V"⟩ "LastToAsk") (lt_1 _ (List.mem_of_getElem? (i := 29) (by decide +kernel)))), List.forall_mem_cons.mpr ⟨va_Nw.of rfl (hts (.methodLinkNest "LastToAsk$Chance" 9 ⟨"LastToAsk$Trust", "<init>", "()V"⟩ "LastToAsk") (lt_1 _ (List.mem_of_getElem? (i := 201) (by decide +kernel)))), List.forall_mem_cons.mpr ⟨va_Nw.of rfl (hts (.methodLinkNest "LastToAsk$Days" 11 ⟨"LastToAsk$Trust", "<init>", "()V"⟩ "LastToAsk") (lt_1 _ (List.mem_of_getElem? (i := 88) (by decide +kernel)))), List.forall_mem_cons.mpr ⟨va_Nw.of rfl (hts (.methodLinkNest "LastToAsk$Past" 21 ⟨"LastToAsk$Days", "<init>", "()V"⟩ "LastToAsk") (lt_1 _ (List.mem_of_getElem? (i := 144) (by decide +kernel)))), List.forall_mem_cons.mpr ⟨va_Nw.of rfl (hts (.methodLinkNest "LastToAsk$Told" 20 ⟨"LastToAsk$Trust", "<init>", "()V"⟩ "LastToAsk") (lt_1 _ (List.mem_of_getElem? (i := 162) (by decide +kernel)))), List.forall_mem_cons.mpr ⟨va_Nw.of rfl (hts (.methodLinkNest "LastToAsk$Turns" 17 ⟨"LastToAsk$Trust", "<init>", "()V"⟩ "LastToAsk") (lt_1 _ (List.mem_of_getElem? (i := 183) (by decide +kernel)))), List.forall_mem_cons.mpr ⟨va_Nw.of rfl (hts (.methodLinkNest "LastToAsk$YearAhead" 9 ⟨"LastToAsk$Trust", "<init>", "()V"⟩ "LastToAsk") (lt_1 _ (List.mem_of_getElem? (i := 219) (by decide +kernel)))), fun _ h => absurd h List.not_mem_nil⟩⟩⟩⟩⟩⟩⟩⟩⟩⟩⟩⟩⟩
    · rw [z4]; exact vk_R.of (A := #[Value.ref b]) (hts (.stringRef RX9 73 tx0) (lt_1 _ (List.mem_of_getElem? (i := 227) (by decide +kernel)))) (hS2 0 (by decide))
    · rw [z4, z5]
      refine ⟨fun i hi => ?_, fun i j hi hj _ => by omega⟩
      have h0 : i = 0 := by omega
      subst h0
      exact hS1.1 0 (by decide)
    · exact va_Zof (hts (.laysStatic "java/lang/String" "COMPACT_STRINGS" "Z") (lt_1 _ (List.mem_of_getElem? (i := 237) (by decide +kernel)))) (hts (.initialized "java/lang/String") (lt_1 _ (List.mem_of_getElem? (i := 12) (by decide +kernel)))) (va_eqt (hfl _ (by decide +kernel))) hN
    · exact va_Zqof (hts (.laysStatic "jdk/internal/util/Preconditions" "SIOOBE_FORMATTER" "Ljava/util/function/BiFunction;") (lt_2 _ (List.mem_of_getElem? (i := 13) (by decide +kernel)))) (hts (.initialized "jdk/internal/util/Preconditions") (lt_1 _ (List.mem_of_getElem? (i := 14) (by decide +kernel)))) (hfl _ (by decide +kernel)) hN
  have hKt : ∀ (k : Nat) (q : ClassId × FieldType), (tz Z)[k]? = some q → ArrOfT s q.1 q.2 ∧ va_RA s q.1 q.2 := by
    intro k q hq
    rw [hZ] at hq
    match k, hq with
    | 0, hq => cases hq; exact ⟨fun n z => ⟨fun k h => (by cases h), kI, fI2, mI, fI3⟩, fI1⟩
    | 1, hq => cases hq; exact ⟨fun n z => ⟨fun k h => (by cases h), kCh, fCh2, mCh, fCh3⟩, fCh1⟩
    | 2, hq => cases hq; exact ⟨fun n z => ⟨fun k h => (by cases h), kZ, fZ2, mZ, fZ3⟩, fZ1⟩
    | 3, hq => cases hq; exact ⟨fun n z => ⟨fun k h => (by cases h), kD, fD3, mD, fD4⟩, kD, mD, fD3, fD4, fD1, fD5⟩
    | k + 4, hq => simp [tz] at hq
  have hl := lv_entry ([.ref b]) (n := 4) (Nat.le_of_ble_eq_true rfl)
  rw [lg_entry_eq]
  generalize (lg_sl ([.ref b]) ++ List.replicate (4 - (lg_sl ([.ref b])).length) Slot.unset).toArray = ls at hl ⊢
  have hl : lv_has ls 4 [(0, .ref b)] := hl
  have hG : GG (p, l, e, s, m, #[Value.ref b], below, meth, c, (DC, DI), (fun q : Nat => s.heap.size ≤ q), lw_Z below #[Value.ref b] s) room_1 cL_law 4 wsL_law RL false true Z (fun v _ => v = some (.int (nI 1))) 137 3683 0 0 [] [(0, .ref b)] [] 0 := law_entry (b := b) (L := L) (xs := xs) ⟨hX, hbl, Nat.not_le.mpr hbl⟩ hL (fun _ => rfl)
  refine hG ⟨hx, hb, hml, hown, fun w hw => hts w (wsL_law_in w hw)⟩ (fun h => absurd h (by decide)) hE ?_ s.heap [] ls ⟨⟨hKc, hKt⟩, fun k q h => by simp at h, ⟨fun i j p q h => by simp at h, fun k q h => by simp at h⟩, va_S.rf, hA⟩ hl
  intro v ws H locs ls pc hv hd hS
  subst hv
  refine va_forget (fun q hq => hS.2.2.2.1.2.2 q hq) ?_
  refine W.widen (k := 600000) (n := 7302250) (Nat.le_of_ble_eq_true rfl) (Nat.le_of_ble_eq_true rfl) ?_
  exact lw_ret hx hb hr hlocks hd
