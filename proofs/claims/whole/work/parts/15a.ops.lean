/-! PART 15: one call, both sides -/
def w9W (Z : Nat → ClassId) (B A0 : Nat → Nat) (AD AE : Nat → Nat → Nat) (ln : Nat) (L : Nat → Nat) (F : FS) (S : DS) (U K : PS) (O : OS) (J : JK) : va_W := (([((B 0), .inr (9, [.ref (B 1), .ref (B 4), .ref (B 10), .ref (A0 0), .ref (B 16), .ref (B 18), .ref (B 20), .ref (B 25), .ref (B 29), .ref (B 32)])), ((B 1), .inr (4, [.ref (B 2), .ref (B 3), .int (nI ln)])), ((B 2), .inl (Z 1, 200, .inl (fun j_ => nI (L j_)))), ((B 3), .inl (Z 0, 3, .inl (fun j_ => nI ((Jnm J) j_)))), ((B 4), .inr (2, [.ref (B 5), .ref (B 6), .ref (B 7), .ref (B 8), .ref (B 9), .int (nI (Fn F)), .int (nI (Fk F)), .int (nI (Fdd F)), .int (nI (Fh F))])), ((B 5), .inl (Z 0, 6, .inl (fun j_ => nI ((Fkd F) j_)))), ((B 6), .inl (Z 0, 6, .inl (fun j_ => nI ((Fag F) j_)))), ((B 7), .inl (Z 0, 6, .inl (fun j_ => nI ((Fml F) j_)))), ((B 8), .inl (Z 0, 8, .inl (fun j_ => nI ((Ftp F) j_)))), ((B 9), .inl (Z 2, 8, .inl (fun j_ => bI ((Fqu F) j_)))), ((B 10), .inr (2, [.ref (B 11), .ref (B 12), .ref (B 13), .ref (B 14), .ref (B 15), .int (nI (Fn (JG J))), .int (nI (Fk (JG J))), .int (nI (Fdd (JG J))), .int (nI (Fh (JG J)))])), ((B 11), .inl (Z 0, 6, .inl (fun j_ => nI ((Fkd (JG J)) j_)))), ((B 12), .inl (Z 0, 6, .inl (fun j_ => nI ((Fag (JG J)) j_)))), ((B 13), .inl (Z 0, 6, .inl (fun j_ => nI ((Fml (JG J)) j_)))), ((B 14), .inl (Z 0, 8, .inl (fun j_ => nI ((Ftp (JG J)) j_)))), ((B 15), .inl (Z 2, 8, .inl (fun j_ => bI ((Fqu (JG J)) j_)))), ((A0 0), .inr (1, [.ref (A0 1), .ref (A0 3), .ref (A0 4), .ref (A0 5), .ref (A0 6), .ref (A0 7), .int (nI (Sse S)), .int (nI (Sde S))])), ((A0 1), .inr (6, [.ref (A0 2), .int (nI (Fn F)), .int (nI (Sdy S)), .int (bI (Sak S)), .int (Sow S)])), ((A0 2), .inl (Z 0, 6, .inl (Sf S))), ((A0 3), .inl (Z 0, 60, .inl (She S))), ((A0 4), .inl (Z 0, 6, .inl (Sti S))), ((A0 5), .inl (Z 0, 10, .inl (fun j_ => nI ((Ssn S) j_)))), ((A0 6), .inl (Z 0, 40, .inl (fun j_ => nI ((Ssp S) j_)))), ((A0 7), .inl (Z 0, 40, .inl (fun j_ => nI ((Ssy S) j_)))), ((B 16), .inr (3, [.ref (B 17), .int (nI (Ptop U)), .int (nI (Phd U))])), ((B 17), .inl (Z 3, 8, .inr (.inr (.inr (.inr (fun j => some (AD j 0))))))), ((B 18), .inr (3, [.ref (B 19), .int (nI (Ptop K)), .int (nI (Phd K))])), ((B 19), .inl (Z 3, 2, .inr (.inr (.inr (.inr (fun j => some (AE j 0))))))), ((B 20), .inr (5, [.ref (B 21), .ref (B 22), .ref (B 23), .int (nI (Osz O))])), ((B 21), .inl (Z 0, 6, .inl (fun j_ => nI ((Otn O) j_)))), ((B 22), .inl (Z 0, 6, .inl (fun j_ => nI ((Otw O) j_)))), ((B 23), .inr (6, [.ref (B 24), .int (nI (Tn (Jt J))), .int (Td (Jt J)), .int (bI (Tk (Jt J))), .int (To (Jt J))])), ((B 24), .inl (Z 0, 6, .inl (Tf (Jt J)))), ((B 25), .inr (7, [.ref (B 26), .ref (B 27), .int (bI (Jfa J))])), ((B 26), .inl (Z 0, 64, .inl (Jen J))), ((B 27), .inr (6, [.ref (B 28), .int (nI (Tn (Ju J))), .int (Td (Ju J)), .int (bI (Tk (Ju J))), .int (To (Ju J))])), ((B 28), .inl (Z 0, 6, .inl (Tf (Ju J)))), ((B 29), .inr (0, [.ref (B 30), .long (Jab J), .long (Jbe J)])), ((B 30), .inr (6, [.ref (B 31), .int (nI (Tn (Jc J))), .int (Td (Jc J)), .int (bI (Tk (Jc J))), .int (To (Jc J))])), ((B 31), .inl (Z 0, 6, .inl (Tf (Jc J)))), ((B 32), .inr (8, [.ref (B 33), .int (nI (Jch J))])), ((B 33), .inr (6, [.ref (B 34), .int (nI (Tn (Jy J))), .int (Td (Jy J)), .int (bI (Tk (Jy J))), .int (To (Jy J))])), ((B 34), .inl (Z 0, 6, .inl (Tf (Jy J))))] : va_W) ++ (poolW Z AD (Prw U) 8 ++ poolW Z AE (Prw K) 2))
def w10W (Z : Nat → ClassId) (C : Nat → Nat) (E : FS) (R R0 : QS) (W V : Nat → QS) (O : OS) (ac kp ln : Nat) (L : Nat → Nat) (J : JR) : va_W := [((C 0), .inr (10, [.int (nI (Fn E)), .ref (C 1), .int (nI (Fk E)), .ref (C 2), .int (nI (Fh E)), .ref (C 3), .ref (C 4), .int (nI ac), .ref (C 5), .int (nI kp), .ref (C 6), .int (nI (Osz O)), .ref (C 7), .ref (C 8), .int (nI ln), .int (nI (Kpa J)), .ref (C 9), .int (nI (Fn (Kg J))), .ref (C 10), .int (nI (Fk (Kg J))), .ref (C 11), .int (nI (Fdd (Kg J))), .int (nI (Fh (Kg J))), .ref (C 12), .ref (C 13)])), ((C 1), .inl (Z 0, 18, .inl (fun j_ => nI ((rrN E) j_)))), ((C 2), .inl (Z 0, 16, .inl (fun j_ => nI ((rsN E) j_)))), ((C 3), .inl (Z 0, 72, .inl (rwF R))), ((C 4), .inl (Z 0, 72, .inl (rwF R0))), ((C 5), .inl (Z 0, 576, .inl (wsF W))), ((C 6), .inl (Z 0, 144, .inl (wsF V))), ((C 7), .inl (Z 0, 12, .inl (fun j_ => nI ((tkN O) j_)))), ((C 8), .inl (Z 0, 200, .inl (fun j_ => nI (L j_)))), ((C 9), .inl (Z 0, 3, .inl (fun j_ => nI ((Ktg J) j_)))), ((C 10), .inl (Z 0, 18, .inl (fun j_ => nI ((rrN (Kg J)) j_)))), ((C 11), .inl (Z 0, 16, .inl (fun j_ => nI ((rsN (Kg J)) j_)))), ((C 12), .inl (Z 0, 72, .inl (Knw J))), ((C 13), .inl (Z 0, 64, .inl (Kwz J)))]
theorem w9W_fst {Z : Nat → ClassId} {B A0 : Nat → Nat} {AD AE : Nat → Nat → Nat} {ln ln2 : Nat} {L L2 : Nat → Nat} {F F2 : FS} {S S2 : DS} {U K U2 K2 : PS} {O O2 : OS} {J J2 : JK} : (w9W Z B A0 AD AE ln L F S U K O J).map Prod.fst = (w9W Z B A0 AD AE ln2 L2 F2 S2 U2 K2 O2 J2).map Prod.fst := fst_app rfl (fst_app pool_fst pool_fst)
theorem w10W_fst {Z : Nat → ClassId} {C : Nat → Nat} {E E2 : FS} {R R0 R2 R02 : QS} {W V W2 V2 : Nat → QS} {O O2 : OS} {ac kp ln ac2 kp2 ln2 : Nat} {L L2 : Nat → Nat} {J J2 : JR} : (w10W Z C E R R0 W V O ac kp ln L J).map Prod.fst = (w10W Z C E2 R2 R02 W2 V2 O2 ac2 kp2 ln2 L2 J2).map Prod.fst := rfl
def TIE (ln : Nat) (L : Nat → Nat) (F : FS) (S : DS) (U K : PS) (O : OS) (E : FS) (R : QS) (W V : Nat → QS) (ac kp : Nat) (L2 : Nat → Nat) : Prop :=
  (ln ≤ 200 ∧ (∀ j, L j < 128) ∧ (∀ j, L2 j < 128) ∧ ∀ p, p < ln → L p = L2 p) ∧ (okF F ∧ okF E ∧ famEq F E ∧ 2 ≤ Fn F ∧ 1 ≤ Fk F) ∧ tieD F S R ∧ tieP 8 F U W ac ∧ tieP 2 F K V kp ∧ (Osz O ≤ 6 ∧ (∀ k, Otn O k < 100) ∧ ∀ k, Otw O k < 100)
/-- what holds of both objects between two calls -/
def INV (Z : Nat → ClassId) (b9 b10 : Nat) (u9 u10 : va_W) : Prop := ∃ (B A0 : Nat → Nat) (AD AE : Nat → Nat → Nat) (ln : Nat) (L : Nat → Nat) (F : FS) (S : DS) (U K : PS) (O : OS) (J : JK) (C : Nat → Nat) (E : FS) (R : QS) (W V : Nat → QS) (ac kp : Nat) (L2 : Nat → Nat) (J2 : JR),
  B 0 = b9 ∧ C 0 = b10 ∧ okJ J ∧ okK J2 ∧ TIE ln L F S U K O E R W V ac kp L2 ∧ u9 = w9W Z B A0 AD AE ln L F S U K O J ∧ u10 = w10W Z C E R (begQ E) W V O ac kp ln L2 J2
/-- a call's contract, as the law needs it -/
def OPC (Z : Nat → ClassId) (y : MethodName) (ws : List Cond) (as : List Value) (w : va_W) (t : Value) (P : va_W → Prop) : Prop := ∃ Rc : Room, Rc.frames ≤ 8 ∧ Rc.locals ≤ 200 ∧ Rc.cells = 0 ∧ Rc.slots = 0 ∧ Ct false y ws Rc as Z w (fun v u => v = some t ∧ P u ∧ u.map Prod.fst = w.map Prod.fst) 0 0
def OPP (Z : Nat → ClassId) (y9 : MethodName) (ws9 : List Cond) (y10 : MethodName) (ws10 : List Cond) (as : List Value) (ok : Value → Prop) : Prop := ∀ b9 b10 u9 u10, INV Z b9 b10 u9 u10 → ∃ (t : Value) (P9 P10 : va_W → Prop), ok t ∧ OPC Z y9 ws9 (.ref b9 :: as) u9 t P9 ∧ OPC Z y10 ws10 (.ref b10 :: as) u10 t P10 ∧ ∀ v9 v10, P9 v9 → P10 v10 → INV Z b9 b10 v9 v10
def isI (t : Value) : Prop := ∃ i, t = .int i
def isL (t : Value) : Prop := ∃ i, t = .long i
theorem mk_op {Z : Nat → ClassId} {y9 y10 : MethodName} {ws9 ws10 : List Cond} {as : List Value} {B A0 : Nat → Nat} {AD AE : Nat → Nat → Nat} {ln ln' : Nat} {L L' : Nat → Nat} {F F' : FS} {S S' : DS} {U K U' K' : PS} {O O' : OS} {J : JK} {C : Nat → Nat} {E E' : FS} {R R' : QS} {W V W' V' : Nat → QS} {ac kp ac' kp' : Nat} {L2 L2' : Nat → Nat} {J2 : JR} {R9 R10 : Room} {Φ9 Φ10 : Option Value → va_W → Prop} {t : Value} {ok : Value → Prop} (hok : ok t)
    (c9 : Ct false y9 ws9 R9 (.ref (B 0) :: as) Z (w9W Z B A0 AD AE ln L F S U K O J) Φ9 0 0) (r9 : R9.frames ≤ 8 ∧ R9.locals ≤ 200 ∧ R9.cells = 0 ∧ R9.slots = 0) (h9 : ∀ v w, Φ9 v w → v = some t ∧ ∃ J9, okJ J9 ∧ w = w9W Z B A0 AD AE ln' L' F' S' U' K' O' J9)
    (c10 : Ct false y10 ws10 R10 (.ref (C 0) :: as) Z (w10W Z C E R (begQ E) W V O ac kp ln L2 J2) Φ10 0 0) (r10 : R10.frames ≤ 8 ∧ R10.locals ≤ 200 ∧ R10.cells = 0 ∧ R10.slots = 0) (h10 : ∀ v w, Φ10 v w → v = some t ∧ ∃ J9, okK J9 ∧ w = w10W Z C E' R' (begQ E') W' V' O' ac' kp' ln' L2' J9)
    (T : TIE ln' L' F' S' U' K' O' E' R' W' V' ac' kp' L2') :
    ∃ (t : Value) (P9 P10 : va_W → Prop), ok t ∧ OPC Z y9 ws9 (.ref (B 0) :: as) (w9W Z B A0 AD AE ln L F S U K O J) t P9 ∧ OPC Z y10 ws10 (.ref (C 0) :: as) (w10W Z C E R (begQ E) W V O ac kp ln L2 J2) t P10 ∧ ∀ v9 v10, P9 v9 → P10 v10 → INV Z (B 0) (C 0) v9 v10 :=
  ⟨t, fun u => ∃ J9, okJ J9 ∧ u = w9W Z B A0 AD AE ln' L' F' S' U' K' O' J9, fun u => ∃ J9, okK J9 ∧ u = w10W Z C E' R' (begQ E') W' V' O' ac' kp' ln' L2' J9, hok,
   ⟨R9, r9.1, r9.2.1, r9.2.2.1, r9.2.2.2, c9.weak (fun v w h => by
      obtain ⟨e, J9, h1, h2⟩ := h9 v w h
      exact ⟨e, ⟨J9, h1, h2⟩, by rw [h2]; exact w9W_fst⟩)⟩,
   ⟨R10, r10.1, r10.2.1, r10.2.2.1, r10.2.2.2, c10.weak (fun v w h => by
      obtain ⟨e, J9, h1, h2⟩ := h10 v w h
      exact ⟨e, ⟨J9, h1, h2⟩, by rw [h2]; exact w10W_fst⟩)⟩,
   fun v9 v10 a b => by
      obtain ⟨J9, a1, a2⟩ := a
      obtain ⟨J10, b1, b2⟩ := b
      exact ⟨B, A0, AD, AE, ln', L', F', S', U', K', O', J9, C, E', R', W', V', ac', kp', L2', J10, rfl, rfl, a1, b1, T, a2, b2⟩⟩
theorem kn_tie {F E : FS} {S : DS} {R : QS} {i j : Nat} (hE : famEq F E) (hF : okF F) (h : tieD F S R) (hi : i < Fn F) (hj : j < Fn F) : knQ E R i j = agoK (nI (Sdy S)) (Sf S) (She S) (Fml F) i j := by
  unfold knQ agoK
  have hm : Fml F i ≤ 9 := hF.2.2.2.2.1 i
  by_cases e : i = j
  · subst e
    rw [if_pos rfl, if_pos rfl, h.1.2.2.2.2.1 i hj 0 (by decide), h.2.1 i hj]; rfl
  · rw [if_neg e, if_neg e, (hE.2.2.2.2.1 i hi).2.2, h.1.2.2.2.2.1 j hj _ (by omega)]
set_option maxHeartbeats 4000000 in
theorem op_write (Z : Nat → ClassId) (x : Int32) : OPP Z yX9_write wsX9_write yX10_write wsX10_write [.int x] isI := by
  intro b9 b10 u9 u10 hI
  obtain ⟨B, A0, AD, AE, ln, L, F, S, U, K, O, J, C, E, R, W, V, ac, kp, L2, J2, rfl, rfl, hJ, hJ2, T, rfl, rfl⟩ := hI
  obtain ⟨⟨hln, hL, hL2, hLL⟩, ⟨hF, hE, hFE, hn2, hk1⟩, hD, hU, hK, hO⟩ := id T
  have eN : Fn E = Fn F := hFE.1
  have eK : Fk E = Fk F := hFE.2.1
  have hn6 : Fn F ≤ 6 := hF.1
  have hk8 : Fk F ≤ 8 := hF.2.1
  have n0 : 0 < Fn F := by omega
  have k0 : 0 < Fk F := by omega
  have nE0 : 0 < Fn E := by omega
  have kE0 : 0 < Fk E := by omega
  have tq := tieD_TQ hD
  have hdy : Qdy R = Sdy S := hD.1.1
  have hR : okQ R := (TQ_dy tq).2.1
  obtain ⟨how, how4⟩ := TQ_ow tq
  have hS : okS F S := hD.2.2.2.2.2.2.2.2
  have hSd : Sdy S < 10000 := hS.2.1
  have hac : ac ≤ 8 := hU.2.1
  have hkp : kp ≤ 2 := hK.2.1
  rcases inB_or x (a := 32) (b := 126) (by decide) (by decide) with hx | ⟨c, hc1, hc2, rfl⟩
  · exact mk_op (ln' := ln) (L' := L) (F' := F) (S' := S) (U' := U) (K' := K) (O' := O) (E' := E) (R' := R) (W' := W) (V' := V) (ac' := ac) (kp' := kp) (L2' := L2) ⟨_, rfl⟩ (ct_X9_write_bad Z B A0 AD AE ln L F S U K O J x ((inB_f1 hx).imp id (fun z => Int32.not_le.mpr z))) ⟨Nat.le_of_ble_eq_true rfl, Nat.le_of_ble_eq_true rfl, rfl, rfl⟩ (fun v w h => ⟨h.1, J, hJ, h.2⟩) (ct_X10_write_bad Z C E R (begQ E) W V O ac kp ln L2 J2 x (hJ2) (hx)) ⟨Nat.le_of_ble_eq_true rfl, Nat.le_of_ble_eq_true rfl, rfl, rfl⟩ (fun v w h => by obtain ⟨J9, h1, h2, h3⟩ := h; exact ⟨h1, J9, h2, h3⟩) (T)
  · rcases Nat.lt_or_ge ln 200 with hl | hl
    · exact mk_op (ln' := (ln + 1)) (L' := (updN L ln c)) (F' := F) (S' := S) (U' := U) (K' := K) (O' := O) (E' := E) (R' := R) (W' := W) (V' := V) (ac' := ac) (kp' := kp) (L2' := (updN L2 ln c)) ⟨_, rfl⟩ (ct_X9_write_ok Z B A0 AD AE ln L F S U K O J c (⟨hc1, hc2⟩) (hl)) ⟨Nat.le_of_ble_eq_true rfl, Nat.le_of_ble_eq_true rfl, rfl, rfl⟩ (fun v w h => ⟨h.1, J, hJ, h.2⟩) (ct_X10_write_ok Z C E R (begQ E) W V O ac kp ln L2 J2 c (hJ2) (⟨hc1, hc2⟩) (hl)) ⟨Nat.le_of_ble_eq_true rfl, Nat.le_of_ble_eq_true rfl, rfl, rfl⟩ (fun v w h => by obtain ⟨J9, h1, h2, h3⟩ := h; exact ⟨h1, J9, h2, h3⟩) (⟨⟨by omega, fun j => lt_updN hL (by omega) j, fun j => lt_updN hL2 (by omega) j, fun p hp => upN_eq (fun j hj => hLL j hj) hp⟩, T.2.1, hD, hU, hK, hO⟩)
    · exact mk_op (ln' := ln) (L' := L) (F' := F) (S' := S) (U' := U) (K' := K) (O' := O) (E' := E) (R' := R) (W' := W) (V' := V) (ac' := ac) (kp' := kp) (L2' := L2) ⟨_, rfl⟩ (ct_X9_write_full Z B A0 AD AE ln L F S U K O J c (⟨hc1, hc2⟩) (by omega)) ⟨Nat.le_of_ble_eq_true rfl, Nat.le_of_ble_eq_true rfl, rfl, rfl⟩ (fun v w h => ⟨h.1, J, hJ, h.2⟩) (ct_X10_write_full Z C E R (begQ E) W V O ac kp ln L2 J2 c (hJ2) (⟨hc1, hc2⟩) (by omega)) ⟨Nat.le_of_ble_eq_true rfl, Nat.le_of_ble_eq_true rfl, rfl, rfl⟩ (fun v w h => by obtain ⟨J9, h1, h2, h3⟩ := h; exact ⟨h1, J9, h2, h3⟩) (T)
set_option maxHeartbeats 4000000 in
theorem op_wipe (Z : Nat → ClassId)  : OPP Z yX9_wipe wsX9_wipe yX10_wipe wsX10_wipe [] isI := by
  intro b9 b10 u9 u10 hI
  obtain ⟨B, A0, AD, AE, ln, L, F, S, U, K, O, J, C, E, R, W, V, ac, kp, L2, J2, rfl, rfl, hJ, hJ2, T, rfl, rfl⟩ := hI
  obtain ⟨⟨hln, hL, hL2, hLL⟩, ⟨hF, hE, hFE, hn2, hk1⟩, hD, hU, hK, hO⟩ := id T
  have eN : Fn E = Fn F := hFE.1
  have eK : Fk E = Fk F := hFE.2.1
  have hn6 : Fn F ≤ 6 := hF.1
  have hk8 : Fk F ≤ 8 := hF.2.1
  have n0 : 0 < Fn F := by omega
  have k0 : 0 < Fk F := by omega
  have nE0 : 0 < Fn E := by omega
  have kE0 : 0 < Fk E := by omega
  have tq := tieD_TQ hD
  have hdy : Qdy R = Sdy S := hD.1.1
  have hR : okQ R := (TQ_dy tq).2.1
  obtain ⟨how, how4⟩ := TQ_ow tq
  have hS : okS F S := hD.2.2.2.2.2.2.2.2
  have hSd : Sdy S < 10000 := hS.2.1
  have hac : ac ≤ 8 := hU.2.1
  have hkp : kp ≤ 2 := hK.2.1
  exact mk_op (ln' := 0) (L' := L) (F' := F) (S' := S) (U' := U) (K' := K) (O' := O) (E' := E) (R' := R) (W' := W) (V' := V) (ac' := ac) (kp' := kp) (L2' := L2) ⟨_, rfl⟩ (ct_X9_wipe Z B A0 AD AE ln L F S U K O J  ) ⟨Nat.le_of_ble_eq_true rfl, Nat.le_of_ble_eq_true rfl, rfl, rfl⟩ (fun v w h => ⟨h.1, J, hJ, h.2⟩) (ct_X10_wipe Z C E R (begQ E) W V O ac kp ln L2 J2  (hJ2)) ⟨Nat.le_of_ble_eq_true rfl, Nat.le_of_ble_eq_true rfl, rfl, rfl⟩ (fun v w h => by obtain ⟨J9, h1, h2, h3⟩ := h; exact ⟨h1, J9, h2, h3⟩) (⟨⟨Nat.zero_le _, hL, hL2, fun p hp => absurd hp (Nat.not_lt_zero p)⟩, T.2.1, hD, hU, hK, hO⟩)
set_option maxHeartbeats 4000000 in
theorem op_fault (Z : Nat → ClassId)  : OPP Z yX9_fault wsX9_fault yX10_fault wsX10_fault [] isI := by
  intro b9 b10 u9 u10 hI
  obtain ⟨B, A0, AD, AE, ln, L, F, S, U, K, O, J, C, E, R, W, V, ac, kp, L2, J2, rfl, rfl, hJ, hJ2, T, rfl, rfl⟩ := hI
  obtain ⟨⟨hln, hL, hL2, hLL⟩, ⟨hF, hE, hFE, hn2, hk1⟩, hD, hU, hK, hO⟩ := id T
  have eN : Fn E = Fn F := hFE.1
  have eK : Fk E = Fk F := hFE.2.1
  have hn6 : Fn F ≤ 6 := hF.1
  have hk8 : Fk F ≤ 8 := hF.2.1
  have n0 : 0 < Fn F := by omega
  have k0 : 0 < Fk F := by omega
  have nE0 : 0 < Fn E := by omega
  have kE0 : 0 < Fk E := by omega
  have tq := tieD_TQ hD
  have hdy : Qdy R = Sdy S := hD.1.1
  have hR : okQ R := (TQ_dy tq).2.1
  obtain ⟨how, how4⟩ := TQ_ow tq
  have hS : okS F S := hD.2.2.2.2.2.2.2.2
  have hSd : Sdy S < 10000 := hS.2.1
  have hac : ac ≤ 8 := hU.2.1
  have hkp : kp ≤ 2 := hK.2.1
  exact mk_op (ln' := ln) (L' := L) (F' := F) (S' := S) (U' := U) (K' := K) (O' := O) (E' := E) (R' := R) (W' := W) (V' := V) (ac' := ac) (kp' := kp) (L2' := L2) ⟨_, rfl⟩ (ct_X9_fault Z B A0 AD AE ln L F S U K O J  (hln) (hL) (hJ)) ⟨Nat.le_of_ble_eq_true rfl, Nat.le_of_ble_eq_true rfl, rfl, rfl⟩ (fun v w h => by obtain ⟨J9, h1, h2, h3⟩ := h; exact ⟨h1, J9, h2, h3⟩) (ct_X10_fault Z C E R (begQ E) W V O ac kp ln L2 J2  (hJ2) (hln) (hL2)) ⟨Nat.le_of_ble_eq_true rfl, Nat.le_of_ble_eq_true rfl, rfl, rfl⟩ (fun v w h => by obtain ⟨J9, h1, h2, h4, h3⟩ := h; exact ⟨h1.trans (congrArg (fun z => some (Value.int z)) ((rd_tie (JG J) (Kg J2) hLL).1)), J9, h2, h3⟩) (T)
set_option maxHeartbeats 4000000 in
theorem op_lay (Z : Nat → ClassId)  : OPP Z yX9_lay wsX9_lay yX10_lay wsX10_lay [] isI := by
  intro b9 b10 u9 u10 hI
  obtain ⟨B, A0, AD, AE, ln, L, F, S, U, K, O, J, C, E, R, W, V, ac, kp, L2, J2, rfl, rfl, hJ, hJ2, T, rfl, rfl⟩ := hI
  obtain ⟨⟨hln, hL, hL2, hLL⟩, ⟨hF, hE, hFE, hn2, hk1⟩, hD, hU, hK, hO⟩ := id T
  have eN : Fn E = Fn F := hFE.1
  have eK : Fk E = Fk F := hFE.2.1
  have hn6 : Fn F ≤ 6 := hF.1
  have hk8 : Fk F ≤ 8 := hF.2.1
  have n0 : 0 < Fn F := by omega
  have k0 : 0 < Fk F := by omega
  have nE0 : 0 < Fn E := by omega
  have kE0 : 0 < Fk E := by omega
  have tq := tieD_TQ hD
  have hdy : Qdy R = Sdy S := hD.1.1
  have hR : okQ R := (TQ_dy tq).2.1
  obtain ⟨how, how4⟩ := TQ_ow tq
  have hS : okS F S := hD.2.2.2.2.2.2.2.2
  have hSd : Sdy S < 10000 := hS.2.1
  have hac : ac ≤ 8 := hU.2.1
  have hkp : kp ≤ 2 := hK.2.1
  obtain ⟨e1, e2⟩ := rd_tie (JG J) (Kg J2) hLL
  have e3 := (rd_tie F (JG J) (L := L) (L2 := L) (ln := ln) (fun _ _ => rfl)).2
  obtain ⟨-, e4⟩ := rd_tie F (Kg J2) hLL
  rcases Classical.em (rdV L ln (JG J) = -4 ∧ 2 ≤ Fn (rdF L ln (JG J)) ∧ 1 ≤ Fk (rdF L ln (JG J))) with hy | hy
  · exact mk_op (ln' := ln) (L' := L) (F' := (rdF L ln F)) (S' := (begS (rdF L ln F) S)) (U' := (clrP U)) (K' := (clrP K)) (O' := (clrO O)) (E' := (rdF L2 ln (Kg J2))) (R' := (begQ (rdF L2 ln (Kg J2)))) (W' := W) (V' := V) (ac' := 0) (kp' := 0) (L2' := L2) ⟨_, rfl⟩ (ct_X9_lay_ok Z B A0 AD AE ln L F S U K O J  (hln) (hL) (hF) (hJ) (hy)) ⟨Nat.le_of_ble_eq_true rfl, Nat.le_of_ble_eq_true rfl, rfl, rfl⟩ (fun v w h => by obtain ⟨J9, h1, h2, h3⟩ := h; exact ⟨h1, J9, h2, h3⟩) (ct_X10_lay_ok Z C E R (begQ E) W V O ac kp ln L2 J2  (hJ2) (hln) (hL2) (by rw [e1, e2.1, e2.2.1]; exact hy)) ⟨Nat.le_of_ble_eq_true rfl, Nat.le_of_ble_eq_true rfl, rfl, rfl⟩ (fun v w h => by obtain ⟨J9, h1, h2, h3⟩ := h; exact ⟨h1.trans (congrArg (fun z => some (Value.int z)) (by rw [e4.1])), J9, h2, h3⟩) (⟨⟨hln, hL, hL2, hLL⟩, ⟨rdF_ok hF, rdF_ok hJ2, e4, by rw [← e3.1]; exact hy.2.1, by rw [← e3.2.1]; exact hy.2.2⟩, begin_tie e4 (rdF_ok hF), clr_tie hU, clr_tie hK, ⟨Nat.zero_le _, hO.2.1, hO.2.2⟩⟩)
  · exact mk_op (ln' := ln) (L' := L) (F' := F) (S' := S) (U' := U) (K' := K) (O' := O) (E' := E) (R' := R) (W' := W) (V' := V) (ac' := ac) (kp' := kp) (L2' := L2) ⟨_, rfl⟩ (ct_X9_lay_no Z B A0 AD AE ln L F S U K O J  (hln) (hL) (hF) (hJ) (hy)) ⟨Nat.le_of_ble_eq_true rfl, Nat.le_of_ble_eq_true rfl, rfl, rfl⟩ (fun v w h => by obtain ⟨J9, h1, h2, h3⟩ := h; exact ⟨h1, J9, h2, h3⟩) (ct_X10_lay_no Z C E R (begQ E) W V O ac kp ln L2 J2  (hJ2) (hln) (hL2) (by rw [e1, e2.1, e2.2.1]; exact hy)) ⟨Nat.le_of_ble_eq_true rfl, Nat.le_of_ble_eq_true rfl, rfl, rfl⟩ (fun v w h => by obtain ⟨J9, h1, h2, h3⟩ := h; exact ⟨h1, J9, h2, h3⟩) (T)
set_option maxHeartbeats 4000000 in
theorem op_relative (Z : Nat → ClassId) (x : Int32) (y : Int32) : OPP Z yX9_relative wsX9_relative yX10_relative wsX10_relative [.int x, .int y] isI := by
  intro b9 b10 u9 u10 hI
  obtain ⟨B, A0, AD, AE, ln, L, F, S, U, K, O, J, C, E, R, W, V, ac, kp, L2, J2, rfl, rfl, hJ, hJ2, T, rfl, rfl⟩ := hI
  obtain ⟨⟨hln, hL, hL2, hLL⟩, ⟨hF, hE, hFE, hn2, hk1⟩, hD, hU, hK, hO⟩ := id T
  have eN : Fn E = Fn F := hFE.1
  have eK : Fk E = Fk F := hFE.2.1
  have hn6 : Fn F ≤ 6 := hF.1
  have hk8 : Fk F ≤ 8 := hF.2.1
  have n0 : 0 < Fn F := by omega
  have k0 : 0 < Fk F := by omega
  have nE0 : 0 < Fn E := by omega
  have kE0 : 0 < Fk E := by omega
  have tq := tieD_TQ hD
  have hdy : Qdy R = Sdy S := hD.1.1
  have hR : okQ R := (TQ_dy tq).2.1
  obtain ⟨how, how4⟩ := TQ_ow tq
  have hS : okS F S := hD.2.2.2.2.2.2.2.2
  have hSd : Sdy S < 10000 := hS.2.1
  have hac : ac ≤ 8 := hU.2.1
  have hkp : kp ≤ 2 := hK.2.1
  rcases bad_or x (Fn F) (by omega) with hx | ⟨j, hj, rfl⟩
  · exact mk_op (ln' := ln) (L' := L) (F' := F) (S' := S) (U' := U) (K' := K) (O' := O) (E' := E) (R' := R) (W' := W) (V' := V) (ac' := ac) (kp' := kp) (L2' := L2) ⟨_, rfl⟩ (ct_X9_relative_bad Z B A0 AD AE ln L F S U K O J x y (hF) (hx)) ⟨Nat.le_of_ble_eq_true rfl, Nat.le_of_ble_eq_true rfl, rfl, rfl⟩ (fun v w h => ⟨h.1, J, hJ, h.2⟩) (ct_X10_relative_bad Z C E R (begQ E) W V O ac kp ln L2 J2 x y (hJ2) (hE) (nE0) (by rw [eN]; exact hx)) ⟨Nat.le_of_ble_eq_true rfl, Nat.le_of_ble_eq_true rfl, rfl, rfl⟩ (fun v w h => by obtain ⟨J9, h1, h2, h3⟩ := h; exact ⟨h1, J9, h2, h3⟩) (T)
  · rcases inB_or y (a := 0) (b := 4) (by decide) (by decide) with hy | ⟨q, -, hq, rfl⟩
    · exact mk_op (ln' := ln) (L' := L) (F' := F) (S' := S) (U' := U) (K' := K) (O' := O) (E' := E) (R' := R) (W' := W) (V' := V) (ac' := ac) (kp' := kp) (L2' := L2) ⟨_, rfl⟩ (ct_X9_relative_out Z B A0 AD AE ln L F S U K O J j y (hF) (hj) ((inB_f1 hy).imp (fun z => by rw [Int32.lt_iff_toInt_lt] at z; rw [nI_toInt (by decide)] at z; exact z) (fun z => by rw [Int32.lt_iff_toInt_lt, nI_toInt (by decide)] at z; exact z))) ⟨Nat.le_of_ble_eq_true rfl, Nat.le_of_ble_eq_true rfl, rfl, rfl⟩ (fun v w h => ⟨h.1, J, hJ, h.2⟩) (ct_X10_relative_out Z C E R (begQ E) W V O ac kp ln L2 J2 j y (hJ2) (hE) (by omega) (hy)) ⟨Nat.le_of_ble_eq_true rfl, Nat.le_of_ble_eq_true rfl, rfl, rfl⟩ (fun v w h => by obtain ⟨J9, h1, h2, h3⟩ := h; exact ⟨h1, J9, h2, h3⟩) (T)
    · rcases (show q = 0 ∨ q = 1 ∨ q = 2 ∨ q = 3 ∨ q = 4 by omega) with rfl | rfl | rfl | rfl | rfl
      · exact mk_op (ln' := ln) (L' := L) (F' := F) (S' := S) (U' := U) (K' := K) (O' := O) (E' := E) (R' := R) (W' := W) (V' := V) (ac' := ac) (kp' := kp) (L2' := L2) ⟨_, rfl⟩ (ct_X9_relative_w0 Z B A0 AD AE ln L F S U K O J j (hF) (hj)) ⟨Nat.le_of_ble_eq_true rfl, Nat.le_of_ble_eq_true rfl, rfl, rfl⟩ (fun v w h => ⟨h.1, J, hJ, h.2⟩) (ct_X10_relative_w0 Z C E R (begQ E) W V O ac kp ln L2 J2 j (hJ2) (hE) (hR) (by omega)) ⟨Nat.le_of_ble_eq_true rfl, Nat.le_of_ble_eq_true rfl, rfl, rfl⟩ (fun v w h => by obtain ⟨J9, h1, h2, h3⟩ := h; exact ⟨h1.trans (congrArg (fun z => some (Value.int z)) (congrArg nI (hFE.2.2.2.2.1 j hj).1)), J9, h2, h3⟩) (T)
      · exact mk_op (ln' := ln) (L' := L) (F' := F) (S' := S) (U' := U) (K' := K) (O' := O) (E' := E) (R' := R) (W' := W) (V' := V) (ac' := ac) (kp' := kp) (L2' := L2) ⟨_, rfl⟩ (ct_X9_relative_w1 Z B A0 AD AE ln L F S U K O J j (hF) (hj)) ⟨Nat.le_of_ble_eq_true rfl, Nat.le_of_ble_eq_true rfl, rfl, rfl⟩ (fun v w h => ⟨h.1, J, hJ, h.2⟩) (ct_X10_relative_w1 Z C E R (begQ E) W V O ac kp ln L2 J2 j (hJ2) (hE) (hR) (by omega)) ⟨Nat.le_of_ble_eq_true rfl, Nat.le_of_ble_eq_true rfl, rfl, rfl⟩ (fun v w h => by obtain ⟨J9, h1, h2, h3⟩ := h; exact ⟨h1.trans (congrArg (fun z => some (Value.int z)) (TQ_ag tq hj)), J9, h2, h3⟩) (T)
      · exact mk_op (ln' := ln) (L' := L) (F' := F) (S' := S) (U' := U) (K' := K) (O' := O) (E' := E) (R' := R) (W' := W) (V' := V) (ac' := ac) (kp' := kp) (L2' := L2) ⟨_, rfl⟩ (ct_X9_relative_w2 Z B A0 AD AE ln L F S U K O J j (hF) (hj)) ⟨Nat.le_of_ble_eq_true rfl, Nat.le_of_ble_eq_true rfl, rfl, rfl⟩ (fun v w h => ⟨h.1, J, hJ, h.2⟩) (ct_X10_relative_w2 Z C E R (begQ E) W V O ac kp ln L2 J2 j (hJ2) (hE) (hR) (by omega)) ⟨Nat.le_of_ble_eq_true rfl, Nat.le_of_ble_eq_true rfl, rfl, rfl⟩ (fun v w h => by obtain ⟨J9, h1, h2, h3⟩ := h; exact ⟨h1.trans (congrArg (fun z => some (Value.int z)) (congrArg nI (hFE.2.2.2.2.1 j hj).2.2)), J9, h2, h3⟩) (T)
      · exact mk_op (ln' := ln) (L' := L) (F' := F) (S' := S) (U' := U) (K' := K) (O' := O) (E' := E) (R' := R) (W' := W) (V' := V) (ac' := ac) (kp' := kp) (L2' := L2) ⟨_, rfl⟩ (ct_X9_relative_w3 Z B A0 AD AE ln L F S U K O J j (hF) (hj)) ⟨Nat.le_of_ble_eq_true rfl, Nat.le_of_ble_eq_true rfl, rfl, rfl⟩ (fun v w h => ⟨h.1, J, hJ, h.2⟩) (ct_X10_relative_w3 Z C E R (begQ E) W V O ac kp ln L2 J2 j (hJ2) (hE) (hR) (by omega)) ⟨Nat.le_of_ble_eq_true rfl, Nat.le_of_ble_eq_true rfl, rfl, rfl⟩ (fun v w h => by obtain ⟨J9, h1, h2, h3⟩ := h; exact ⟨h1.trans (congrArg (fun z => some (Value.int z)) (by rw [show decide (Qow R = nI j) = decide (Sow S = nI j) from decide_eq_decide.mpr (by rw [how]; exact oR_eq how4 (by omega))])), J9, h2, h3⟩) (T)
      · exact mk_op (ln' := ln) (L' := L) (F' := F) (S' := S) (U' := U) (K' := K) (O' := O) (E' := E) (R' := R) (W' := W) (V' := V) (ac' := ac) (kp' := kp) (L2' := L2) ⟨_, rfl⟩ (ct_X9_relative_w4 Z B A0 AD AE ln L F S U K O J j (hF) (hj)) ⟨Nat.le_of_ble_eq_true rfl, Nat.le_of_ble_eq_true rfl, rfl, rfl⟩ (fun v w h => ⟨h.1, J, hJ, h.2⟩) (ct_X10_relative_w4 Z C E R (begQ E) W V O ac kp ln L2 J2 j (hJ2) (hE) (hR) (by omega)) ⟨Nat.le_of_ble_eq_true rfl, Nat.le_of_ble_eq_true rfl, rfl, rfl⟩ (fun v w h => by obtain ⟨J9, h1, h2, h3⟩ := h; exact ⟨h1.trans (congrArg (fun z => some (Value.int z)) (hD.2.2.2.2.1 j hj)), J9, h2, h3⟩) (T)
set_option maxHeartbeats 4000000 in
theorem op_saying (Z : Nat → ClassId) (x : Int32) (y : Int32) : OPP Z yX9_saying wsX9_saying yX10_saying wsX10_saying [.int x, .int y] isI := by
  intro b9 b10 u9 u10 hI
  obtain ⟨B, A0, AD, AE, ln, L, F, S, U, K, O, J, C, E, R, W, V, ac, kp, L2, J2, rfl, rfl, hJ, hJ2, T, rfl, rfl⟩ := hI
  obtain ⟨⟨hln, hL, hL2, hLL⟩, ⟨hF, hE, hFE, hn2, hk1⟩, hD, hU, hK, hO⟩ := id T
  have eN : Fn E = Fn F := hFE.1
  have eK : Fk E = Fk F := hFE.2.1
  have hn6 : Fn F ≤ 6 := hF.1
  have hk8 : Fk F ≤ 8 := hF.2.1
  have n0 : 0 < Fn F := by omega
  have k0 : 0 < Fk F := by omega
  have nE0 : 0 < Fn E := by omega
  have kE0 : 0 < Fk E := by omega
  have tq := tieD_TQ hD
  have hdy : Qdy R = Sdy S := hD.1.1
  have hR : okQ R := (TQ_dy tq).2.1
  obtain ⟨how, how4⟩ := TQ_ow tq
  have hS : okS F S := hD.2.2.2.2.2.2.2.2
  have hSd : Sdy S < 10000 := hS.2.1
  have hac : ac ≤ 8 := hU.2.1
  have hkp : kp ≤ 2 := hK.2.1
  rcases bad_or x (Fk F) (by omega) with hx | ⟨s, hs, rfl⟩
  · exact mk_op (ln' := ln) (L' := L) (F' := F) (S' := S) (U' := U) (K' := K) (O' := O) (E' := E) (R' := R) (W' := W) (V' := V) (ac' := ac) (kp' := kp) (L2' := L2) ⟨_, rfl⟩ (ct_X9_saying_bad Z B A0 AD AE ln L F S U K O J x y (hF) (hx)) ⟨Nat.le_of_ble_eq_true rfl, Nat.le_of_ble_eq_true rfl, rfl, rfl⟩ (fun v w h => ⟨h.1, J, hJ, h.2⟩) (ct_X10_saying_bad Z C E R (begQ E) W V O ac kp ln L2 J2 x y (hJ2) (hE) (kE0) (by rw [eK]; exact hx)) ⟨Nat.le_of_ble_eq_true rfl, Nat.le_of_ble_eq_true rfl, rfl, rfl⟩ (fun v w h => by obtain ⟨J9, h1, h2, h3⟩ := h; exact ⟨h1, J9, h2, h3⟩) (T)
  · rcases inB_or y (a := 0) (b := 1) (by decide) (by decide) with hy | ⟨q, -, hq, rfl⟩
    · exact mk_op (ln' := ln) (L' := L) (F' := F) (S' := S) (U' := U) (K' := K) (O' := O) (E' := E) (R' := R) (W' := W) (V' := V) (ac' := ac) (kp' := kp) (L2' := L2) ⟨_, rfl⟩ (ct_X9_saying_out Z B A0 AD AE ln L F S U K O J s y (hF) (hs) (⟨fun e => by rw [show y = nI 0 from Int32.toInt_inj.mp (by rw [e]; rfl)] at hy; exact absurd hy (by decide), fun e => by rw [show y = nI 1 from Int32.toInt_inj.mp (by rw [e]; rfl)] at hy; exact absurd hy (by decide)⟩)) ⟨Nat.le_of_ble_eq_true rfl, Nat.le_of_ble_eq_true rfl, rfl, rfl⟩ (fun v w h => ⟨h.1, J, hJ, h.2⟩) (ct_X10_saying_out Z C E R (begQ E) W V O ac kp ln L2 J2 s y (hJ2) (hE) (by omega) (hy)) ⟨Nat.le_of_ble_eq_true rfl, Nat.le_of_ble_eq_true rfl, rfl, rfl⟩ (fun v w h => by obtain ⟨J9, h1, h2, h3⟩ := h; exact ⟨h1, J9, h2, h3⟩) (T)
    · rcases (show q = 0 ∨ q = 1 by omega) with rfl | rfl
      · exact mk_op (ln' := ln) (L' := L) (F' := F) (S' := S) (U' := U) (K' := K) (O' := O) (E' := E) (R' := R) (W' := W) (V' := V) (ac' := ac) (kp' := kp) (L2' := L2) ⟨_, rfl⟩ (ct_X9_saying_w0 Z B A0 AD AE ln L F S U K O J s (hF) (hs)) ⟨Nat.le_of_ble_eq_true rfl, Nat.le_of_ble_eq_true rfl, rfl, rfl⟩ (fun v w h => ⟨h.1, J, hJ, h.2⟩) (ct_X10_saying_w0 Z C E R (begQ E) W V O ac kp ln L2 J2 s (hJ2) (hE) (by omega)) ⟨Nat.le_of_ble_eq_true rfl, Nat.le_of_ble_eq_true rfl, rfl, rfl⟩ (fun v w h => by obtain ⟨J9, h1, h2, h3⟩ := h; exact ⟨h1.trans (congrArg (fun z => some (Value.int z)) (congrArg nI (hFE.2.2.2.2.2 s hs).1)), J9, h2, h3⟩) (T)
      · exact mk_op (ln' := ln) (L' := L) (F' := F) (S' := S) (U' := U) (K' := K) (O' := O) (E' := E) (R' := R) (W' := W) (V' := V) (ac' := ac) (kp' := kp) (L2' := L2) ⟨_, rfl⟩ (ct_X9_saying_w1 Z B A0 AD AE ln L F S U K O J s (hF) (hs)) ⟨Nat.le_of_ble_eq_true rfl, Nat.le_of_ble_eq_true rfl, rfl, rfl⟩ (fun v w h => ⟨h.1, J, hJ, h.2⟩) (ct_X10_saying_w1 Z C E R (begQ E) W V O ac kp ln L2 J2 s (hJ2) (hE) (by omega)) ⟨Nat.le_of_ble_eq_true rfl, Nat.le_of_ble_eq_true rfl, rfl, rfl⟩ (fun v w h => by obtain ⟨J9, h1, h2, h3⟩ := h; exact ⟨h1.trans (congrArg (fun z => some (Value.int z)) (congrArg bI (hFE.2.2.2.2.2 s hs).2)), J9, h2, h3⟩) (T)
set_option maxHeartbeats 4000000 in
theorem op_asking (Z : Nat → ClassId) (x : Int32) (y : Int32) : OPP Z yX9_asking wsX9_asking yX10_asking wsX10_asking [.int x, .int y] isI := by
  intro b9 b10 u9 u10 hI
  obtain ⟨B, A0, AD, AE, ln, L, F, S, U, K, O, J, C, E, R, W, V, ac, kp, L2, J2, rfl, rfl, hJ, hJ2, T, rfl, rfl⟩ := hI
  obtain ⟨⟨hln, hL, hL2, hLL⟩, ⟨hF, hE, hFE, hn2, hk1⟩, hD, hU, hK, hO⟩ := id T
  have eN : Fn E = Fn F := hFE.1
  have eK : Fk E = Fk F := hFE.2.1
  have hn6 : Fn F ≤ 6 := hF.1
  have hk8 : Fk F ≤ 8 := hF.2.1
  have n0 : 0 < Fn F := by omega
  have k0 : 0 < Fk F := by omega
  have nE0 : 0 < Fn E := by omega
  have kE0 : 0 < Fk E := by omega
  have tq := tieD_TQ hD
  have hdy : Qdy R = Sdy S := hD.1.1
  have hR : okQ R := (TQ_dy tq).2.1
  obtain ⟨how, how4⟩ := TQ_ow tq
  have hS : okS F S := hD.2.2.2.2.2.2.2.2
  have hSd : Sdy S < 10000 := hS.2.1
  have hac : ac ≤ 8 := hU.2.1
  have hkp : kp ≤ 2 := hK.2.1
  rcases bad_or x (Fk F) (by omega) with hx | ⟨s, hs, rfl⟩
  · exact mk_op (ln' := ln) (L' := L) (F' := F) (S' := S) (U' := U) (K' := K) (O' := O) (E' := E) (R' := R) (W' := W) (V' := V) (ac' := ac) (kp' := kp) (L2' := L2) ⟨_, rfl⟩ (ct_X9_asking_bad Z B A0 AD AE ln L F S U K O J x y (hF) (hx)) ⟨Nat.le_of_ble_eq_true rfl, Nat.le_of_ble_eq_true rfl, rfl, rfl⟩ (fun v w h => ⟨h.1, J, hJ, h.2⟩) (ct_X10_asking_bad Z C E R (begQ E) W V O ac kp ln L2 J2 x y (hJ2) (hE) (kE0) (by rw [eK]; exact hx)) ⟨Nat.le_of_ble_eq_true rfl, Nat.le_of_ble_eq_true rfl, rfl, rfl⟩ (fun v w h => by obtain ⟨J9, h1, h2, h3⟩ := h; exact ⟨h1, J9, h2, h3⟩) (T)
  · rcases bad_or y (Fn F) (by omega) with hy | ⟨j, hj, rfl⟩
    · exact mk_op (ln' := ln) (L' := L) (F' := F) (S' := S) (U' := U) (K' := K) (O' := O) (E' := E) (R' := R) (W' := W) (V' := V) (ac' := ac) (kp' := kp) (L2' := L2) ⟨_, rfl⟩ (ct_X9_asking_bad2 Z B A0 AD AE ln L F S U K O J s y (hF) (hs) (hy)) ⟨Nat.le_of_ble_eq_true rfl, Nat.le_of_ble_eq_true rfl, rfl, rfl⟩ (fun v w h => ⟨h.1, J, hJ, h.2⟩) (ct_X10_asking_bad2 Z C E R (begQ E) W V O ac kp ln L2 J2 s y (hJ2) (hE) (nE0) (by omega) (by rw [eN]; exact hy)) ⟨Nat.le_of_ble_eq_true rfl, Nat.le_of_ble_eq_true rfl, rfl, rfl⟩ (fun v w h => by obtain ⟨J9, h1, h2, h3⟩ := h; exact ⟨h1, J9, h2, h3⟩) (T)
    · exact mk_op (ln' := ln) (L' := L) (F' := F) (S' := S) (U' := U) (K' := K) (O' := O) (E' := E) (R' := R) (W' := W) (V' := V) (ac' := ac) (kp' := kp) (L2' := L2) ⟨_, rfl⟩ (ct_X9_asking_ok Z B A0 AD AE ln L F S U K O J s j (hF) (hs) (hj)) ⟨Nat.le_of_ble_eq_true rfl, Nat.le_of_ble_eq_true rfl, rfl, rfl⟩ (fun v w h => ⟨h.1, J, hJ, h.2⟩) (ct_X10_asking_ok Z C E R (begQ E) W V O ac kp ln L2 J2 s j (hJ2) (hE) (hR) (by omega) (by omega)) ⟨Nat.le_of_ble_eq_true rfl, Nat.le_of_ble_eq_true rfl, rfl, rfl⟩ (fun v w h => by obtain ⟨J9, h1, h2, h3⟩ := h; exact ⟨h1.trans (congrArg (fun z => some (Value.int z)) (congrArg bI (by rw [as_tie hFE hs hj, hD.2.2.1]))), J9, h2, h3⟩) (T)
set_option maxHeartbeats 4000000 in
theorem op_knows (Z : Nat → ClassId) (x : Int32) (y : Int32) : OPP Z yX9_knows wsX9_knows yX10_knows wsX10_knows [.int x, .int y] isI := by
  intro b9 b10 u9 u10 hI
  obtain ⟨B, A0, AD, AE, ln, L, F, S, U, K, O, J, C, E, R, W, V, ac, kp, L2, J2, rfl, rfl, hJ, hJ2, T, rfl, rfl⟩ := hI
  obtain ⟨⟨hln, hL, hL2, hLL⟩, ⟨hF, hE, hFE, hn2, hk1⟩, hD, hU, hK, hO⟩ := id T
  have eN : Fn E = Fn F := hFE.1
  have eK : Fk E = Fk F := hFE.2.1
  have hn6 : Fn F ≤ 6 := hF.1
  have hk8 : Fk F ≤ 8 := hF.2.1
  have n0 : 0 < Fn F := by omega
  have k0 : 0 < Fk F := by omega
  have nE0 : 0 < Fn E := by omega
  have kE0 : 0 < Fk E := by omega
  have tq := tieD_TQ hD
  have hdy : Qdy R = Sdy S := hD.1.1
  have hR : okQ R := (TQ_dy tq).2.1
  obtain ⟨how, how4⟩ := TQ_ow tq
  have hS : okS F S := hD.2.2.2.2.2.2.2.2
  have hSd : Sdy S < 10000 := hS.2.1
  have hac : ac ≤ 8 := hU.2.1
  have hkp : kp ≤ 2 := hK.2.1
  rcases bad_or x (Fn F) (by omega) with hx | ⟨j, hj, rfl⟩
  · exact mk_op (ln' := ln) (L' := L) (F' := F) (S' := S) (U' := U) (K' := K) (O' := O) (E' := E) (R' := R) (W' := W) (V' := V) (ac' := ac) (kp' := kp) (L2' := L2) ⟨_, rfl⟩ (ct_X9_knows_bad Z B A0 AD AE ln L F S U K O J x y (hF) (hx)) ⟨Nat.le_of_ble_eq_true rfl, Nat.le_of_ble_eq_true rfl, rfl, rfl⟩ (fun v w h => ⟨h.1, J, hJ, h.2⟩) (ct_X10_knows_bad Z C E R (begQ E) W V O ac kp ln L2 J2 x y (hJ2) (hE) (nE0) (by rw [eN]; exact hx)) ⟨Nat.le_of_ble_eq_true rfl, Nat.le_of_ble_eq_true rfl, rfl, rfl⟩ (fun v w h => by obtain ⟨J9, h1, h2, h3⟩ := h; exact ⟨h1, J9, h2, h3⟩) (T)
  · rcases bad_or y (Fn F) (by omega) with hy | ⟨q, hq, rfl⟩
    · exact mk_op (ln' := ln) (L' := L) (F' := F) (S' := S) (U' := U) (K' := K) (O' := O) (E' := E) (R' := R) (W' := W) (V' := V) (ac' := ac) (kp' := kp) (L2' := L2) ⟨_, rfl⟩ (ct_X9_knows_bad2 Z B A0 AD AE ln L F S U K O J j y (hF) (hj) (hy)) ⟨Nat.le_of_ble_eq_true rfl, Nat.le_of_ble_eq_true rfl, rfl, rfl⟩ (fun v w h => ⟨h.1, J, hJ, h.2⟩) (ct_X10_knows_bad2 Z C E R (begQ E) W V O ac kp ln L2 J2 j y (hJ2) (hE) (nE0) (by omega) (by rw [eN]; exact hy)) ⟨Nat.le_of_ble_eq_true rfl, Nat.le_of_ble_eq_true rfl, rfl, rfl⟩ (fun v w h => by obtain ⟨J9, h1, h2, h3⟩ := h; exact ⟨h1, J9, h2, h3⟩) (T)
    · exact mk_op (ln' := ln) (L' := L) (F' := F) (S' := S) (U' := U) (K' := K) (O' := O) (E' := E) (R' := R) (W' := W) (V' := V) (ac' := ac) (kp' := kp) (L2' := L2) ⟨_, rfl⟩ (ct_X9_knows_ok Z B A0 AD AE ln L F S U K O J j q (hF) (hj) (hq)) ⟨Nat.le_of_ble_eq_true rfl, Nat.le_of_ble_eq_true rfl, rfl, rfl⟩ (fun v w h => ⟨h.1, J, hJ, h.2⟩) (ct_X10_knows_ok Z C E R (begQ E) W V O ac kp ln L2 J2 j q (hJ2) (hE) (hR) (by omega) (by omega)) ⟨Nat.le_of_ble_eq_true rfl, Nat.le_of_ble_eq_true rfl, rfl, rfl⟩ (fun v w h => by obtain ⟨J9, h1, h2, h3⟩ := h; exact ⟨h1.trans (congrArg (fun z => some (Value.int z)) (kn_tie hFE hF hD hj hq)), J9, h2, h3⟩) (T)
