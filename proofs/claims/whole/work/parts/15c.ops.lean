theorem own_cnt {o p : Int32} (h : p = oR o) (h4 : okOw o) : p + nI 1 = (if o = -4 then nI 0 else o + nI 1) := by
  rcases h4 with e | ⟨j, hj, e⟩
  · subst e; subst h; rfl
  · rw [if_neg (by rw [e]; exact nI_n4 (by omega)), h, e, oR_n (by omega)]
set_option maxHeartbeats 4000000 in
theorem op_quiet (Z : Nat → ClassId)  : OPP Z yX9_quiet wsX9_quiet yX10_quiet wsX10_quiet [] isI := by
  intro b9 b10 u9 u10 hI
  obtain ⟨B, A0, AD, AE, ln, L, F, S, U, K, O, J, C, E, R, W, V, ac, kp, L2, J2, rfl, rfl, hJ, hJ2, T, rfl, rfl⟩ := hI
  obtain ⟨⟨hln, hL, hL2, hLL⟩, ⟨hF, hE, hFE, hn2, hk1⟩, hD, hU, hK, hO⟩ := id T
  have eN : Fn E = Fn F := hFE.1
  have eK : Fk E = Fk F := hFE.2.1
  have hn6 : Fn F ≤ 6 := hF.1
  have hk8 : Fk F ≤ 8 := hF.2.1
  have n0 : 0 < Fn F := by omega
  have k0 : 0 < Fk F := by omega
  have nE0 : 0 < Fn E := by omega
  have kE0 : 0 < Fk E := by omega
  have tq := tieD_TQ hD
  have hdy : Qdy R = Sdy S := hD.1.1
  have hR : okQ R := (TQ_dy tq).2.1
  obtain ⟨how, how4⟩ := TQ_ow tq
  have hS : okS F S := hD.2.2.2.2.2.2.2.2
  have hSd : Sdy S < 10000 := hS.2.1
  have hac : ac ≤ 8 := hU.2.1
  have hkp : kp ≤ 2 := hK.2.1
  exact mk_op (ln' := ln) (L' := L) (F' := F) (S' := S) (U' := U) (K' := K) (O' := O) (E' := E) (R' := R) (W' := W) (V' := V) (ac' := ac) (kp' := kp) (L2' := L2) ⟨_, rfl⟩ (ct_X9_quiet Z B A0 AD AE ln L F S U K O J  (hF)) ⟨Nat.le_of_ble_eq_true rfl, Nat.le_of_ble_eq_true rfl, rfl, rfl⟩ (fun v w h => ⟨h.1, J, hJ, h.2⟩) (ct_X10_quiet Z C E R (begQ E) W V O ac kp ln L2 J2  (hJ2) (hE) (hR)) ⟨Nat.le_of_ble_eq_true rfl, Nat.le_of_ble_eq_true rfl, rfl, rfl⟩ (fun v w h => by obtain ⟨J9, h1, h2, h3⟩ := h; exact ⟨h1.trans (congrArg (fun z => some (Value.int z)) (congrArg nI (by rw [eN, eK]; exact qset_cong (fun s hs => anyTo_cong (fun i hi => by rw [as_tie hFE hs hi, hD.2.2.1]))))), J9, h2, h3⟩) (T)
set_option maxHeartbeats 4000000 in
theorem op_cloak (Z : Nat → ClassId) (x : Int32) (y : Int32) : OPP Z yX9_cloak wsX9_cloak yX10_cloak wsX10_cloak [.int x, .int y] isI := by
  intro b9 b10 u9 u10 hI
  obtain ⟨B, A0, AD, AE, ln, L, F, S, U, K, O, J, C, E, R, W, V, ac, kp, L2, J2, rfl, rfl, hJ, hJ2, T, rfl, rfl⟩ := hI
  obtain ⟨⟨hln, hL, hL2, hLL⟩, ⟨hF, hE, hFE, hn2, hk1⟩, hD, hU, hK, hO⟩ := id T
  have eN : Fn E = Fn F := hFE.1
  have eK : Fk E = Fk F := hFE.2.1
  have hn6 : Fn F ≤ 6 := hF.1
  have hk8 : Fk F ≤ 8 := hF.2.1
  have n0 : 0 < Fn F := by omega
  have k0 : 0 < Fk F := by omega
  have nE0 : 0 < Fn E := by omega
  have kE0 : 0 < Fk E := by omega
  have tq := tieD_TQ hD
  have hdy : Qdy R = Sdy S := hD.1.1
  have hR : okQ R := (TQ_dy tq).2.1
  obtain ⟨how, how4⟩ := TQ_ow tq
  have hS : okS F S := hD.2.2.2.2.2.2.2.2
  have hSd : Sdy S < 10000 := hS.2.1
  have hac : ac ≤ 8 := hU.2.1
  have hkp : kp ≤ 2 := hK.2.1
  rcases bad_or x (Fn F) (by omega) with hx | ⟨j, hj, rfl⟩
  · exact mk_op (ln' := ln) (L' := L) (F' := F) (S' := S) (U' := U) (K' := K) (O' := O) (E' := E) (R' := R) (W' := W) (V' := V) (ac' := ac) (kp' := kp) (L2' := L2) ⟨_, rfl⟩ (ct_X9_cloak_bad Z B A0 AD AE ln L F S U K O J x y (hF) (hx)) ⟨Nat.le_of_ble_eq_true rfl, Nat.le_of_ble_eq_true rfl, rfl, rfl⟩ (fun v w h => ⟨h.1, J, hJ, h.2⟩) (ct_X10_cloak_bad Z C E R (begQ E) W V O ac kp ln L2 J2 x y (hJ2) (hE) (nE0) (by rw [eN]; exact hx)) ⟨Nat.le_of_ble_eq_true rfl, Nat.le_of_ble_eq_true rfl, rfl, rfl⟩ (fun v w h => by obtain ⟨J9, h1, h2, h3⟩ := h; exact ⟨h1, J9, h2, h3⟩) (T)
  · have hc : ck (fun s_ => asR E R s_ j) (fun s_ => pc6 (Ftp E s_ &&& Qde R)) (Fk E) = ck (fun s => askB (Fkd F j) (Ftp F s) (Fqu F s) (Sde S) (Fh F)) (fun s => pc6 (Ftp F s &&& Sde S)) (Fk F) := by
      rw [eK]
      exact ck_cong (fun s hs => ⟨by rw [as_tie hFE hs hj, hD.2.2.1], by rw [(hFE.2.2.2.2.2 s hs).1, hD.2.2.1]⟩)
    rcases inB_or y (a := 0) (b := 1) (by decide) (by decide) with hy | ⟨q, -, hq, rfl⟩
    · exact mk_op (ln' := ln) (L' := L) (F' := F) (S' := S) (U' := U) (K' := K) (O' := O) (E' := E) (R' := R) (W' := W) (V' := V) (ac' := ac) (kp' := kp) (L2' := L2) ⟨_, rfl⟩ (ct_X9_cloak_out Z B A0 AD AE ln L F S U K O J j y (hF) (hj) ((inB_f1 hy).imp id (fun z => Int32.not_le.mpr z))) ⟨Nat.le_of_ble_eq_true rfl, Nat.le_of_ble_eq_true rfl, rfl, rfl⟩ (fun v w h => ⟨h.1, J, hJ, h.2⟩) (ct_X10_cloak_out Z C E R (begQ E) W V O ac kp ln L2 J2 j y (hJ2) (hE) (by omega) (hy)) ⟨Nat.le_of_ble_eq_true rfl, Nat.le_of_ble_eq_true rfl, rfl, rfl⟩ (fun v w h => by obtain ⟨J9, h1, h2, h3⟩ := h; exact ⟨h1, J9, h2, h3⟩) (T)
    · rcases (show q = 0 ∨ q = 1 by omega) with rfl | rfl
      · exact mk_op (ln' := ln) (L' := L) (F' := F) (S' := S) (U' := U) (K' := K) (O' := O) (E' := E) (R' := R) (W' := W) (V' := V) (ac' := ac) (kp' := kp) (L2' := L2) ⟨_, rfl⟩ (ct_X9_cloak_w0 Z B A0 AD AE ln L F S U K O J j (hF) (hj)) ⟨Nat.le_of_ble_eq_true rfl, Nat.le_of_ble_eq_true rfl, rfl, rfl⟩ (fun v w h => ⟨h.1, J, hJ, h.2⟩) (ct_X10_cloak_w0 Z C E R (begQ E) W V O ac kp ln L2 J2 j (hJ2) (hE) (hR) (by omega)) ⟨Nat.le_of_ble_eq_true rfl, Nat.le_of_ble_eq_true rfl, rfl, rfl⟩ (fun v w h => by obtain ⟨J9, h1, h2, h3⟩ := h; exact ⟨h1.trans (congrArg (fun z => some (Value.int z)) (congrArg oI hc)), J9, h2, h3⟩) (T)
      · have hc2 : (ck (fun s_ => asR E R s_ j) (fun s_ => pc6 (Ftp E s_ &&& Qde R)) (Fk E)).map (fun s_ => pc6 (Ftp E s_ &&& Qde R)) = (ck (fun s => askB (Fkd F j) (Ftp F s) (Fqu F s) (Sde S) (Fh F)) (fun s => pc6 (Ftp F s &&& Sde S)) (Fk F)).map (fun s => pc6 (Ftp F s &&& Sde S)) := by
          rw [hc]
          cases hb : ck (fun s => askB (Fkd F j) (Ftp F s) (Fqu F s) (Sde S) (Fh F)) (fun s => pc6 (Ftp F s &&& Sde S)) (Fk F) with
          | none => rfl
          | some b =>
            show some (pc6 (Ftp E b &&& Qde R)) = some (pc6 (Ftp F b &&& Sde S))
            rw [(hFE.2.2.2.2.2 b (ck_lt hb)).1, hD.2.2.1]
        exact mk_op (ln' := ln) (L' := L) (F' := F) (S' := S) (U' := U) (K' := K) (O' := O) (E' := E) (R' := R) (W' := W) (V' := V) (ac' := ac) (kp' := kp) (L2' := L2) ⟨_, rfl⟩ (ct_X9_cloak_w1 Z B A0 AD AE ln L F S U K O J j (hF) (hj)) ⟨Nat.le_of_ble_eq_true rfl, Nat.le_of_ble_eq_true rfl, rfl, rfl⟩ (fun v w h => ⟨h.1, J, hJ, h.2⟩) (ct_X10_cloak_w1 Z C E R (begQ E) W V O ac kp ln L2 J2 j (hJ2) (hE) (hR) (by omega)) ⟨Nat.le_of_ble_eq_true rfl, Nat.le_of_ble_eq_true rfl, rfl, rfl⟩ (fun v w h => by obtain ⟨J9, h1, h2, h3⟩ := h; exact ⟨h1.trans (congrArg (fun z => some (Value.int z)) (congrArg oI hc2)), J9, h2, h3⟩) (T)
set_option maxHeartbeats 4000000 in
theorem op_allKnow (Z : Nat → ClassId)  : OPP Z yX9_allKnow wsX9_allKnow yX10_allKnow wsX10_allKnow [] isI := by
  intro b9 b10 u9 u10 hI
  obtain ⟨B, A0, AD, AE, ln, L, F, S, U, K, O, J, C, E, R, W, V, ac, kp, L2, J2, rfl, rfl, hJ, hJ2, T, rfl, rfl⟩ := hI
  obtain ⟨⟨hln, hL, hL2, hLL⟩, ⟨hF, hE, hFE, hn2, hk1⟩, hD, hU, hK, hO⟩ := id T
  have eN : Fn E = Fn F := hFE.1
  have eK : Fk E = Fk F := hFE.2.1
  have hn6 : Fn F ≤ 6 := hF.1
  have hk8 : Fk F ≤ 8 := hF.2.1
  have n0 : 0 < Fn F := by omega
  have k0 : 0 < Fk F := by omega
  have nE0 : 0 < Fn E := by omega
  have kE0 : 0 < Fk E := by omega
  have tq := tieD_TQ hD
  have hdy : Qdy R = Sdy S := hD.1.1
  have hR : okQ R := (TQ_dy tq).2.1
  obtain ⟨how, how4⟩ := TQ_ow tq
  have hS : okS F S := hD.2.2.2.2.2.2.2.2
  have hSd : Sdy S < 10000 := hS.2.1
  have hac : ac ≤ 8 := hU.2.1
  have hkp : kp ≤ 2 := hK.2.1
  obtain ⟨a1, a2, a3⟩ := ak_first (he := She S) hF
  exact mk_op (ln' := ln) (L' := L) (F' := F) (S' := S) (U' := U) (K' := K) (O' := O) (E' := E) (R' := R) (W' := W) (V' := V) (ac' := ac) (kp' := kp) (L2' := L2) ⟨_, rfl⟩ (ct_X9_allKnow Z B A0 AD AE ln L F S U K O J  (hF)) ⟨Nat.le_of_ble_eq_true rfl, Nat.le_of_ble_eq_true rfl, rfl, rfl⟩ (fun v w h => ⟨h.1, J, hJ, h.2⟩) (ct_X10_allKnow Z C E R (begQ E) W V O ac kp ln L2 J2 (fW (akw (She S) (Fml F) (Fn F)) 9 0) (hJ2) (hE) (hR) (a1) (by rw [ak_tie hFE hF hD.1]; exact a2) (fun j hj => by rw [ak_tie hFE hF hD.1]; exact a3 j hj)) ⟨Nat.le_of_ble_eq_true rfl, Nat.le_of_ble_eq_true rfl, rfl, rfl⟩ (fun v w h => by obtain ⟨J9, h1, h2, h3⟩ := h; exact ⟨h1, J9, h2, h3⟩) (T)
set_option maxHeartbeats 4000000 in
theorem op_lasts (Z : Nat → ClassId) (x : Int32) (y : Int32) (z : Int32) : OPP Z yX9_lasts wsX9_lasts yX10_lasts wsX10_lasts [.int x, .int y, .int z] isL := by
  intro b9 b10 u9 u10 hI
  obtain ⟨B, A0, AD, AE, ln, L, F, S, U, K, O, J, C, E, R, W, V, ac, kp, L2, J2, rfl, rfl, hJ, hJ2, T, rfl, rfl⟩ := hI
  obtain ⟨⟨hln, hL, hL2, hLL⟩, ⟨hF, hE, hFE, hn2, hk1⟩, hD, hU, hK, hO⟩ := id T
  have eN : Fn E = Fn F := hFE.1
  have eK : Fk E = Fk F := hFE.2.1
  have hn6 : Fn F ≤ 6 := hF.1
  have hk8 : Fk F ≤ 8 := hF.2.1
  have n0 : 0 < Fn F := by omega
  have k0 : 0 < Fk F := by omega
  have nE0 : 0 < Fn E := by omega
  have kE0 : 0 < Fk E := by omega
  have tq := tieD_TQ hD
  have hdy : Qdy R = Sdy S := hD.1.1
  have hR : okQ R := (TQ_dy tq).2.1
  obtain ⟨how, how4⟩ := TQ_ow tq
  have hS : okS F S := hD.2.2.2.2.2.2.2.2
  have hSd : Sdy S < 10000 := hS.2.1
  have hac : ac ≤ 8 := hU.2.1
  have hkp : kp ≤ 2 := hK.2.1
  rcases inB_or x (a := 0) (b := 9) (by decide) (by decide) with hx | ⟨nd, -, hnd, rfl⟩
  · exact mk_op (ln' := ln) (L' := L) (F' := F) (S' := S) (U' := U) (K' := K) (O' := O) (E' := E) (R' := R) (W' := W) (V' := V) (ac' := ac) (kp' := kp) (L2' := L2) ⟨_, rfl⟩ (ct_X9_lasts_bad Z B A0 AD AE ln L F S U K O J x y z ((inB_f1 hx).elim Or.inl (fun z => Or.inr (Or.inl z)))) ⟨Nat.le_of_ble_eq_true rfl, Nat.le_of_ble_eq_true rfl, rfl, rfl⟩ (fun v w h => ⟨h.1, J, hJ, h.2⟩) (ct_X10_lasts_bad Z C E R (begQ E) W V O ac kp ln L2 J2 x y z (hJ2) (Or.inl hx)) ⟨Nat.le_of_ble_eq_true rfl, Nat.le_of_ble_eq_true rfl, rfl, rfl⟩ (fun v w h => by obtain ⟨J9, h1, h2, h3⟩ := h; exact ⟨h1, J9, h2, h3⟩) (T)
  · rcases inB_or y (a := 0) (b := 10) (by decide) (by decide) with hy | ⟨x0, -, hx0, rfl⟩
    · exact mk_op (ln' := ln) (L' := L) (F' := F) (S' := S) (U' := U) (K' := K) (O' := O) (E' := E) (R' := R) (W' := W) (V' := V) (ac' := ac) (kp' := kp) (L2' := L2) ⟨_, rfl⟩ (ct_X9_lasts_bad Z B A0 AD AE ln L F S U K O J (nI nd) y z (Or.inr (Or.inr ((inB_f1 hy).elim Or.inl (fun z => Or.inr (Or.inl z)))))) ⟨Nat.le_of_ble_eq_true rfl, Nat.le_of_ble_eq_true rfl, rfl, rfl⟩ (fun v w h => ⟨h.1, J, hJ, h.2⟩) (ct_X10_lasts_bad Z C E R (begQ E) W V O ac kp ln L2 J2 (nI nd) y z (hJ2) (Or.inr (Or.inl hy))) ⟨Nat.le_of_ble_eq_true rfl, Nat.le_of_ble_eq_true rfl, rfl, rfl⟩ (fun v w h => by obtain ⟨J9, h1, h2, h3⟩ := h; exact ⟨h1, J9, h2, h3⟩) (T)
    · rcases inB_or z (a := 0) (b := 1) (by decide) (by decide) with hz | ⟨q, -, hq, rfl⟩
      · exact mk_op (ln' := ln) (L' := L) (F' := F) (S' := S) (U' := U) (K' := K) (O' := O) (E' := E) (R' := R) (W' := W) (V' := V) (ac' := ac) (kp' := kp) (L2' := L2) ⟨_, rfl⟩ (ct_X9_lasts_bad Z B A0 AD AE ln L F S U K O J (nI nd) (nI x0) z (Or.inr (Or.inr (Or.inr (Or.inr ((inB_f1 hz).imp id (fun z => Int32.not_le.mpr z))))))) ⟨Nat.le_of_ble_eq_true rfl, Nat.le_of_ble_eq_true rfl, rfl, rfl⟩ (fun v w h => ⟨h.1, J, hJ, h.2⟩) (ct_X10_lasts_bad Z C E R (begQ E) W V O ac kp ln L2 J2 (nI nd) (nI x0) z (hJ2) (Or.inr (Or.inr hz))) ⟨Nat.le_of_ble_eq_true rfl, Nat.le_of_ble_eq_true rfl, rfl, rfl⟩ (fun v w h => by obtain ⟨J9, h1, h2, h3⟩ := h; exact ⟨h1, J9, h2, h3⟩) (T)
      · have hch : chC (fun i_ => decide (Fkd E i_ = 3)) (Fn E) (Fn E) = fC (fun i => decide (Fkd F i = 3)) (Fn F) 0 := by
          rw [eN]
          exact chC_fC (fun i hi => by rw [(hFE.2.2.2.2.1 i hi).1])
        have hla : laA x0 (chC (fun i_ => decide (Fkd E i_ = 3)) (Fn E) (Fn E)) (Fn E) nd R (1 <<< nd) = (chN (Sf S) (Fn F) (Sdy S) (Sak S) (Sow S) (fC (fun i => decide (Fkd F i = 3)) (Fn F) 0) x0 nd) := by
          rw [hch, eN]
          exact la_sum tq hn6 n0 (fC_lt n0 _ _ (by omega)) hx0
        rcases (show q = 0 ∨ q = 1 by omega) with rfl | rfl
        · exact mk_op (ln' := ln) (L' := L) (F' := F) (S' := S) (U' := U) (K' := K) (O' := O) (E' := E) (R' := R) (W' := W) (V' := V) (ac' := ac) (kp' := kp) (L2' := L2) ⟨_, rfl⟩ (ct_X9_lasts_w0 Z B A0 AD AE ln L F S U K O J nd x0 (hF) (hJ) (n0) (hnd) (hx0)) ⟨Nat.le_of_ble_eq_true rfl, Nat.le_of_ble_eq_true rfl, rfl, rfl⟩ (fun v w h => by obtain ⟨J9, h1, h2, h3⟩ := h; exact ⟨h1, J9, h2, h3⟩) (ct_X10_lasts_w0 Z C E R (begQ E) W V O ac kp ln L2 J2 nd x0 (chN (Sf S) (Fn F) (Sdy S) (Sak S) (Sow S) (fC (fun i => decide (Fkd F i = 3)) (Fn F) 0) x0 nd) (hJ2) (hE) (hR) (nE0) (hnd) (hx0) (hla) (chN_le hx0 nd)) ⟨Nat.le_of_ble_eq_true rfl, Nat.le_of_ble_eq_true rfl, rfl, rfl⟩ (fun v w h => by obtain ⟨J9, h1, h2, h3⟩ := h; exact ⟨h1, J9, h2, h3⟩) (T)
        · exact mk_op (ln' := ln) (L' := L) (F' := F) (S' := S) (U' := U) (K' := K) (O' := O) (E' := E) (R' := R) (W' := W) (V' := V) (ac' := ac) (kp' := kp) (L2' := L2) ⟨_, rfl⟩ (ct_X9_lasts_w1 Z B A0 AD AE ln L F S U K O J nd x0 (hF) (hJ) (n0) (hnd) (hx0)) ⟨Nat.le_of_ble_eq_true rfl, Nat.le_of_ble_eq_true rfl, rfl, rfl⟩ (fun v w h => by obtain ⟨J9, h1, h2, h3⟩ := h; exact ⟨h1, J9, h2, h3⟩) (ct_X10_lasts_w1 Z C E R (begQ E) W V O ac kp ln L2 J2 nd x0 (chN (Sf S) (Fn F) (Sdy S) (Sak S) (Sow S) (fC (fun i => decide (Fkd F i = 3)) (Fn F) 0) x0 nd) (hJ2) (hE) (hR) (nE0) (hnd) (hx0) (hla) (chN_le hx0 nd)) ⟨Nat.le_of_ble_eq_true rfl, Nat.le_of_ble_eq_true rfl, rfl, rfl⟩ (fun v w h => by obtain ⟨J9, h1, h2, h3⟩ := h; exact ⟨h1, J9, h2, h3⟩) (T)
set_option maxHeartbeats 4000000 in
theorem op_year (Z : Nat → ClassId) (x : Int32) (y : Int32) (z : Int32) : OPP Z yX9_year wsX9_year yX10_year wsX10_year [.int x, .int y, .int z] isI := by
  intro b9 b10 u9 u10 hI
  obtain ⟨B, A0, AD, AE, ln, L, F, S, U, K, O, J, C, E, R, W, V, ac, kp, L2, J2, rfl, rfl, hJ, hJ2, T, rfl, rfl⟩ := hI
  obtain ⟨⟨hln, hL, hL2, hLL⟩, ⟨hF, hE, hFE, hn2, hk1⟩, hD, hU, hK, hO⟩ := id T
  have eN : Fn E = Fn F := hFE.1
  have eK : Fk E = Fk F := hFE.2.1
  have hn6 : Fn F ≤ 6 := hF.1
  have hk8 : Fk F ≤ 8 := hF.2.1
  have n0 : 0 < Fn F := by omega
  have k0 : 0 < Fk F := by omega
  have nE0 : 0 < Fn E := by omega
  have kE0 : 0 < Fk E := by omega
  have tq := tieD_TQ hD
  have hdy : Qdy R = Sdy S := hD.1.1
  have hR : okQ R := (TQ_dy tq).2.1
  obtain ⟨how, how4⟩ := TQ_ow tq
  have hS : okS F S := hD.2.2.2.2.2.2.2.2
  have hSd : Sdy S < 10000 := hS.2.1
  have hac : ac ≤ 8 := hU.2.1
  have hkp : kp ≤ 2 := hK.2.1
  rcases inB_or x (a := 0) (b := 9999) (by decide) (by decide) with hx | ⟨z0, -, hz0, rfl⟩
  · exact mk_op (ln' := ln) (L' := L) (F' := F) (S' := S) (U' := U) (K' := K) (O' := O) (E' := E) (R' := R) (W' := W) (V' := V) (ac' := ac) (kp' := kp) (L2' := L2) ⟨_, rfl⟩ (ct_X9_year_bad Z B A0 AD AE ln L F S U K O J x y z ((inB_f1 hx).elim Or.inl (fun z => Or.inr (Or.inl z)))) ⟨Nat.le_of_ble_eq_true rfl, Nat.le_of_ble_eq_true rfl, rfl, rfl⟩ (fun v w h => ⟨h.1, J, hJ, h.2⟩) (ct_X10_year_bad Z C E R (begQ E) W V O ac kp ln L2 J2 x y z (hJ2) (Or.inl hx)) ⟨Nat.le_of_ble_eq_true rfl, Nat.le_of_ble_eq_true rfl, rfl, rfl⟩ (fun v w h => by obtain ⟨J9, h1, h2, h3⟩ := h; exact ⟨h1, J9, h2, h3⟩) (T)
  · rcases inB_or y (a := 1) (b := 99) (by decide) (by decide) with hy | ⟨nd, hd1, hd2, rfl⟩
    · exact mk_op (ln' := ln) (L' := L) (F' := F) (S' := S) (U' := U) (K' := K) (O' := O) (E' := E) (R' := R) (W' := W) (V' := V) (ac' := ac) (kp' := kp) (L2' := L2) ⟨_, rfl⟩ (ct_X9_year_bad Z B A0 AD AE ln L F S U K O J (nI z0) y z (Or.inr (Or.inr ((inB_f1 hy).elim Or.inl (fun z => Or.inr (Or.inl z)))))) ⟨Nat.le_of_ble_eq_true rfl, Nat.le_of_ble_eq_true rfl, rfl, rfl⟩ (fun v w h => ⟨h.1, J, hJ, h.2⟩) (ct_X10_year_bad Z C E R (begQ E) W V O ac kp ln L2 J2 (nI z0) y z (hJ2) (Or.inr (Or.inl hy))) ⟨Nat.le_of_ble_eq_true rfl, Nat.le_of_ble_eq_true rfl, rfl, rfl⟩ (fun v w h => by obtain ⟨J9, h1, h2, h3⟩ := h; exact ⟨h1, J9, h2, h3⟩) (T)
    · rcases inB_or z (a := 0) (b := 1) (by decide) (by decide) with hz | ⟨q, -, hq, rfl⟩
      · exact mk_op (ln' := ln) (L' := L) (F' := F) (S' := S) (U' := U) (K' := K) (O' := O) (E' := E) (R' := R) (W' := W) (V' := V) (ac' := ac) (kp' := kp) (L2' := L2) ⟨_, rfl⟩ (ct_X9_year_bad Z B A0 AD AE ln L F S U K O J (nI z0) (nI nd) z (Or.inr (Or.inr (Or.inr (Or.inr ((inB_f1 hz).imp id (fun z => Int32.not_le.mpr z))))))) ⟨Nat.le_of_ble_eq_true rfl, Nat.le_of_ble_eq_true rfl, rfl, rfl⟩ (fun v w h => ⟨h.1, J, hJ, h.2⟩) (ct_X10_year_bad Z C E R (begQ E) W V O ac kp ln L2 J2 (nI z0) (nI nd) z (hJ2) (Or.inr (Or.inr hz))) ⟨Nat.le_of_ble_eq_true rfl, Nat.le_of_ble_eq_true rfl, rfl, rfl⟩ (fun v w h => by obtain ⟨J9, h1, h2, h3⟩ := h; exact ⟨h1, J9, h2, h3⟩) (T)
      · obtain ⟨yy, hyy⟩ : ∃ q9, q9 = (yrS (fun s j => askB (Fkd F j) (Ftp F s) (Fqu F s) (Sde S) (Fh F)) (Fn F) (Fk F) z0 (Sf S) (Sdy S) (Sak S) (Sow S) nd) := ⟨_, rfl⟩
        have hy0 := yr_tie hFE hF n0 k0 tq z0 nd
        have hy1 : yrS (asF F (Qde R)) (Fn F) (Fk F) z0 (Sf S) (Sdy S) (Sak S) (Sow S) nd = yy := by
          rw [hyy, hD.2.2.1]; rfl
        rw [hy1] at hy0
        obtain ⟨y1, y2⟩ := hy0
        obtain ⟨y3, y4⟩ := TQ_ow y1
        rcases (show q = 0 ∨ q = 1 by omega) with rfl | rfl
        · exact mk_op (ln' := ln) (L' := L) (F' := F) (S' := S) (U' := U) (K' := K) (O' := O) (E' := E) (R' := R) (W' := W) (V' := V) (ac' := ac) (kp' := kp) (L2' := L2) ⟨_, rfl⟩ (ct_X9_year_w0 Z B A0 AD AE ln L F S U K O J z0 nd yy (hF) (hJ) (n0) (k0) (hz0) (⟨hd1, hd2⟩) (hyy)) ⟨Nat.le_of_ble_eq_true rfl, Nat.le_of_ble_eq_true rfl, rfl, rfl⟩ (fun v w h => by obtain ⟨J9, h1, h2, h3⟩ := h; exact ⟨h1, J9, h2, h3⟩) (ct_X10_year_w0 Z C E R (begQ E) W V O ac kp ln L2 J2 z0 nd (hJ2) (hE) (hR) (nE0) (kE0) (hz0) (⟨hd1, hd2⟩)) ⟨Nat.le_of_ble_eq_true rfl, Nat.le_of_ble_eq_true rfl, rfl, rfl⟩ (fun v w h => by obtain ⟨J9, h1, h2, h3⟩ := h; exact ⟨h1.trans (congrArg (fun z => some (Value.int z)) (by rw [y3, onR_oR y4])), J9, h2, h3⟩) (T)
        · exact mk_op (ln' := ln) (L' := L) (F' := F) (S' := S) (U' := U) (K' := K) (O' := O) (E' := E) (R' := R) (W' := W) (V' := V) (ac' := ac) (kp' := kp) (L2' := L2) ⟨_, rfl⟩ (ct_X9_year_w1 Z B A0 AD AE ln L F S U K O J z0 nd yy (hF) (hJ) (n0) (k0) (hz0) (⟨hd1, hd2⟩) (hyy)) ⟨Nat.le_of_ble_eq_true rfl, Nat.le_of_ble_eq_true rfl, rfl, rfl⟩ (fun v w h => by obtain ⟨J9, h1, h2, h3⟩ := h; exact ⟨h1, J9, h2, h3⟩) (ct_X10_year_w1 Z C E R (begQ E) W V O ac kp ln L2 J2 z0 nd (hJ2) (hE) (hR) (nE0) (kE0) (hz0) (⟨hd1, hd2⟩)) ⟨Nat.le_of_ble_eq_true rfl, Nat.le_of_ble_eq_true rfl, rfl, rfl⟩ (fun v w h => by obtain ⟨J9, h1, h2, h3⟩ := h; exact ⟨h1.trans (congrArg (fun z => some (Value.int z)) (congrArg nI y2)), J9, h2, h3⟩) (T)
set_option maxHeartbeats 4000000 in
theorem op_keep (Z : Nat → ClassId)  : OPP Z yX9_keep wsX9_keep yX10_keep wsX10_keep [] isI := by
  intro b9 b10 u9 u10 hI
  obtain ⟨B, A0, AD, AE, ln, L, F, S, U, K, O, J, C, E, R, W, V, ac, kp, L2, J2, rfl, rfl, hJ, hJ2, T, rfl, rfl⟩ := hI
  obtain ⟨⟨hln, hL, hL2, hLL⟩, ⟨hF, hE, hFE, hn2, hk1⟩, hD, hU, hK, hO⟩ := id T
  have eN : Fn E = Fn F := hFE.1
  have eK : Fk E = Fk F := hFE.2.1
  have hn6 : Fn F ≤ 6 := hF.1
  have hk8 : Fk F ≤ 8 := hF.2.1
  have n0 : 0 < Fn F := by omega
  have k0 : 0 < Fk F := by omega
  have nE0 : 0 < Fn E := by omega
  have kE0 : 0 < Fk E := by omega
  have tq := tieD_TQ hD
  have hdy : Qdy R = Sdy S := hD.1.1
  have hR : okQ R := (TQ_dy tq).2.1
  obtain ⟨how, how4⟩ := TQ_ow tq
  have hS : okS F S := hD.2.2.2.2.2.2.2.2
  have hSd : Sdy S < 10000 := hS.2.1
  have hac : ac ≤ 8 := hU.2.1
  have hkp : kp ≤ 2 := hK.2.1
  rcases Nat.lt_or_ge kp 2 with h9 | h9
  · exact mk_op (ln' := ln) (L' := L) (F' := F) (S' := S) (U' := U) (K' := (pushP K (setN S (Fn F)) 2)) (O' := O) (E' := E) (R' := R) (W' := W) (V' := (va_up V kp R)) (ac' := ac) (kp' := (kp + 1)) (L2' := L2) ⟨_, rfl⟩ (ct_X9_keep_ok Z B A0 AD AE ln L F S U K O J  (⟨hK.2.2.1, by rw [hK.1]; exact hK.2.1⟩) (by rw [hK.1]; exact h9)) ⟨Nat.le_of_ble_eq_true rfl, Nat.le_of_ble_eq_true rfl, rfl, rfl⟩ (fun v w h => ⟨h.1, J, hJ, h.2⟩) (ct_X10_keep_ok Z C E R (begQ E) W V O ac kp ln L2 J2  (hJ2) (h9)) ⟨Nat.le_of_ble_eq_true rfl, Nat.le_of_ble_eq_true rfl, rfl, rfl⟩ (fun v w h => by obtain ⟨J9, h1, h2, h3⟩ := h; exact ⟨h1.trans (congrArg (fun z => some (Value.int z)) (congrArg nI (by rw [hK.1]; omega))), J9, h2, h3⟩) (⟨T.1, T.2.1, hD, hU, push2 hK (tieD_setN hD) h9, hO⟩)
  · exact mk_op (ln' := ln) (L' := L) (F' := F) (S' := S) (U' := U) (K' := K) (O' := O) (E' := E) (R' := R) (W' := W) (V' := V) (ac' := ac) (kp' := kp) (L2' := L2) ⟨_, rfl⟩ (ct_X9_keep_full Z B A0 AD AE ln L F S U K O J  (by rw [hK.1]; omega)) ⟨Nat.le_of_ble_eq_true rfl, Nat.le_of_ble_eq_true rfl, rfl, rfl⟩ (fun v w h => ⟨h.1, J, hJ, h.2⟩) (ct_X10_keep_full Z C E R (begQ E) W V O ac kp ln L2 J2  (hJ2) (by omega)) ⟨Nat.le_of_ble_eq_true rfl, Nat.le_of_ble_eq_true rfl, rfl, rfl⟩ (fun v w h => by obtain ⟨J9, h1, h2, h3⟩ := h; exact ⟨h1, J9, h2, h3⟩) (T)
set_option maxHeartbeats 4000000 in
theorem op_back (Z : Nat → ClassId)  : OPP Z yX9_back wsX9_back yX10_back wsX10_back [] isI := by
  intro b9 b10 u9 u10 hI
  obtain ⟨B, A0, AD, AE, ln, L, F, S, U, K, O, J, C, E, R, W, V, ac, kp, L2, J2, rfl, rfl, hJ, hJ2, T, rfl, rfl⟩ := hI
  obtain ⟨⟨hln, hL, hL2, hLL⟩, ⟨hF, hE, hFE, hn2, hk1⟩, hD, hU, hK, hO⟩ := id T
  have eN : Fn E = Fn F := hFE.1
  have eK : Fk E = Fk F := hFE.2.1
  have hn6 : Fn F ≤ 6 := hF.1
  have hk8 : Fk F ≤ 8 := hF.2.1
  have n0 : 0 < Fn F := by omega
  have k0 : 0 < Fk F := by omega
  have nE0 : 0 < Fn E := by omega
  have kE0 : 0 < Fk E := by omega
  have tq := tieD_TQ hD
  have hdy : Qdy R = Sdy S := hD.1.1
  have hR : okQ R := (TQ_dy tq).2.1
  obtain ⟨how, how4⟩ := TQ_ow tq
  have hS : okS F S := hD.2.2.2.2.2.2.2.2
  have hSd : Sdy S < 10000 := hS.2.1
  have hac : ac ≤ 8 := hU.2.1
  have hkp : kp ≤ 2 := hK.2.1
  rcases Nat.eq_zero_or_pos kp with h9 | h9
  · exact mk_op (ln' := ln) (L' := L) (F' := F) (S' := S) (U' := U) (K' := K) (O' := O) (E' := E) (R' := R) (W' := W) (V' := V) (ac' := ac) (kp' := kp) (L2' := L2) ⟨_, rfl⟩ (ct_X9_back_no Z B A0 AD AE ln L F S U K O J  (by rw [hK.1]; exact h9)) ⟨Nat.le_of_ble_eq_true rfl, Nat.le_of_ble_eq_true rfl, rfl, rfl⟩ (fun v w h => ⟨h.1, J, hJ, h.2⟩) (ct_X10_back_no Z C E R (begQ E) W V O ac kp ln L2 J2  (hJ2) (h9)) ⟨Nat.le_of_ble_eq_true rfl, Nat.le_of_ble_eq_true rfl, rfl, rfl⟩ (fun v w h => by obtain ⟨J9, h1, h2, h3⟩ := h; exact ⟨h1, J9, h2, h3⟩) (T)
  · obtain ⟨p1, p2⟩ := pop_tie hK h9
    exact mk_op (ln' := ln) (L' := L) (F' := F) (S' := (topP K)) (U' := (clrP U)) (K' := (popP K 2)) (O' := O) (E' := E) (R' := (V (kp - 1))) (W' := W) (V' := V) (ac' := 0) (kp' := (kp - 1)) (L2' := L2) ⟨_, rfl⟩ (ct_X9_back_ok Z B A0 AD AE ln L F S U K O J  (⟨hK.2.2.1, by rw [hK.1]; exact hK.2.1⟩) (by rw [hK.1]; exact h9) (p2.2.2.2.2.2.2.2.2.1)) ⟨Nat.le_of_ble_eq_true rfl, Nat.le_of_ble_eq_true rfl, rfl, rfl⟩ (fun v w h => ⟨h.1, J, hJ, h.2⟩) (ct_X10_back_ok Z C E R (begQ E) W V O ac kp ln L2 J2  (hJ2) (hkp) (h9)) ⟨Nat.le_of_ble_eq_true rfl, Nat.le_of_ble_eq_true rfl, rfl, rfl⟩ (fun v w h => by obtain ⟨J9, h1, h2, h3⟩ := h; exact ⟨h1.trans (congrArg (fun z => some (Value.int z)) (congrArg nI (by rw [hK.1]))), J9, h2, h3⟩) (⟨T.1, T.2.1, p2, clr_tie hU, p1, hO⟩)
set_option maxHeartbeats 4000000 in
theorem op_count (Z : Nat → ClassId) (y : Int32) : OPP Z yX9_count wsX9_count yX10_count wsX10_count [.int y] isI := by
  intro b9 b10 u9 u10 hI
  obtain ⟨B, A0, AD, AE, ln, L, F, S, U, K, O, J, C, E, R, W, V, ac, kp, L2, J2, rfl, rfl, hJ, hJ2, T, rfl, rfl⟩ := hI
  obtain ⟨⟨hln, hL, hL2, hLL⟩, ⟨hF, hE, hFE, hn2, hk1⟩, hD, hU, hK, hO⟩ := id T
  have eN : Fn E = Fn F := hFE.1
  have eK : Fk E = Fk F := hFE.2.1
  have hn6 : Fn F ≤ 6 := hF.1
  have hk8 : Fk F ≤ 8 := hF.2.1
  have n0 : 0 < Fn F := by omega
  have k0 : 0 < Fk F := by omega
  have nE0 : 0 < Fn E := by omega
  have kE0 : 0 < Fk E := by omega
  have tq := tieD_TQ hD
  have hdy : Qdy R = Sdy S := hD.1.1
  have hR : okQ R := (TQ_dy tq).2.1
  obtain ⟨how, how4⟩ := TQ_ow tq
  have hS : okS F S := hD.2.2.2.2.2.2.2.2
  have hSd : Sdy S < 10000 := hS.2.1
  have hac : ac ≤ 8 := hU.2.1
  have hkp : kp ≤ 2 := hK.2.1
  rcases inB_or y (a := 0) (b := 10) (by decide) (by decide) with hy | ⟨q, -, hq, rfl⟩
  · exact mk_op (ln' := ln) (L' := L) (F' := F) (S' := S) (U' := U) (K' := K) (O' := O) (E' := E) (R' := R) (W' := W) (V' := V) (ac' := ac) (kp' := kp) (L2' := L2) ⟨_, rfl⟩ (ct_X9_count_out Z B A0 AD AE ln L F S U K O J y ((inB_f1 hy).imp (fun z => by rw [Int32.lt_iff_toInt_lt] at z; rw [nI_toInt (by decide)] at z; exact z) (fun z => by rw [Int32.lt_iff_toInt_lt, nI_toInt (by decide)] at z; exact z))) ⟨Nat.le_of_ble_eq_true rfl, Nat.le_of_ble_eq_true rfl, rfl, rfl⟩ (fun v w h => ⟨h.1, J, hJ, h.2⟩) (ct_X10_count_out Z C E R (begQ E) W V O ac kp ln L2 J2 y (hJ2) ((inB_f1 hy).imp (fun z => by rw [Int32.lt_iff_toInt_lt] at z; rw [nI_toInt (by decide)] at z; exact z) (fun z => by rw [Int32.lt_iff_toInt_lt, nI_toInt (by decide)] at z; exact z))) ⟨Nat.le_of_ble_eq_true rfl, Nat.le_of_ble_eq_true rfl, rfl, rfl⟩ (fun v w h => by obtain ⟨J9, h1, h2, h3⟩ := h; exact ⟨h1, J9, h2, h3⟩) (T)
  · rcases (show q = 0 ∨ q = 1 ∨ q = 2 ∨ q = 3 ∨ q = 4 ∨ q = 5 ∨ q = 6 ∨ q = 7 ∨ q = 8 ∨ q = 9 ∨ q = 10 by omega) with rfl | rfl | rfl | rfl | rfl | rfl | rfl | rfl | rfl | rfl | rfl
    · exact mk_op (ln' := ln) (L' := L) (F' := F) (S' := S) (U' := U) (K' := K) (O' := O) (E' := E) (R' := R) (W' := W) (V' := V) (ac' := ac) (kp' := kp) (L2' := L2) ⟨_, rfl⟩ (ct_X9_count_w0 Z B A0 AD AE ln L F S U K O J  ) ⟨Nat.le_of_ble_eq_true rfl, Nat.le_of_ble_eq_true rfl, rfl, rfl⟩ (fun v w h => ⟨h.1, J, hJ, h.2⟩) (ct_X10_count_w0 Z C E R (begQ E) W V O ac kp ln L2 J2  (hJ2)) ⟨Nat.le_of_ble_eq_true rfl, Nat.le_of_ble_eq_true rfl, rfl, rfl⟩ (fun v w h => by obtain ⟨J9, h1, h2, h3⟩ := h; exact ⟨h1.trans (congrArg (fun z => some (Value.int z)) (congrArg nI eN)), J9, h2, h3⟩) (T)
    · exact mk_op (ln' := ln) (L' := L) (F' := F) (S' := S) (U' := U) (K' := K) (O' := O) (E' := E) (R' := R) (W' := W) (V' := V) (ac' := ac) (kp' := kp) (L2' := L2) ⟨_, rfl⟩ (ct_X9_count_w1 Z B A0 AD AE ln L F S U K O J  ) ⟨Nat.le_of_ble_eq_true rfl, Nat.le_of_ble_eq_true rfl, rfl, rfl⟩ (fun v w h => ⟨h.1, J, hJ, h.2⟩) (ct_X10_count_w1 Z C E R (begQ E) W V O ac kp ln L2 J2  (hJ2)) ⟨Nat.le_of_ble_eq_true rfl, Nat.le_of_ble_eq_true rfl, rfl, rfl⟩ (fun v w h => by obtain ⟨J9, h1, h2, h3⟩ := h; exact ⟨h1.trans (congrArg (fun z => some (Value.int z)) (congrArg nI eK)), J9, h2, h3⟩) (T)
    · exact mk_op (ln' := ln) (L' := L) (F' := F) (S' := S) (U' := U) (K' := K) (O' := O) (E' := E) (R' := R) (W' := W) (V' := V) (ac' := ac) (kp' := kp) (L2' := L2) ⟨_, rfl⟩ (ct_X9_count_w2 Z B A0 AD AE ln L F S U K O J  ) ⟨Nat.le_of_ble_eq_true rfl, Nat.le_of_ble_eq_true rfl, rfl, rfl⟩ (fun v w h => ⟨h.1, J, hJ, h.2⟩) (ct_X10_count_w2 Z C E R (begQ E) W V O ac kp ln L2 J2  (hJ2)) ⟨Nat.le_of_ble_eq_true rfl, Nat.le_of_ble_eq_true rfl, rfl, rfl⟩ (fun v w h => by obtain ⟨J9, h1, h2, h3⟩ := h; exact ⟨h1.trans (congrArg (fun z => some (Value.int z)) (congrArg nI hD.2.2.1)), J9, h2, h3⟩) (T)
    · exact mk_op (ln' := ln) (L' := L) (F' := F) (S' := S) (U' := U) (K' := K) (O' := O) (E' := E) (R' := R) (W' := W) (V' := V) (ac' := ac) (kp' := kp) (L2' := L2) ⟨_, rfl⟩ (ct_X9_count_w3 Z B A0 AD AE ln L F S U K O J  ) ⟨Nat.le_of_ble_eq_true rfl, Nat.le_of_ble_eq_true rfl, rfl, rfl⟩ (fun v w h => ⟨h.1, J, hJ, h.2⟩) (ct_X10_count_w3 Z C E R (begQ E) W V O ac kp ln L2 J2  (hJ2)) ⟨Nat.le_of_ble_eq_true rfl, Nat.le_of_ble_eq_true rfl, rfl, rfl⟩ (fun v w h => by obtain ⟨J9, h1, h2, h3⟩ := h; exact ⟨h1.trans (congrArg (fun z => some (Value.int z)) (congrArg nI hFE.2.2.1)), J9, h2, h3⟩) (T)
    · exact mk_op (ln' := ln) (L' := L) (F' := F) (S' := S) (U' := U) (K' := K) (O' := O) (E' := E) (R' := R) (W' := W) (V' := V) (ac' := ac) (kp' := kp) (L2' := L2) ⟨_, rfl⟩ (ct_X9_count_w4 Z B A0 AD AE ln L F S U K O J  ) ⟨Nat.le_of_ble_eq_true rfl, Nat.le_of_ble_eq_true rfl, rfl, rfl⟩ (fun v w h => ⟨h.1, J, hJ, h.2⟩) (ct_X10_count_w4 Z C E R (begQ E) W V O ac kp ln L2 J2  (hJ2)) ⟨Nat.le_of_ble_eq_true rfl, Nat.le_of_ble_eq_true rfl, rfl, rfl⟩ (fun v w h => by obtain ⟨J9, h1, h2, h3⟩ := h; exact ⟨h1.trans (congrArg (fun z => some (Value.int z)) (congrArg nI hdy)), J9, h2, h3⟩) (T)
    · exact mk_op (ln' := ln) (L' := L) (F' := F) (S' := S) (U' := U) (K' := K) (O' := O) (E' := E) (R' := R) (W' := W) (V' := V) (ac' := ac) (kp' := kp) (L2' := L2) ⟨_, rfl⟩ (ct_X9_count_w5 Z B A0 AD AE ln L F S U K O J  ) ⟨Nat.le_of_ble_eq_true rfl, Nat.le_of_ble_eq_true rfl, rfl, rfl⟩ (fun v w h => ⟨h.1, J, hJ, h.2⟩) (ct_X10_count_w5 Z C E R (begQ E) W V O ac kp ln L2 J2  (hJ2)) ⟨Nat.le_of_ble_eq_true rfl, Nat.le_of_ble_eq_true rfl, rfl, rfl⟩ (fun v w h => by obtain ⟨J9, h1, h2, h3⟩ := h; exact ⟨h1.trans (congrArg (fun z => some (Value.int z)) (own_cnt how how4)), J9, h2, h3⟩) (T)
    · exact mk_op (ln' := ln) (L' := L) (F' := F) (S' := S) (U' := U) (K' := K) (O' := O) (E' := E) (R' := R) (W' := W) (V' := V) (ac' := ac) (kp' := kp) (L2' := L2) ⟨_, rfl⟩ (ct_X9_count_w6 Z B A0 AD AE ln L F S U K O J  ) ⟨Nat.le_of_ble_eq_true rfl, Nat.le_of_ble_eq_true rfl, rfl, rfl⟩ (fun v w h => ⟨h.1, J, hJ, h.2⟩) (ct_X10_count_w6 Z C E R (begQ E) W V O ac kp ln L2 J2  (hJ2)) ⟨Nat.le_of_ble_eq_true rfl, Nat.le_of_ble_eq_true rfl, rfl, rfl⟩ (fun v w h => by obtain ⟨J9, h1, h2, h3⟩ := h; exact ⟨h1, J9, h2, h3⟩) (T)
    · exact mk_op (ln' := ln) (L' := L) (F' := F) (S' := S) (U' := U) (K' := K) (O' := O) (E' := E) (R' := R) (W' := W) (V' := V) (ac' := ac) (kp' := kp) (L2' := L2) ⟨_, rfl⟩ (ct_X9_count_w7 Z B A0 AD AE ln L F S U K O J  ) ⟨Nat.le_of_ble_eq_true rfl, Nat.le_of_ble_eq_true rfl, rfl, rfl⟩ (fun v w h => ⟨h.1, J, hJ, h.2⟩) (ct_X10_count_w7 Z C E R (begQ E) W V O ac kp ln L2 J2  (hJ2)) ⟨Nat.le_of_ble_eq_true rfl, Nat.le_of_ble_eq_true rfl, rfl, rfl⟩ (fun v w h => by obtain ⟨J9, h1, h2, h3⟩ := h; exact ⟨h1.trans (congrArg (fun z => some (Value.int z)) (congrArg nI (by rw [hU.1]))), J9, h2, h3⟩) (T)
    · exact mk_op (ln' := ln) (L' := L) (F' := F) (S' := S) (U' := U) (K' := K) (O' := O) (E' := E) (R' := R) (W' := W) (V' := V) (ac' := ac) (kp' := kp) (L2' := L2) ⟨_, rfl⟩ (ct_X9_count_w8 Z B A0 AD AE ln L F S U K O J  ) ⟨Nat.le_of_ble_eq_true rfl, Nat.le_of_ble_eq_true rfl, rfl, rfl⟩ (fun v w h => ⟨h.1, J, hJ, h.2⟩) (ct_X10_count_w8 Z C E R (begQ E) W V O ac kp ln L2 J2  (hJ2)) ⟨Nat.le_of_ble_eq_true rfl, Nat.le_of_ble_eq_true rfl, rfl, rfl⟩ (fun v w h => by obtain ⟨J9, h1, h2, h3⟩ := h; exact ⟨h1.trans (congrArg (fun z => some (Value.int z)) (congrArg nI (by rw [hK.1]))), J9, h2, h3⟩) (T)
    · exact mk_op (ln' := ln) (L' := L) (F' := F) (S' := S) (U' := U) (K' := K) (O' := O) (E' := E) (R' := R) (W' := W) (V' := V) (ac' := ac) (kp' := kp) (L2' := L2) ⟨_, rfl⟩ (ct_X9_count_w9 Z B A0 AD AE ln L F S U K O J  ) ⟨Nat.le_of_ble_eq_true rfl, Nat.le_of_ble_eq_true rfl, rfl, rfl⟩ (fun v w h => ⟨h.1, J, hJ, h.2⟩) (ct_X10_count_w9 Z C E R (begQ E) W V O ac kp ln L2 J2  (hJ2)) ⟨Nat.le_of_ble_eq_true rfl, Nat.le_of_ble_eq_true rfl, rfl, rfl⟩ (fun v w h => by obtain ⟨J9, h1, h2, h3⟩ := h; exact ⟨h1, J9, h2, h3⟩) (T)
    · exact mk_op (ln' := ln) (L' := L) (F' := F) (S' := S) (U' := U) (K' := K) (O' := O) (E' := E) (R' := R) (W' := W) (V' := V) (ac' := ac) (kp' := kp) (L2' := L2) ⟨_, rfl⟩ (ct_X9_count_w10 Z B A0 AD AE ln L F S U K O J  ) ⟨Nat.le_of_ble_eq_true rfl, Nat.le_of_ble_eq_true rfl, rfl, rfl⟩ (fun v w h => ⟨h.1, J, hJ, h.2⟩) (ct_X10_count_w10 Z C E R (begQ E) W V O ac kp ln L2 J2  (hJ2)) ⟨Nat.le_of_ble_eq_true rfl, Nat.le_of_ble_eq_true rfl, rfl, rfl⟩ (fun v w h => by obtain ⟨J9, h1, h2, h3⟩ := h; exact ⟨h1.trans (congrArg (fun z => some (Value.int z)) (congrArg nI hD.2.2.2.1)), J9, h2, h3⟩) (T)
