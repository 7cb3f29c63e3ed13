theorem lt63 {x : Int32} (h : nI 63 < x) : nI 64 ≤ x := by
  rw [Int32.lt_iff_toInt_lt, nI_toInt (by decide)] at h
  rw [Int32.le_iff_toInt_le, nI_toInt (by decide)]
  omega
set_option maxHeartbeats 4000000 in
theorem op_say (Z : Nat → ClassId) (x : Int32) (y : Int32) : OPP Z yX9_say wsX9_say yX10_say wsX10_say [.int x, .int y] isI := by
  intro b9 b10 u9 u10 hI
  obtain ⟨B, A0, AD, AE, ln, L, F, S, U, K, O, J, C, E, R, W, V, ac, kp, L2, J2, rfl, rfl, hJ, hJ2, T, rfl, rfl⟩ := hI
  obtain ⟨⟨hln, hL, hL2, hLL⟩, ⟨hF, hE, hFE, hn2, hk1⟩, hD, hU, hK, hO⟩ := id T
  have eN : Fn E = Fn F := hFE.1
  have eK : Fk E = Fk F := hFE.2.1
  have hn6 : Fn F ≤ 6 := hF.1
  have hk8 : Fk F ≤ 8 := hF.2.1
  have n0 : 0 < Fn F := by omega
  have k0 : 0 < Fk F := by omega
  have nE0 : 0 < Fn E := by omega
  have kE0 : 0 < Fk E := by omega
  have tq := tieD_TQ hD
  have hdy : Qdy R = Sdy S := hD.1.1
  have hR : okQ R := (TQ_dy tq).2.1
  obtain ⟨how, how4⟩ := TQ_ow tq
  have hS : okS F S := hD.2.2.2.2.2.2.2.2
  have hSd : Sdy S < 10000 := hS.2.1
  have hac : ac ≤ 8 := hU.2.1
  have hkp : kp ≤ 2 := hK.2.1
  rcases bad_or x (Fn F) (by omega) with hx | ⟨j, hj, rfl⟩
  · exact mk_op (ln' := ln) (L' := L) (F' := F) (S' := S) (U' := U) (K' := K) (O' := O) (E' := E) (R' := R) (W' := W) (V' := V) (ac' := ac) (kp' := kp) (L2' := L2) ⟨_, rfl⟩ (ct_X9_say_bad Z B A0 AD AE ln L F S U K O J x y (hF) (hx)) ⟨Nat.le_of_ble_eq_true rfl, Nat.le_of_ble_eq_true rfl, rfl, rfl⟩ (fun v w h => ⟨h.1, J, hJ, h.2⟩) (ct_X10_say_bad Z C E R (begQ E) W V O ac kp ln L2 J2 x y (hJ2) (hE) (nE0) (by rw [eN]; exact hx)) ⟨Nat.le_of_ble_eq_true rfl, Nat.le_of_ble_eq_true rfl, rfl, rfl⟩ (fun v w h => by obtain ⟨J9, h1, h2, h3⟩ := h; exact ⟨h1, J9, h2, h3⟩) (T)
  · rcases bad_or y (Fk F) (by omega) with hy | ⟨s, hs, rfl⟩
    · exact mk_op (ln' := ln) (L' := L) (F' := F) (S' := S) (U' := U) (K' := K) (O' := O) (E' := E) (R' := R) (W' := W) (V' := V) (ac' := ac) (kp' := kp) (L2' := L2) ⟨_, rfl⟩ (ct_X9_say_bad2 Z B A0 AD AE ln L F S U K O J j y (hF) (hj) (hy)) ⟨Nat.le_of_ble_eq_true rfl, Nat.le_of_ble_eq_true rfl, rfl, rfl⟩ (fun v w h => ⟨h.1, J, hJ, h.2⟩) (ct_X10_say_bad2 Z C E R (begQ E) W V O ac kp ln L2 J2 j y (hJ2) (hE) (kE0) (by omega) (by rw [eK]; exact hy)) ⟨Nat.le_of_ble_eq_true rfl, Nat.le_of_ble_eq_true rfl, rfl, rfl⟩ (fun v w h => by obtain ⟨J9, h1, h2, h3⟩ := h; exact ⟨h1, J9, h2, h3⟩) (T)
    · rcases Nat.lt_or_ge (Sse S) 4 with h4 | h4
      · obtain ⟨ht, ha⟩ := hear_tie hD hF hFE hj hs h4
        exact mk_op (ln' := ln) (L' := L) (F' := F) (S' := (hearS F S j s)) (U' := (pushP U (setN S (Fn F)) 8)) (K' := K) (O' := O) (E' := E) (R' := (hrQ E R j s)) (W' := (remW W ac R)) (V' := V) (ac' := (remA ac)) (kp' := kp) (L2' := L2) ⟨_, rfl⟩ (ct_X9_say_ok Z B A0 AD AE ln L F S U K O J j s (hF) (hS) (⟨hU.2.2.1, by rw [hU.1]; exact hU.2.1⟩) (hj) (hs) (h4)) ⟨Nat.le_of_ble_eq_true rfl, Nat.le_of_ble_eq_true rfl, rfl, rfl⟩ (fun v w h => ⟨h.1, J, hJ, h.2⟩) (ct_X10_say_ok Z C E R (begQ E) W V O ac kp ln L2 J2 j s (hJ2) (hE) (hR) (by omega) (by omega) (hac) (by omega) (by rw [hD.2.2.2.1]; exact h4) (fun c => by rw [hdy] at c ⊢; rw [(hD.2.2.2.2.2.1 _ c).1, hD.2.2.2.2.2.2.1 c]; exact h4)) ⟨Nat.le_of_ble_eq_true rfl, Nat.le_of_ble_eq_true rfl, rfl, rfl⟩ (fun v w h => by obtain ⟨J9, h1, h2, h3⟩ := h; exact ⟨h1.trans (congrArg (fun z => some (Value.int z)) (congrArg bI ha)), J9, h2, h3⟩) (⟨T.1, T.2.1, ht, push8 hU (tieD_setN hD), hK, hO⟩)
      · exact mk_op (ln' := ln) (L' := L) (F' := F) (S' := S) (U' := U) (K' := K) (O' := O) (E' := E) (R' := R) (W' := W) (V' := V) (ac' := ac) (kp' := kp) (L2' := L2) ⟨_, rfl⟩ (ct_X9_say_full Z B A0 AD AE ln L F S U K O J j s (hF) (hj) (hs) (by have := hS.2.2.1; omega)) ⟨Nat.le_of_ble_eq_true rfl, Nat.le_of_ble_eq_true rfl, rfl, rfl⟩ (fun v w h => ⟨h.1, J, hJ, h.2⟩) (ct_X10_say_full Z C E R (begQ E) W V O ac kp ln L2 J2 j s (hJ2) (hE) (by omega) (by omega) (by rw [hD.2.2.2.1]; have := hS.2.2.1; omega)) ⟨Nat.le_of_ble_eq_true rfl, Nat.le_of_ble_eq_true rfl, rfl, rfl⟩ (fun v w h => by obtain ⟨J9, h1, h2, h3⟩ := h; exact ⟨h1, J9, h2, h3⟩) (T)
set_option maxHeartbeats 4000000 in
theorem op_noon (Z : Nat → ClassId)  : OPP Z yX9_noon wsX9_noon yX10_noon wsX10_noon [] isI := by
  intro b9 b10 u9 u10 hI
  obtain ⟨B, A0, AD, AE, ln, L, F, S, U, K, O, J, C, E, R, W, V, ac, kp, L2, J2, rfl, rfl, hJ, hJ2, T, rfl, rfl⟩ := hI
  obtain ⟨⟨hln, hL, hL2, hLL⟩, ⟨hF, hE, hFE, hn2, hk1⟩, hD, hU, hK, hO⟩ := id T
  have eN : Fn E = Fn F := hFE.1
  have eK : Fk E = Fk F := hFE.2.1
  have hn6 : Fn F ≤ 6 := hF.1
  have hk8 : Fk F ≤ 8 := hF.2.1
  have n0 : 0 < Fn F := by omega
  have k0 : 0 < Fk F := by omega
  have nE0 : 0 < Fn E := by omega
  have kE0 : 0 < Fk E := by omega
  have tq := tieD_TQ hD
  have hdy : Qdy R = Sdy S := hD.1.1
  have hR : okQ R := (TQ_dy tq).2.1
  obtain ⟨how, how4⟩ := TQ_ow tq
  have hS : okS F S := hD.2.2.2.2.2.2.2.2
  have hSd : Sdy S < 10000 := hS.2.1
  have hac : ac ≤ 8 := hU.2.1
  have hkp : kp ≤ 2 := hK.2.1
  rcases Nat.lt_or_ge (Sdy S) 9999 with hd | hd
  · have hN := noon_tie hD hF hFE n0 hd
    obtain ⟨q1, q2⟩ := TQ_ow (tieD_TQ hN)
    exact mk_op (ln' := ln) (L' := L) (F' := F) (S' := (noonS S (Fn F))) (U' := (pushP U (setN S (Fn F)) 8)) (K' := K) (O' := O) (E' := E) (R' := (nooQ (Fn E) R)) (W' := (remW W ac R)) (V' := V) (ac' := (remA ac)) (kp' := kp) (L2' := L2) ⟨_, rfl⟩ (ct_X9_noon_ok Z B A0 AD AE ln L F S U K O J  (hF) (⟨hU.2.2.1, by rw [hU.1]; exact hU.2.1⟩) (hd)) ⟨Nat.le_of_ble_eq_true rfl, Nat.le_of_ble_eq_true rfl, rfl, rfl⟩ (fun v w h => ⟨h.1, J, hJ, h.2⟩) (ct_X10_noon_ok Z C E R (begQ E) W V O ac kp ln L2 J2  (hJ2) (hE) (hR) (hac) (by omega)) ⟨Nat.le_of_ble_eq_true rfl, Nat.le_of_ble_eq_true rfl, rfl, rfl⟩ (fun v w h => by obtain ⟨J9, h1, h2, h3⟩ := h; exact ⟨h1.trans (congrArg (fun z => some (Value.int z)) (by rw [q1, onR_oR q2]; rfl)), J9, h2, h3⟩) (⟨T.1, T.2.1, hN, push8 hU (tieD_setN hD), hK, hO⟩)
  · exact mk_op (ln' := ln) (L' := L) (F' := F) (S' := S) (U' := U) (K' := K) (O' := O) (E' := E) (R' := R) (W' := W) (V' := V) (ac' := ac) (kp' := kp) (L2' := L2) ⟨_, rfl⟩ (ct_X9_noon_no Z B A0 AD AE ln L F S U K O J  (hd) (by omega)) ⟨Nat.le_of_ble_eq_true rfl, Nat.le_of_ble_eq_true rfl, rfl, rfl⟩ (fun v w h => ⟨h.1, J, hJ, h.2⟩) (ct_X10_noon_no Z C E R (begQ E) W V O ac kp ln L2 J2  (hJ2) (by omega)) ⟨Nat.le_of_ble_eq_true rfl, Nat.le_of_ble_eq_true rfl, rfl, rfl⟩ (fun v w h => by obtain ⟨J9, h1, h2, h3⟩ := h; exact ⟨h1, J9, h2, h3⟩) (T)
set_option maxHeartbeats 4000000 in
theorem op_mend (Z : Nat → ClassId) (x : Int32) : OPP Z yX9_mend wsX9_mend yX10_mend wsX10_mend [.int x] isI := by
  intro b9 b10 u9 u10 hI
  obtain ⟨B, A0, AD, AE, ln, L, F, S, U, K, O, J, C, E, R, W, V, ac, kp, L2, J2, rfl, rfl, hJ, hJ2, T, rfl, rfl⟩ := hI
  obtain ⟨⟨hln, hL, hL2, hLL⟩, ⟨hF, hE, hFE, hn2, hk1⟩, hD, hU, hK, hO⟩ := id T
  have eN : Fn E = Fn F := hFE.1
  have eK : Fk E = Fk F := hFE.2.1
  have hn6 : Fn F ≤ 6 := hF.1
  have hk8 : Fk F ≤ 8 := hF.2.1
  have n0 : 0 < Fn F := by omega
  have k0 : 0 < Fk F := by omega
  have nE0 : 0 < Fn E := by omega
  have kE0 : 0 < Fk E := by omega
  have tq := tieD_TQ hD
  have hdy : Qdy R = Sdy S := hD.1.1
  have hR : okQ R := (TQ_dy tq).2.1
  obtain ⟨how, how4⟩ := TQ_ow tq
  have hS : okS F S := hD.2.2.2.2.2.2.2.2
  have hSd : Sdy S < 10000 := hS.2.1
  have hac : ac ≤ 8 := hU.2.1
  have hkp : kp ≤ 2 := hK.2.1
  rcases inB_or x (a := 0) (b := 63) (by decide) (by decide) with hx | ⟨v, -, hv, rfl⟩
  · exact mk_op (ln' := ln) (L' := L) (F' := F) (S' := S) (U' := U) (K' := K) (O' := O) (E' := E) (R' := R) (W' := W) (V' := V) (ac' := ac) (kp' := kp) (L2' := L2) ⟨_, rfl⟩ (ct_X9_mend_bad Z B A0 AD AE ln L F S U K O J x ((inB_f1 hx).imp id (fun z => lt63 z))) ⟨Nat.le_of_ble_eq_true rfl, Nat.le_of_ble_eq_true rfl, rfl, rfl⟩ (fun v w h => ⟨h.1, J, hJ, h.2⟩) (ct_X10_mend_bad Z C E R (begQ E) W V O ac kp ln L2 J2 x (hJ2) (hx)) ⟨Nat.le_of_ble_eq_true rfl, Nat.le_of_ble_eq_true rfl, rfl, rfl⟩ (fun v w h => by obtain ⟨J9, h1, h2, h3⟩ := h; exact ⟨h1, J9, h2, h3⟩) (T)
  · exact mk_op (ln' := ln) (L' := L) (F' := F) (S' := (setDe S v)) (U' := (pushP U (setN S (Fn F)) 8)) (K' := K) (O' := O) (E' := E) (R' := (sQe R v)) (W' := (remW W ac R)) (V' := V) (ac' := (remA ac)) (kp' := kp) (L2' := L2) ⟨_, rfl⟩ (ct_X9_mend_ok Z B A0 AD AE ln L F S U K O J v (⟨hU.2.2.1, by rw [hU.1]; exact hU.2.1⟩) (by omega)) ⟨Nat.le_of_ble_eq_true rfl, Nat.le_of_ble_eq_true rfl, rfl, rfl⟩ (fun v w h => ⟨h.1, J, hJ, h.2⟩) (ct_X10_mend_ok Z C E R (begQ E) W V O ac kp ln L2 J2 v (hJ2) (hac) (by omega)) ⟨Nat.le_of_ble_eq_true rfl, Nat.le_of_ble_eq_true rfl, rfl, rfl⟩ (fun v w h => by obtain ⟨J9, h1, h2, h3⟩ := h; exact ⟨h1.trans (congrArg (fun z => some (Value.int z)) (congrArg nI hD.2.2.1)), J9, h2, h3⟩) (⟨T.1, T.2.1, mend_tie hD (by omega), push8 hU (tieD_setN hD), hK, hO⟩)
set_option maxHeartbeats 4000000 in
theorem op_undo (Z : Nat → ClassId)  : OPP Z yX9_undo wsX9_undo yX10_undo wsX10_undo [] isI := by
  intro b9 b10 u9 u10 hI
  obtain ⟨B, A0, AD, AE, ln, L, F, S, U, K, O, J, C, E, R, W, V, ac, kp, L2, J2, rfl, rfl, hJ, hJ2, T, rfl, rfl⟩ := hI
  obtain ⟨⟨hln, hL, hL2, hLL⟩, ⟨hF, hE, hFE, hn2, hk1⟩, hD, hU, hK, hO⟩ := id T
  have eN : Fn E = Fn F := hFE.1
  have eK : Fk E = Fk F := hFE.2.1
  have hn6 : Fn F ≤ 6 := hF.1
  have hk8 : Fk F ≤ 8 := hF.2.1
  have n0 : 0 < Fn F := by omega
  have k0 : 0 < Fk F := by omega
  have nE0 : 0 < Fn E := by omega
  have kE0 : 0 < Fk E := by omega
  have tq := tieD_TQ hD
  have hdy : Qdy R = Sdy S := hD.1.1
  have hR : okQ R := (TQ_dy tq).2.1
  obtain ⟨how, how4⟩ := TQ_ow tq
  have hS : okS F S := hD.2.2.2.2.2.2.2.2
  have hSd : Sdy S < 10000 := hS.2.1
  have hac : ac ≤ 8 := hU.2.1
  have hkp : kp ≤ 2 := hK.2.1
  rcases Nat.eq_zero_or_pos ac with h9 | h9
  · exact mk_op (ln' := ln) (L' := L) (F' := F) (S' := S) (U' := U) (K' := K) (O' := O) (E' := E) (R' := R) (W' := W) (V' := V) (ac' := ac) (kp' := kp) (L2' := L2) ⟨_, rfl⟩ (ct_X9_undo_no Z B A0 AD AE ln L F S U K O J  (by rw [hU.1]; exact h9)) ⟨Nat.le_of_ble_eq_true rfl, Nat.le_of_ble_eq_true rfl, rfl, rfl⟩ (fun v w h => ⟨h.1, J, hJ, h.2⟩) (ct_X10_undo_no Z C E R (begQ E) W V O ac kp ln L2 J2  (hJ2) (h9)) ⟨Nat.le_of_ble_eq_true rfl, Nat.le_of_ble_eq_true rfl, rfl, rfl⟩ (fun v w h => by obtain ⟨J9, h1, h2, h3⟩ := h; exact ⟨h1, J9, h2, h3⟩) (T)
  · obtain ⟨p1, p2⟩ := pop_tie hU h9
    exact mk_op (ln' := ln) (L' := L) (F' := F) (S' := (topP U)) (U' := (popP U 8)) (K' := K) (O' := O) (E' := E) (R' := (W (ac - 1))) (W' := W) (V' := V) (ac' := (ac - 1)) (kp' := kp) (L2' := L2) ⟨_, rfl⟩ (ct_X9_undo_ok Z B A0 AD AE ln L F S U K O J  (⟨hU.2.2.1, by rw [hU.1]; exact hU.2.1⟩) (by rw [hU.1]; exact h9) (p2.2.2.2.2.2.2.2.2.1)) ⟨Nat.le_of_ble_eq_true rfl, Nat.le_of_ble_eq_true rfl, rfl, rfl⟩ (fun v w h => ⟨h.1, J, hJ, h.2⟩) (ct_X10_undo_ok Z C E R (begQ E) W V O ac kp ln L2 J2  (hJ2) (hac) (h9)) ⟨Nat.le_of_ble_eq_true rfl, Nat.le_of_ble_eq_true rfl, rfl, rfl⟩ (fun v w h => by obtain ⟨J9, h1, h2, h3⟩ := h; exact ⟨h1.trans (congrArg (fun z => some (Value.int z)) (congrArg nI (by rw [hU.1]))), J9, h2, h3⟩) (⟨T.1, T.2.1, p2, p1, hK, hO⟩)
set_option maxHeartbeats 4000000 in
theorem op_heir (Z : Nat → ClassId) (x : Int32) : OPP Z yX9_heir wsX9_heir yX10_heir wsX10_heir [.int x] isI := by
  intro b9 b10 u9 u10 hI
  obtain ⟨B, A0, AD, AE, ln, L, F, S, U, K, O, J, C, E, R, W, V, ac, kp, L2, J2, rfl, rfl, hJ, hJ2, T, rfl, rfl⟩ := hI
  obtain ⟨⟨hln, hL, hL2, hLL⟩, ⟨hF, hE, hFE, hn2, hk1⟩, hD, hU, hK, hO⟩ := id T
  have eN : Fn E = Fn F := hFE.1
  have eK : Fk E = Fk F := hFE.2.1
  have hn6 : Fn F ≤ 6 := hF.1
  have hk8 : Fk F ≤ 8 := hF.2.1
  have n0 : 0 < Fn F := by omega
  have k0 : 0 < Fk F := by omega
  have nE0 : 0 < Fn E := by omega
  have kE0 : 0 < Fk E := by omega
  have tq := tieD_TQ hD
  have hdy : Qdy R = Sdy S := hD.1.1
  have hR : okQ R := (TQ_dy tq).2.1
  obtain ⟨how, how4⟩ := TQ_ow tq
  have hS : okS F S := hD.2.2.2.2.2.2.2.2
  have hSd : Sdy S < 10000 := hS.2.1
  have hac : ac ≤ 8 := hU.2.1
  have hkp : kp ≤ 2 := hK.2.1
  rcases bad_or x (Fn F) (by omega) with hx | ⟨j, hj, rfl⟩
  · exact mk_op (ln' := ln) (L' := L) (F' := F) (S' := S) (U' := U) (K' := K) (O' := O) (E' := E) (R' := R) (W' := W) (V' := V) (ac' := ac) (kp' := kp) (L2' := L2) ⟨_, rfl⟩ (ct_X9_heir_bad Z B A0 AD AE ln L F S U K O J x (hF) (hx)) ⟨Nat.le_of_ble_eq_true rfl, Nat.le_of_ble_eq_true rfl, rfl, rfl⟩ (fun v w h => ⟨h.1, J, hJ, h.2⟩) (ct_X10_heir_bad Z C E R (begQ E) W V O ac kp ln L2 J2 x (hJ2) (hE) (nE0) (by rw [eN]; exact hx)) ⟨Nat.le_of_ble_eq_true rfl, Nat.le_of_ble_eq_true rfl, rfl, rfl⟩ (fun v w h => by obtain ⟨J9, h1, h2, h3⟩ := h; exact ⟨h1, J9, h2, h3⟩) (T)
  · exact mk_op (ln' := ln) (L' := L) (F' := F) (S' := S) (U' := U) (K' := K) (O' := O) (E' := E) (R' := R) (W' := W) (V' := V) (ac' := ac) (kp' := kp) (L2' := L2) ⟨_, rfl⟩ (ct_X9_heir_ok Z B A0 AD AE ln L F S U K O J j (hF) (hj)) ⟨Nat.le_of_ble_eq_true rfl, Nat.le_of_ble_eq_true rfl, rfl, rfl⟩ (fun v w h => ⟨h.1, J, hJ, h.2⟩) (ct_X10_heir_ok Z C E R (begQ E) W V O ac kp ln L2 J2 j (hJ2) (hE) (hR) (by omega)) ⟨Nat.le_of_ble_eq_true rfl, Nat.le_of_ble_eq_true rfl, rfl, rfl⟩ (fun v w h => by obtain ⟨J9, h1, h2, h3⟩ := h; exact ⟨h1.trans (congrArg (fun z => some (Value.int z)) (congrArg nI (by rw [eN]; exact TQ_hbw tq _))), J9, h2, h3⟩) (T)
set_option maxHeartbeats 4000000 in
theorem op_among (Z : Nat → ClassId)  : OPP Z yX9_among wsX9_among yX10_among wsX10_among [] isI := by
  intro b9 b10 u9 u10 hI
  obtain ⟨B, A0, AD, AE, ln, L, F, S, U, K, O, J, C, E, R, W, V, ac, kp, L2, J2, rfl, rfl, hJ, hJ2, T, rfl, rfl⟩ := hI
  obtain ⟨⟨hln, hL, hL2, hLL⟩, ⟨hF, hE, hFE, hn2, hk1⟩, hD, hU, hK, hO⟩ := id T
  have eN : Fn E = Fn F := hFE.1
  have eK : Fk E = Fk F := hFE.2.1
  have hn6 : Fn F ≤ 6 := hF.1
  have hk8 : Fk F ≤ 8 := hF.2.1
  have n0 : 0 < Fn F := by omega
  have k0 : 0 < Fk F := by omega
  have nE0 : 0 < Fn E := by omega
  have kE0 : 0 < Fk E := by omega
  have tq := tieD_TQ hD
  have hdy : Qdy R = Sdy S := hD.1.1
  have hR : okQ R := (TQ_dy tq).2.1
  obtain ⟨how, how4⟩ := TQ_ow tq
  have hS : okS F S := hD.2.2.2.2.2.2.2.2
  have hSd : Sdy S < 10000 := hS.2.1
  have hac : ac ≤ 8 := hU.2.1
  have hkp : kp ≤ 2 := hK.2.1
  exact mk_op (ln' := ln) (L' := L) (F' := F) (S' := S) (U' := U) (K' := K) (O' := O) (E' := E) (R' := R) (W' := W) (V' := V) (ac' := ac) (kp' := kp) (L2' := L2) ⟨_, rfl⟩ (ct_X9_among Z B A0 AD AE ln L F S U K O J  (hF) (n0)) ⟨Nat.le_of_ble_eq_true rfl, Nat.le_of_ble_eq_true rfl, rfl, rfl⟩ (fun v w h => ⟨h.1, J, hJ, h.2⟩) (ct_X10_among Z C E R (begQ E) W V O ac kp ln L2 J2  (hJ2) (hE) (hR) (nE0)) ⟨Nat.le_of_ble_eq_true rfl, Nat.le_of_ble_eq_true rfl, rfl, rfl⟩ (fun v w h => by obtain ⟨J9, h1, h2, h3⟩ := h; exact ⟨h1.trans (congrArg (fun z => some (Value.int z)) (congrArg nI (by rw [eN]; exact heirsN_cong (fun i hi => TQ_ag tq hi) _))), J9, h2, h3⟩) (T)
set_option maxHeartbeats 4000000 in
theorem op_thinks (Z : Nat → ClassId) (x : Int32) : OPP Z yX9_thinks wsX9_thinks yX10_thinks wsX10_thinks [.int x] isI := by
  intro b9 b10 u9 u10 hI
  obtain ⟨B, A0, AD, AE, ln, L, F, S, U, K, O, J, C, E, R, W, V, ac, kp, L2, J2, rfl, rfl, hJ, hJ2, T, rfl, rfl⟩ := hI
  obtain ⟨⟨hln, hL, hL2, hLL⟩, ⟨hF, hE, hFE, hn2, hk1⟩, hD, hU, hK, hO⟩ := id T
  have eN : Fn E = Fn F := hFE.1
  have eK : Fk E = Fk F := hFE.2.1
  have hn6 : Fn F ≤ 6 := hF.1
  have hk8 : Fk F ≤ 8 := hF.2.1
  have n0 : 0 < Fn F := by omega
  have k0 : 0 < Fk F := by omega
  have nE0 : 0 < Fn E := by omega
  have kE0 : 0 < Fk E := by omega
  have tq := tieD_TQ hD
  have hdy : Qdy R = Sdy S := hD.1.1
  have hR : okQ R := (TQ_dy tq).2.1
  obtain ⟨how, how4⟩ := TQ_ow tq
  have hS : okS F S := hD.2.2.2.2.2.2.2.2
  have hSd : Sdy S < 10000 := hS.2.1
  have hac : ac ≤ 8 := hU.2.1
  have hkp : kp ≤ 2 := hK.2.1
  rcases bad_or x (Fn F) (by omega) with hx | ⟨j, hj, rfl⟩
  · exact mk_op (ln' := ln) (L' := L) (F' := F) (S' := S) (U' := U) (K' := K) (O' := O) (E' := E) (R' := R) (W' := W) (V' := V) (ac' := ac) (kp' := kp) (L2' := L2) ⟨_, rfl⟩ (ct_X9_thinks_bad Z B A0 AD AE ln L F S U K O J x (hF) (hx)) ⟨Nat.le_of_ble_eq_true rfl, Nat.le_of_ble_eq_true rfl, rfl, rfl⟩ (fun v w h => ⟨h.1, J, hJ, h.2⟩) (ct_X10_thinks_bad Z C E R (begQ E) W V O ac kp ln L2 J2 x (hJ2) (hE) (nE0) (by rw [eN]; exact hx)) ⟨Nat.le_of_ble_eq_true rfl, Nat.le_of_ble_eq_true rfl, rfl, rfl⟩ (fun v w h => by obtain ⟨J9, h1, h2, h3⟩ := h; exact ⟨h1, J9, h2, h3⟩) (T)
  · exact mk_op (ln' := ln) (L' := L) (F' := F) (S' := S) (U' := U) (K' := K) (O' := O) (E' := E) (R' := R) (W' := W) (V' := V) (ac' := ac) (kp' := kp) (L2' := L2) ⟨_, rfl⟩ (ct_X9_thinks_ok Z B A0 AD AE ln L F S U K O J j (hF) (hj)) ⟨Nat.le_of_ble_eq_true rfl, Nat.le_of_ble_eq_true rfl, rfl, rfl⟩ (fun v w h => ⟨h.1, J, hJ, h.2⟩) (ct_X10_thinks_ok Z C E R (begQ E) W V O ac kp ln L2 J2 j (hJ2) (hE) (hR) (by omega)) ⟨Nat.le_of_ble_eq_true rfl, Nat.le_of_ble_eq_true rfl, rfl, rfl⟩ (fun v w h => by obtain ⟨J9, h1, h2, h3⟩ := h; exact ⟨h1.trans (congrArg (fun z => some (Value.int z)) (congrArg nI (by rw [eN]; exact lkm_cong (fun q hq => kn_tie hFE hF hD hj (by omega))))), J9, h2, h3⟩) (T)
set_option maxHeartbeats 4000000 in
theorem op_make (Z : Nat → ClassId) (x : Int32) : OPP Z yX9_make wsX9_make yX10_make wsX10_make [.int x] isI := by
  intro b9 b10 u9 u10 hI
  obtain ⟨B, A0, AD, AE, ln, L, F, S, U, K, O, J, C, E, R, W, V, ac, kp, L2, J2, rfl, rfl, hJ, hJ2, T, rfl, rfl⟩ := hI
  obtain ⟨⟨hln, hL, hL2, hLL⟩, ⟨hF, hE, hFE, hn2, hk1⟩, hD, hU, hK, hO⟩ := id T
  have eN : Fn E = Fn F := hFE.1
  have eK : Fk E = Fk F := hFE.2.1
  have hn6 : Fn F ≤ 6 := hF.1
  have hk8 : Fk F ≤ 8 := hF.2.1
  have n0 : 0 < Fn F := by omega
  have k0 : 0 < Fk F := by omega
  have nE0 : 0 < Fn E := by omega
  have kE0 : 0 < Fk E := by omega
  have tq := tieD_TQ hD
  have hdy : Qdy R = Sdy S := hD.1.1
  have hR : okQ R := (TQ_dy tq).2.1
  obtain ⟨how, how4⟩ := TQ_ow tq
  have hS : okS F S := hD.2.2.2.2.2.2.2.2
  have hSd : Sdy S < 10000 := hS.2.1
  have hac : ac ≤ 8 := hU.2.1
  have hkp : kp ≤ 2 := hK.2.1
  rcases bad_or x (Fn F) (by omega) with hx | ⟨j, hj, rfl⟩
  · exact mk_op (ln' := ln) (L' := L) (F' := F) (S' := S) (U' := U) (K' := K) (O' := O) (E' := E) (R' := R) (W' := W) (V' := V) (ac' := ac) (kp' := kp) (L2' := L2) ⟨_, rfl⟩ (ct_X9_make_bad Z B A0 AD AE ln L F S U K O J x (hF) (hx)) ⟨Nat.le_of_ble_eq_true rfl, Nat.le_of_ble_eq_true rfl, rfl, rfl⟩ (fun v w h => ⟨h.1, J, hJ, h.2⟩) (ct_X10_make_bad Z C E R (begQ E) W V O ac kp ln L2 J2 x (hJ2) (hE) (nE0) (by rw [eN]; exact hx)) ⟨Nat.le_of_ble_eq_true rfl, Nat.le_of_ble_eq_true rfl, rfl, rfl⟩ (fun v w h => by obtain ⟨J9, h1, h2, h3⟩ := h; exact ⟨h1, J9, h2, h3⟩) (T)
  · have hk : decide (aqN (Qbi R) (Fn F) ≠ 0) = Sak S := by
      have h := (TQ_dy tq).2.2
      cases hc : Sak S with
      | true => exact decide_eq_true (h.mpr hc)
      | false => exact decide_eq_false (fun z => by have := h.mp z; rw [hc] at this; cases this)
    exact mk_op (ln' := ln) (L' := L) (F' := F) (S' := S) (U' := U) (K' := K) (O' := O) (E' := E) (R' := R) (W' := W) (V' := V) (ac' := ac) (kp' := kp) (L2' := L2) ⟨_, rfl⟩ (ct_X9_make_ok Z B A0 AD AE ln L F S U K O J j (hF) (hj)) ⟨Nat.le_of_ble_eq_true rfl, Nat.le_of_ble_eq_true rfl, rfl, rfl⟩ (fun v w h => ⟨h.1, J, hJ, h.2⟩) (ct_X10_make_ok Z C E R (begQ E) W V O ac kp ln L2 J2 j (hJ2) (hE) (hR) (by omega)) ⟨Nat.le_of_ble_eq_true rfl, Nat.le_of_ble_eq_true rfl, rfl, rfl⟩ (fun v w h => by obtain ⟨J9, h1, h2, h3⟩ := h; exact ⟨h1.trans (congrArg (fun z => some (Value.int z)) (congrArg oI (by rw [eN, hk]; exact fewN_cong (fun i hi => TQ_ag tq hi) _))), J9, h2, h3⟩) (T)
set_option maxHeartbeats 4000000 in
theorem op_byTurns (Z : Nat → ClassId) (x : Int32) (y : Int32) : OPP Z yX9_byTurns wsX9_byTurns yX10_byTurns wsX10_byTurns [.int x, .int y] isI := by
  intro b9 b10 u9 u10 hI
  obtain ⟨B, A0, AD, AE, ln, L, F, S, U, K, O, J, C, E, R, W, V, ac, kp, L2, J2, rfl, rfl, hJ, hJ2, T, rfl, rfl⟩ := hI
  obtain ⟨⟨hln, hL, hL2, hLL⟩, ⟨hF, hE, hFE, hn2, hk1⟩, hD, hU, hK, hO⟩ := id T
  have eN : Fn E = Fn F := hFE.1
  have eK : Fk E = Fk F := hFE.2.1
  have hn6 : Fn F ≤ 6 := hF.1
  have hk8 : Fk F ≤ 8 := hF.2.1
  have n0 : 0 < Fn F := by omega
  have k0 : 0 < Fk F := by omega
  have nE0 : 0 < Fn E := by omega
  have kE0 : 0 < Fk E := by omega
  have tq := tieD_TQ hD
  have hdy : Qdy R = Sdy S := hD.1.1
  have hR : okQ R := (TQ_dy tq).2.1
  obtain ⟨how, how4⟩ := TQ_ow tq
  have hS : okS F S := hD.2.2.2.2.2.2.2.2
  have hSd : Sdy S < 10000 := hS.2.1
  have hac : ac ≤ 8 := hU.2.1
  have hkp : kp ≤ 2 := hK.2.1
  rcases inB_or x (a := 1) (b := 6) (by decide) (by decide) with hx | ⟨nd, hd1, hd2, rfl⟩
  · exact mk_op (ln' := ln) (L' := L) (F' := F) (S' := S) (U' := U) (K' := K) (O' := O) (E' := E) (R' := R) (W' := W) (V' := V) (ac' := ac) (kp' := kp) (L2' := L2) ⟨_, rfl⟩ (ct_X9_byTurns_bad Z B A0 AD AE ln L F S U K O J x y ((inB_f1 hx).elim Or.inl (fun z => Or.inr (Or.inl z)))) ⟨Nat.le_of_ble_eq_true rfl, Nat.le_of_ble_eq_true rfl, rfl, rfl⟩ (fun v w h => ⟨h.1, J, hJ, h.2⟩) (ct_X10_byTurns_bad Z C E R (begQ E) W V O ac kp ln L2 J2 x y (hJ2) (hx)) ⟨Nat.le_of_ble_eq_true rfl, Nat.le_of_ble_eq_true rfl, rfl, rfl⟩ (fun v w h => by obtain ⟨J9, h1, h2, h3⟩ := h; exact ⟨h1, J9, h2, h3⟩) (T)
  · rcases inB_or y (a := 0) (b := 1) (by decide) (by decide) with hy | ⟨q, -, hq, rfl⟩
    · exact mk_op (ln' := ln) (L' := L) (F' := F) (S' := S) (U' := U) (K' := K) (O' := O) (E' := E) (R' := R) (W' := W) (V' := V) (ac' := ac) (kp' := kp) (L2' := L2) ⟨_, rfl⟩ (ct_X9_byTurns_bad Z B A0 AD AE ln L F S U K O J (nI nd) y (Or.inr (Or.inr ((inB_f1 hy).imp id (fun z => Int32.not_le.mpr z))))) ⟨Nat.le_of_ble_eq_true rfl, Nat.le_of_ble_eq_true rfl, rfl, rfl⟩ (fun v w h => ⟨h.1, J, hJ, h.2⟩) (ct_X10_byTurns_out Z C E R (begQ E) W V O ac kp ln L2 J2 nd y (hJ2) (⟨hd1, hd2⟩) (hy)) ⟨Nat.le_of_ble_eq_true rfl, Nat.le_of_ble_eq_true rfl, rfl, rfl⟩ (fun v w h => by obtain ⟨J9, h1, h2, h3⟩ := h; exact ⟨h1, J9, h2, h3⟩) (T)
    · obtain ⟨t1, t2⟩ := turns_tie (nd := nd) (g := Jen J) (g2 := Kwz J2) tq hn6 n0 hd1
      rcases (show q = 0 ∨ q = 1 by omega) with rfl | rfl
      · exact mk_op (ln' := ln) (L' := L) (F' := F) (S' := S) (U' := U) (K' := K) (O' := O) (E' := E) (R' := R) (W' := W) (V' := V) (ac' := ac) (kp' := kp) (L2' := L2) ⟨_, rfl⟩ (ct_X9_byTurns_w0 Z B A0 AD AE ln L F S U K O J nd (hF) (hJ) (n0) (⟨hd1, hd2⟩)) ⟨Nat.le_of_ble_eq_true rfl, Nat.le_of_ble_eq_true rfl, rfl, rfl⟩ (fun v w h => by obtain ⟨J9, h1, h2, h3⟩ := h; exact ⟨h1, J9, h2, h3⟩) (ct_X10_byTurns_w0 Z C E R (begQ E) W V O ac kp ln L2 J2 nd (hJ2) (hE) (hR) (nE0) (⟨hd1, hd2⟩)) ⟨Nat.le_of_ble_eq_true rfl, Nat.le_of_ble_eq_true rfl, rfl, rfl⟩ (fun v w h => by obtain ⟨J9, h1, h2, h3⟩ := h; exact ⟨h1.trans (congrArg (fun z => some (Value.int z)) (by rw [eN]; exact t1)), J9, h2, h3⟩) (T)
      · exact mk_op (ln' := ln) (L' := L) (F' := F) (S' := S) (U' := U) (K' := K) (O' := O) (E' := E) (R' := R) (W' := W) (V' := V) (ac' := ac) (kp' := kp) (L2' := L2) ⟨_, rfl⟩ (ct_X9_byTurns_w1 Z B A0 AD AE ln L F S U K O J nd (hF) (hJ) (n0) (⟨hd1, hd2⟩)) ⟨Nat.le_of_ble_eq_true rfl, Nat.le_of_ble_eq_true rfl, rfl, rfl⟩ (fun v w h => by obtain ⟨J9, h1, h2, h3⟩ := h; exact ⟨h1, J9, h2, h3⟩) (ct_X10_byTurns_w1 Z C E R (begQ E) W V O ac kp ln L2 J2 nd (hJ2) (hE) (hR) (nE0) (⟨hd1, hd2⟩)) ⟨Nat.le_of_ble_eq_true rfl, Nat.le_of_ble_eq_true rfl, rfl, rfl⟩ (fun v w h => by obtain ⟨J9, h1, h2, h3⟩ := h; exact ⟨h1.trans (congrArg (fun z => some (Value.int z)) (by rw [eN]; exact congrArg bI t2.symm)), J9, h2, h3⟩) (T)
set_option maxHeartbeats 4000000 in
theorem op_took (Z : Nat → ClassId) (x : Int32) (y : Int32) : OPP Z yX9_took wsX9_took yX10_took wsX10_took [.int x, .int y] isI := by
  intro b9 b10 u9 u10 hI
  obtain ⟨B, A0, AD, AE, ln, L, F, S, U, K, O, J, C, E, R, W, V, ac, kp, L2, J2, rfl, rfl, hJ, hJ2, T, rfl, rfl⟩ := hI
  obtain ⟨⟨hln, hL, hL2, hLL⟩, ⟨hF, hE, hFE, hn2, hk1⟩, hD, hU, hK, hO⟩ := id T
  have eN : Fn E = Fn F := hFE.1
  have eK : Fk E = Fk F := hFE.2.1
  have hn6 : Fn F ≤ 6 := hF.1
  have hk8 : Fk F ≤ 8 := hF.2.1
  have n0 : 0 < Fn F := by omega
  have k0 : 0 < Fk F := by omega
  have nE0 : 0 < Fn E := by omega
  have kE0 : 0 < Fk E := by omega
  have tq := tieD_TQ hD
  have hdy : Qdy R = Sdy S := hD.1.1
  have hR : okQ R := (TQ_dy tq).2.1
  obtain ⟨how, how4⟩ := TQ_ow tq
  have hS : okS F S := hD.2.2.2.2.2.2.2.2
  have hSd : Sdy S < 10000 := hS.2.1
  have hac : ac ≤ 8 := hU.2.1
  have hkp : kp ≤ 2 := hK.2.1
  rcases inB_or x (a := 1) (b := 10) (by decide) (by decide) with hx | ⟨t, ht1, ht2, rfl⟩
  · exact mk_op (ln' := ln) (L' := L) (F' := F) (S' := S) (U' := U) (K' := K) (O' := O) (E' := E) (R' := R) (W' := W) (V' := V) (ac' := ac) (kp' := kp) (L2' := L2) ⟨_, rfl⟩ (ct_X9_took_bad Z B A0 AD AE ln L F S U K O J x y ((inB_f1 hx).elim Or.inl (fun z => Or.inr (Or.inl z)))) ⟨Nat.le_of_ble_eq_true rfl, Nat.le_of_ble_eq_true rfl, rfl, rfl⟩ (fun v w h => ⟨h.1, J, hJ, h.2⟩) (ct_X10_took_bad Z C E R (begQ E) W V O ac kp ln L2 J2 x y (hJ2) (hx)) ⟨Nat.le_of_ble_eq_true rfl, Nat.le_of_ble_eq_true rfl, rfl, rfl⟩ (fun v w h => by obtain ⟨J9, h1, h2, h3⟩ := h; exact ⟨h1, J9, h2, h3⟩) (T)
  · rcases Nat.lt_or_ge (Sdy S) t with htd | htd
    · exact mk_op (ln' := ln) (L' := L) (F' := F) (S' := S) (U' := U) (K' := K) (O' := O) (E' := E) (R' := R) (W' := W) (V' := V) (ac' := ac) (kp' := kp) (L2' := L2) ⟨_, rfl⟩ (ct_X9_took_bad Z B A0 AD AE ln L F S U K O J (nI t) y (Or.inr (Or.inr ((nI_ltI (by omega) (by omega)).mpr htd)))) ⟨Nat.le_of_ble_eq_true rfl, Nat.le_of_ble_eq_true rfl, rfl, rfl⟩ (fun v w h => ⟨h.1, J, hJ, h.2⟩) (ct_X10_took_late Z C E R (begQ E) W V O ac kp ln L2 J2 t y (hJ2) (by omega) (⟨ht1, ht2⟩) (by omega)) ⟨Nat.le_of_ble_eq_true rfl, Nat.le_of_ble_eq_true rfl, rfl, rfl⟩ (fun v w h => by obtain ⟨J9, h1, h2, h3⟩ := h; exact ⟨h1, J9, h2, h3⟩) (T)
    · rcases bad_or y (Fn F) (by omega) with hy | ⟨j, hj, rfl⟩
      · exact mk_op (ln' := ln) (L' := L) (F' := F) (S' := S) (U' := U) (K' := K) (O' := O) (E' := E) (R' := R) (W' := W) (V' := V) (ac' := ac) (kp' := kp) (L2' := L2) ⟨_, rfl⟩ (ct_X9_took_bad2 Z B A0 AD AE ln L F S U K O J t y (hF) (⟨ht1, ht2, htd⟩) (by omega) (hy)) ⟨Nat.le_of_ble_eq_true rfl, Nat.le_of_ble_eq_true rfl, rfl, rfl⟩ (fun v w h => ⟨h.1, J, hJ, h.2⟩) (ct_X10_took_bad2 Z C E R (begQ E) W V O ac kp ln L2 J2 t y (hJ2) (hE) (nE0) (by omega) (⟨ht1, ht2⟩) (by omega) (by rw [eN]; exact hy)) ⟨Nat.le_of_ble_eq_true rfl, Nat.le_of_ble_eq_true rfl, rfl, rfl⟩ (fun v w h => by obtain ⟨J9, h1, h2, h3⟩ := h; exact ⟨h1, J9, h2, h3⟩) (T)
      · rcases Nat.lt_or_ge (Osz O) 6 with h6 | h6
        · exact mk_op (ln' := ln) (L' := L) (F' := F) (S' := S) (U' := U) (K' := K) (O' := (telO O t j)) (E' := E) (R' := R) (W' := W) (V' := V) (ac' := ac) (kp' := kp) (L2' := L2) ⟨_, rfl⟩ (ct_X9_took_ok Z B A0 AD AE ln L F S U K O J t j (hF) (⟨ht1, ht2, htd⟩) (by omega) (hj) (h6)) ⟨Nat.le_of_ble_eq_true rfl, Nat.le_of_ble_eq_true rfl, rfl, rfl⟩ (fun v w h => ⟨h.1, J, hJ, h.2⟩) (ct_X10_took_ok Z C E R (begQ E) W V O ac kp ln L2 J2 t j (hJ2) (hE) (by omega) (⟨ht1, ht2⟩) (by omega) (by omega) (h6)) ⟨Nat.le_of_ble_eq_true rfl, Nat.le_of_ble_eq_true rfl, rfl, rfl⟩ (fun v w h => by obtain ⟨J9, h1, h2, h3⟩ := h; exact ⟨h1, J9, h2, h3⟩) (⟨T.1, T.2.1, hD, hU, hK, ⟨by show Osz O + 1 ≤ 6; omega, fun k => lt_updN hO.2.1 (by omega) k, fun k => lt_updN hO.2.2 (by omega) k⟩⟩)
        · exact mk_op (ln' := ln) (L' := L) (F' := F) (S' := S) (U' := U) (K' := K) (O' := O) (E' := E) (R' := R) (W' := W) (V' := V) (ac' := ac) (kp' := kp) (L2' := L2) ⟨_, rfl⟩ (ct_X9_took_full Z B A0 AD AE ln L F S U K O J t j (hF) (⟨ht1, ht2, htd⟩) (by omega) (hj) (by have := hO.1; omega)) ⟨Nat.le_of_ble_eq_true rfl, Nat.le_of_ble_eq_true rfl, rfl, rfl⟩ (fun v w h => ⟨h.1, J, hJ, h.2⟩) (ct_X10_took_full Z C E R (begQ E) W V O ac kp ln L2 J2 t j (hJ2) (hE) (by omega) (⟨ht1, ht2⟩) (by omega) (by omega) (by have := hO.1; omega)) ⟨Nat.le_of_ble_eq_true rfl, Nat.le_of_ble_eq_true rfl, rfl, rfl⟩ (fun v w h => by obtain ⟨J9, h1, h2, h3⟩ := h; exact ⟨h1, J9, h2, h3⟩) (T)
set_option maxHeartbeats 4000000 in
theorem op_forget (Z : Nat → ClassId)  : OPP Z yX9_forget wsX9_forget yX10_forget wsX10_forget [] isI := by
  intro b9 b10 u9 u10 hI
  obtain ⟨B, A0, AD, AE, ln, L, F, S, U, K, O, J, C, E, R, W, V, ac, kp, L2, J2, rfl, rfl, hJ, hJ2, T, rfl, rfl⟩ := hI
  obtain ⟨⟨hln, hL, hL2, hLL⟩, ⟨hF, hE, hFE, hn2, hk1⟩, hD, hU, hK, hO⟩ := id T
  have eN : Fn E = Fn F := hFE.1
  have eK : Fk E = Fk F := hFE.2.1
  have hn6 : Fn F ≤ 6 := hF.1
  have hk8 : Fk F ≤ 8 := hF.2.1
  have n0 : 0 < Fn F := by omega
  have k0 : 0 < Fk F := by omega
  have nE0 : 0 < Fn E := by omega
  have kE0 : 0 < Fk E := by omega
  have tq := tieD_TQ hD
  have hdy : Qdy R = Sdy S := hD.1.1
  have hR : okQ R := (TQ_dy tq).2.1
  obtain ⟨how, how4⟩ := TQ_ow tq
  have hS : okS F S := hD.2.2.2.2.2.2.2.2
  have hSd : Sdy S < 10000 := hS.2.1
  have hac : ac ≤ 8 := hU.2.1
  have hkp : kp ≤ 2 := hK.2.1
  exact mk_op (ln' := ln) (L' := L) (F' := F) (S' := S) (U' := U) (K' := K) (O' := (clrO O)) (E' := E) (R' := R) (W' := W) (V' := V) (ac' := ac) (kp' := kp) (L2' := L2) ⟨_, rfl⟩ (ct_X9_forget Z B A0 AD AE ln L F S U K O J  ) ⟨Nat.le_of_ble_eq_true rfl, Nat.le_of_ble_eq_true rfl, rfl, rfl⟩ (fun v w h => ⟨h.1, J, hJ, h.2⟩) (ct_X10_forget Z C E R (begQ E) W V O ac kp ln L2 J2  (hJ2)) ⟨Nat.le_of_ble_eq_true rfl, Nat.le_of_ble_eq_true rfl, rfl, rfl⟩ (fun v w h => by obtain ⟨J9, h1, h2, h3⟩ := h; exact ⟨h1, J9, h2, h3⟩) (⟨T.1, T.2.1, hD, hU, hK, ⟨Nat.zero_le _, hO.2.1, hO.2.2⟩⟩)
set_option maxHeartbeats 4000000 in
theorem op_deeds (Z : Nat → ClassId) (y : Int32) : OPP Z yX9_deeds wsX9_deeds yX10_deeds wsX10_deeds [.int y] isI := by
  intro b9 b10 u9 u10 hI
  obtain ⟨B, A0, AD, AE, ln, L, F, S, U, K, O, J, C, E, R, W, V, ac, kp, L2, J2, rfl, rfl, hJ, hJ2, T, rfl, rfl⟩ := hI
  obtain ⟨⟨hln, hL, hL2, hLL⟩, ⟨hF, hE, hFE, hn2, hk1⟩, hD, hU, hK, hO⟩ := id T
  have eN : Fn E = Fn F := hFE.1
  have eK : Fk E = Fk F := hFE.2.1
  have hn6 : Fn F ≤ 6 := hF.1
  have hk8 : Fk F ≤ 8 := hF.2.1
  have n0 : 0 < Fn F := by omega
  have k0 : 0 < Fk F := by omega
  have nE0 : 0 < Fn E := by omega
  have kE0 : 0 < Fk E := by omega
  have tq := tieD_TQ hD
  have hdy : Qdy R = Sdy S := hD.1.1
  have hR : okQ R := (TQ_dy tq).2.1
  obtain ⟨how, how4⟩ := TQ_ow tq
  have hS : okS F S := hD.2.2.2.2.2.2.2.2
  have hSd : Sdy S < 10000 := hS.2.1
  have hac : ac ≤ 8 := hU.2.1
  have hkp : kp ≤ 2 := hK.2.1
  rcases inB_or y (a := 0) (b := 1) (by decide) (by decide) with hy | ⟨q, -, hq, rfl⟩
  · exact mk_op (ln' := ln) (L' := L) (F' := F) (S' := S) (U' := U) (K' := K) (O' := O) (E' := E) (R' := R) (W' := W) (V' := V) (ac' := ac) (kp' := kp) (L2' := L2) ⟨_, rfl⟩ (ct_X9_deeds_out Z B A0 AD AE ln L F S U K O J y (⟨fun e => by rw [show y = nI 0 from Int32.toInt_inj.mp (by rw [e]; rfl)] at hy; exact absurd hy (by decide), fun e => by rw [show y = nI 1 from Int32.toInt_inj.mp (by rw [e]; rfl)] at hy; exact absurd hy (by decide)⟩)) ⟨Nat.le_of_ble_eq_true rfl, Nat.le_of_ble_eq_true rfl, rfl, rfl⟩ (fun v w h => ⟨h.1, J, hJ, h.2⟩) (ct_X10_deeds_bad Z C E R (begQ E) W V O ac kp ln L2 J2 y (hJ2) (hy)) ⟨Nat.le_of_ble_eq_true rfl, Nat.le_of_ble_eq_true rfl, rfl, rfl⟩ (fun v w h => by obtain ⟨J9, h1, h2, h3⟩ := h; exact ⟨h1, J9, h2, h3⟩) (T)
  · obtain ⟨c1, c2⟩ := cd_tie (p := fun bd_ => fitR E R (begQ E) O bd_) (q := (fun bd => ftB (fun s j => askB (Fkd F j) (Ftp F s) (Fqu F s) bd (Fh F)) (Ssn S) (Ssp S) (Ssy S) (Fn F) (Fag F) (Otn O) (Otw O) (Osz O))) (fun j hj => fit_tie hFE hF n0 (tieD_said hD hF) hO.2.2 hj)
    rcases (show q = 0 ∨ q = 1 by omega) with rfl | rfl
    · obtain ⟨c9, hc9⟩ : ∃ c, c = cntB (fun bd => ftB (fun s j => askB (Fkd F j) (Ftp F s) (Fqu F s) bd (Fh F)) (Ssn S) (Ssp S) (Ssy S) (Fn F) (Fag F) (Otn O) (Otw O) (Osz O)) 64 := ⟨_, rfl⟩
      exact mk_op (ln' := ln) (L' := L) (F' := F) (S' := S) (U' := U) (K' := K) (O' := O) (E' := E) (R' := R) (W' := W) (V' := V) (ac' := ac) (kp' := kp) (L2' := L2) ⟨_, rfl⟩ (ct_X9_deeds_w0 Z B A0 AD AE ln L F S U K O J c9 (hF) (hS) (hJ) (⟨hO.1, hO.2.1⟩) (hc9)) ⟨Nat.le_of_ble_eq_true rfl, Nat.le_of_ble_eq_true rfl, rfl, rfl⟩ (fun v w h => by obtain ⟨J9, h1, h2, h3⟩ := h; exact ⟨h1, J9, h2, h3⟩) (ct_X10_deeds_w0 Z C E R (begQ E) W V O ac kp ln L2 J2  (hJ2) (hE) (okQ_beg hE _) (hO.1) (hO.2.1) (tieD_okW hD hF hFE)) ⟨Nat.le_of_ble_eq_true rfl, Nat.le_of_ble_eq_true rfl, rfl, rfl⟩ (fun v w h => by obtain ⟨J9, h1, h2, h3⟩ := h; exact ⟨h1.trans (congrArg (fun z => some (Value.int z)) (congrArg nI (c1.trans hc9.symm))), J9, h2, h3⟩) (T)
    · obtain ⟨c9, hc9⟩ : ∃ c, c = loB (fun bd => ftB (fun s j => askB (Fkd F j) (Ftp F s) (Fqu F s) bd (Fh F)) (Ssn S) (Ssp S) (Ssy S) (Fn F) (Fag F) (Otn O) (Otw O) (Osz O)) 64 := ⟨_, rfl⟩
      exact mk_op (ln' := ln) (L' := L) (F' := F) (S' := S) (U' := U) (K' := K) (O' := O) (E' := E) (R' := R) (W' := W) (V' := V) (ac' := ac) (kp' := kp) (L2' := L2) ⟨_, rfl⟩ (ct_X9_deeds_w1 Z B A0 AD AE ln L F S U K O J c9 (hF) (hS) (hJ) (⟨hO.1, hO.2.1⟩) (hc9)) ⟨Nat.le_of_ble_eq_true rfl, Nat.le_of_ble_eq_true rfl, rfl, rfl⟩ (fun v w h => by obtain ⟨J9, h1, h2, h3⟩ := h; exact ⟨h1, J9, h2, h3⟩) (ct_X10_deeds_w1 Z C E R (begQ E) W V O ac kp ln L2 J2  (hJ2) (hE) (okQ_beg hE _) (hO.1) (hO.2.1) (tieD_okW hD hF hFE)) ⟨Nat.le_of_ble_eq_true rfl, Nat.le_of_ble_eq_true rfl, rfl, rfl⟩ (fun v w h => by obtain ⟨J9, h1, h2, h3⟩ := h; exact ⟨h1.trans (congrArg (fun z => some (Value.int z)) (congrArg oI (c2.trans hc9.symm))), J9, h2, h3⟩) (T)
