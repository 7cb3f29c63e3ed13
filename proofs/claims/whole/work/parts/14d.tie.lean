
/-- texts that are one, as far as they go -/
theorem ltr_tie {L L2 : Nat → Nat} {ln : Nat} (h : ∀ p, p < ln → L p = L2 p) : ltr L ln = ltr L2 ln := by
  funext p; unfold ltr
  by_cases c : p < ln
  · rw [if_pos c, if_pos c, h p c]
  · rw [if_neg c, if_neg c]
theorem figN_c {L L2 : Nat → Nat} {ln : Nat} (h : ltr L ln = ltr L2 ln) : figN L ln = figN L2 ln := by
  funext p; unfold figN; rw [h]
theorem numN_c {L L2 : Nat → Nat} {ln : Nat} (h : ltr L ln = ltr L2 ln) : numN L ln = numN L2 ln := by
  funext p; unfold numN; rw [figN_c h]
theorem pnN_c {L L2 : Nat → Nat} {ln : Nat} (h : ltr L ln = ltr L2 ln) {many p0 : Nat} : ∀ k, pnN L ln many p0 k = pnN L2 ln many p0 k
  | 0 => rfl
  | k + 1 => by rw [pnN, pnN, pnN_c h k, numN_c h, h]
theorem itN_c {L L2 : Nat → Nat} {ln : Nat} (h : ltr L ln = ltr L2 ln) : itN L ln = itN L2 ln := by
  funext p F; unfold itN; rw [pnN_c h, h]
theorem prS_c {L L2 : Nat → Nat} {ln : Nat} (h : ltr L ln = ltr L2 ln) {F : FS} : ∀ m, prS L ln F m = prS L2 ln F m
  | 0 => rfl
  | m + 1 => by rw [prS, prS, prS_c h m, itN_c h]
theorem rdF_c {L L2 : Nat → Nat} {ln : Nat} (h : ltr L ln = ltr L2 ln) {F : FS} : rdF L ln F = rdF L2 ln F := by unfold rdF; rw [prS_c h]
theorem rdV_c {L L2 : Nat → Nat} {ln : Nat} (h : ltr L ln = ltr L2 ln) {F : FS} : rdV L ln F = rdV L2 ln F := by unfold rdV; rw [prS_c h]
theorem upN_eq {g h : Nat → Nat} {n v : Nat} (e : ∀ j, j < n → h j = g j) {j : Nat} (hj : j < n + 1) : updN h n v j = updN g n v j := by
  unfold updN
  by_cases c : j = n
  · rw [if_pos c, if_pos c]
  · rw [if_neg c, if_neg c]; exact e j (by omega)
theorem upB_eq {g h : Nat → Bool} {n : Nat} {v : Bool} (e : ∀ j, j < n → h j = g j) {j : Nat} (hj : j < n + 1) : updB h n v j = updB g n v j := by
  unfold updB
  by_cases c : j = n
  · rw [if_pos c, if_pos c]
  · rw [if_neg c, if_neg c]; exact e j (by omega)
theorem addF_tie {F E : FS} (h : famEq F E) (c : Nat) (g : Nat → Nat) : (addF F c g = none ∧ addF E c g = none) ∨ ∃ F2 E2, addF F c g = some F2 ∧ addF E c g = some E2 ∧ famEq F2 E2 := by
  obtain ⟨h1, h2, h3, h4, h5, h6⟩ := h
  unfold addF
  rw [h1, h2]
  by_cases c1 : c = 114
  · rw [if_pos c1, if_pos c1]
    by_cases d : Fn F < 6 ∧ g 0 ≤ 4 ∧ g 1 ≤ 99 ∧ g 2 ≤ 9
    · rw [if_pos d, if_pos d]
      refine Or.inr ⟨_, _, rfl, rfl, ?_, h2, h3, h4, ?_, h6⟩
      · show Fn E + 1 = Fn F + 1; rw [h1]
      · intro j hj
        have hj : j < Fn F + 1 := hj
        show updN (Fkd E) (Fn E) (g 0) j = updN (Fkd F) (Fn F) (g 0) j ∧ updN (Fag E) (Fn E) (g 1) j = updN (Fag F) (Fn F) (g 1) j ∧ updN (Fml E) (Fn E) (g 2) j = updN (Fml F) (Fn F) (g 2) j
        rw [h1]
        exact ⟨upN_eq (fun j hj => (h5 j hj).1) hj, upN_eq (fun j hj => (h5 j hj).2.1) hj, upN_eq (fun j hj => (h5 j hj).2.2) hj⟩
    · rw [if_neg d, if_neg d]; exact Or.inl ⟨rfl, rfl⟩
  · rw [if_neg c1, if_neg c1]
    by_cases c2 : c = 115
    · rw [if_pos c2, if_pos c2]
      by_cases d : Fk F < 8 ∧ g 0 < 64 ∧ g 1 ≤ 1
      · rw [if_pos d, if_pos d]
        refine Or.inr ⟨_, _, rfl, rfl, h1, ?_, h3, h4, h5, ?_⟩
        · show Fk E + 1 = Fk F + 1; rw [h2]
        · intro j hj
          have hj : j < Fk F + 1 := hj
          show updN (Ftp E) (Fk E) (g 0) j = updN (Ftp F) (Fk F) (g 0) j ∧ updB (Fqu E) (Fk E) (decide (g 1 = 1)) j = updB (Fqu F) (Fk F) (decide (g 1 = 1)) j
          rw [h2]
          exact ⟨upN_eq (fun j hj => (h6 j hj).1) hj, upB_eq (fun j hj => (h6 j hj).2) hj⟩
      · rw [if_neg d, if_neg d]; exact Or.inl ⟨rfl, rfl⟩
    · rw [if_neg c2, if_neg c2]
      by_cases c3 : c = 100
      · rw [if_pos c3, if_pos c3]
        by_cases d : g 0 < 64
        · rw [if_pos d, if_pos d]
          exact Or.inr ⟨_, _, rfl, rfl, h1, h2, h3, rfl, h5, h6⟩
        · rw [if_neg d, if_neg d]; exact Or.inl ⟨rfl, rfl⟩
      · rw [if_neg c3, if_neg c3]
        by_cases c4 : c = 104
        · rw [if_pos c4, if_pos c4]
          by_cases d : 1 ≤ g 0 ∧ g 0 ≤ 6
          · rw [if_pos d, if_pos d]
            exact Or.inr ⟨_, _, rfl, rfl, h1, h2, rfl, h4, h5, h6⟩
          · rw [if_neg d, if_neg d]; exact Or.inl ⟨rfl, rfl⟩
        · rw [if_neg c4, if_neg c4]; exact Or.inl ⟨rfl, rfl⟩
theorem it_tie {F E : FS} (h : famEq F E) {L : Nat → Nat} {ln p : Nat} : (itN L ln p F = none ∧ itN L ln p E = none) ∨ ∃ F2 E2 q, itN L ln p F = some (F2, q) ∧ itN L ln p E = some (E2, q) ∧ famEq F2 E2 := by
  rcases pn_cases (L := L) (ln := ln) (many := nbN (ltr L ln p)) (p0 := p + 1) (nbN (ltr L ln p)) with h0 | ⟨q, g, h0⟩
  · exact Or.inl ⟨itN_0 h0, itN_0 h0⟩
  · rcases addF_tie h (ltr L ln p) g with ⟨h1, h2⟩ | ⟨F2, E2, h1, h2, h3⟩
    · exact Or.inl ⟨itN_1 h0 h1, itN_1 h0 h2⟩
    · exact Or.inr ⟨F2, E2, q, itN_2 h0 h1, itN_2 h0 h2, h3⟩
theorem prS_tie (F E : FS) (L : Nat → Nat) (ln : Nat) : ∀ m, (prS L ln E m).1 = (prS L ln F m).1 ∧ (prS L ln E m).2.2 = (prS L ln F m).2.2 ∧ famEq (prS L ln F m).2.1 (prS L ln E m).2.1
  | 0 => ⟨rfl, rfl, rfl, rfl, rfl, rfl, fun j h => absurd h (Nat.not_lt_zero j), fun j h => absurd h (Nat.not_lt_zero j)⟩
  | m + 1 => by
    obtain ⟨h1, h2, h3⟩ := prS_tie F E L ln m
    cases hc : (prS L ln F m).1 with
    | true =>
      rw [prS_at (Or.inl hc) (Nat.le_succ m), prS_at (Or.inl (h1.trans hc)) (Nat.le_succ m)]
      exact ⟨h1, h2, h3⟩
    | false =>
      by_cases hl : (prS L ln F m).2.2 < ln
      · rcases it_tie h3 (L := L) (ln := ln) (p := (prS L ln F m).2.2) with ⟨a, b⟩ | ⟨F2, E2, q, a, b, c⟩
        · rw [prS_n hc hl a, prS_n (h1.trans hc) (by rw [h2]; exact hl) (by rw [h2]; exact b)]
          exact ⟨rfl, h2, h3⟩
        · rw [prS_y hc hl a, prS_y (h1.trans hc) (by rw [h2]; exact hl) (by rw [h2]; exact b)]
          exact ⟨rfl, rfl, c⟩
      · rw [prS_at (Or.inr hl) (Nat.le_succ m), prS_at (Or.inr (by rw [h2]; exact hl)) (Nat.le_succ m)]
        exact ⟨h1, h2, h3⟩
theorem rd_tie (F E : FS) {L L2 : Nat → Nat} {ln : Nat} (h : ∀ p, p < ln → L p = L2 p) : rdV L2 ln E = rdV L ln F ∧ famEq (rdF L ln F) (rdF L2 ln E) := by
  rw [← rdV_c (ltr_tie h), ← rdF_c (ltr_tie h)]
  obtain ⟨h1, h2, h3⟩ := prS_tie F E L ln 200
  refine ⟨?_, h3⟩
  unfold rdV
  rw [h1, h2]
/-- the days, as both have them -/
def tieD (F : FS) (S : DS) (R : QS) : Prop :=
  tieT (Fn F) R (She S) (Sdy S) (Sak S) (Sow S) ∧ (∀ i, i < Fn F → Sf S i = She S (i * 10)) ∧ Qde R = Sde S ∧ Qse R = Sse S ∧ (∀ i, i < Fn F → Qti R i = Sti S i) ∧
  (∀ d, d < 10 → Qmn R d = Ssn S d ∧ ∀ m, m < Ssn S d → Qwh R (4 * d + m) = 8 * Ssp S (d * 4 + m) + Ssy S (d * 4 + m)) ∧ (Sdy S < 10 → Ssn S (Sdy S) = Sse S) ∧ (∀ d, Sdy S < d → d < 10 → Ssn S d = 0) ∧ okS F S
theorem tieD_TQ {F : FS} {S : DS} {R : QS} (h : tieD F S R) : TQ (Fn F) R (Sf S) (Sdy S) (Sak S) (Sow S) := ⟨She S, h.1, h.2.1⟩
theorem tieD_said {F : FS} {S : DS} {R : QS} (h : tieD F S R) (hF : okF F) : saidEq F (Ssn S) (Ssp S) (Ssy S) R := fun d hd => by
  obtain ⟨h1, h2⟩ := h.2.2.2.2.2.1 d hd
  obtain ⟨-, -, -, -, h3⟩ := h.2.2.2.2.2.2.2.2
  refine ⟨h1, fun m hm => ?_⟩
  obtain ⟨a, b⟩ := (h3 d hd).2 m hm
  have hk := hF.2.1
  refine ⟨a, b, ?_, ?_⟩
  · rw [h2 m hm]; omega
  · rw [h2 m hm]; omega
theorem tieD_okW {F E : FS} {S : DS} {R : QS} (h : tieD F S R) (hF : okF F) (hE : famEq F E) : okW E R := fun d hd => by
  obtain ⟨h1, h2⟩ := tieD_said h hF d hd
  obtain ⟨-, -, -, -, h3⟩ := h.2.2.2.2.2.2.2.2
  rw [h1, hE.1, hE.2.1]
  refine ⟨(h3 d hd).1, fun k hk => ?_⟩
  obtain ⟨a, b, c, e⟩ := h2 k hk
  have hn := hF.1
  have hk8 := hF.2.1
  exact ⟨by omega, by omega, by omega⟩
theorem tieD_setN {F : FS} {S : DS} {R : QS} (h : tieD F S R) : tieD F (setN S (Fn F)) R := by
  obtain ⟨h1, h2, h3, h4, h5, h6, h7, h8, h9, h10, h11, h12, h13⟩ := h
  exact ⟨h1, h2, h3, h4, h5, h6, h7, h8, rfl, h10, h11, h12, h13⟩
/-- only day, owner, deed, bits and older count -/
theorem tieT_cong {n : Nat} {Q Q2 : QS} {he : Nat → Int32} {dy : Nat} {ak : Bool} {ow : Int32} (h : tieT n Q he dy ak ow) (e1 : Qdy Q2 = Qdy Q) (e2 : Qow Q2 = Qow Q) (e3 : Qbi Q2 = Qbi Q) (e4 : Qol Q2 = Qol Q) (e5 : Qde Q2 < 64) : tieT n Q2 he dy ak ow := by
  obtain ⟨h1, h2, h3, h4, h5, h6⟩ := h
  refine ⟨e1.trans h1, e2.trans h2, h3, by rw [e3]; exact h4, fun i hi m hm => ?_, ⟨by rw [e3]; exact h6.1, e5⟩⟩
  rw [← h5 i hi m hm]
  unfold agQ bitP
  rw [e1, e3, e4]
theorem tieT_he {n : Nat} {Q : QS} {he he2 : Nat → Int32} {dy : Nat} {ak : Bool} {ow : Int32} (h : tieT n Q he dy ak ow) (e : ∀ i, i < n → ∀ m, m < 10 → he2 (i * 10 + m) = he (i * 10 + m)) : tieT n Q he2 dy ak ow := by
  obtain ⟨h1, h2, h3, h4, h5, h6⟩ := h
  exact ⟨h1, h2, h3, h4, fun i hi m hm => by rw [e i hi m hm]; exact h5 i hi m hm, h6⟩
theorem hr_acc {E : FS} {R : QS} {i s : Nat} : Qdy (hrQ E R i s) = Qdy (sayQ E R i s) ∧ Qow (hrQ E R i s) = Qow (sayQ E R i s) ∧ Qbi (hrQ E R i s) = Qbi (sayQ E R i s) ∧ Qol (hrQ E R i s) = Qol (sayQ E R i s) ∧ Qde (hrQ E R i s) = Qde (sayQ E R i s) ∧ Qti (hrQ E R i s) = Qti (sayQ E R i s) ∧ Qse (hrQ E R i s) = Qse R + 1 := by
  unfold hrQ
  by_cases c : Qdy R < 10
  · rw [if_pos c]; exact ⟨rfl, rfl, rfl, rfl, rfl, rfl, rfl⟩
  · rw [if_neg c]; exact ⟨rfl, rfl, rfl, rfl, rfl, rfl, rfl⟩
theorem hear_tie {F E : FS} {S : DS} {R : QS} {i s : Nat} (h : tieD F S R) (hF : okF F) (hE : famEq F E) (hi : i < Fn F) (hs : s < Fk F) (h4 : Sse S < 4) : tieD F (hearS F S i s) (hrQ E R i s) ∧ asR E R s i = askF F S s i := by
  obtain ⟨h1, h2, h3, hse, h5, h6, h7, h8, h9, h10, h11, h12, h13⟩ := h
  have ha : asR E R s i = askF F S s i := by rw [as_tie hE hs hi, h3]; rfl
  refine ⟨?_, ha⟩
  obtain ⟨a1, a2, a3, a4, a5, a6, a7⟩ := hr_acc (E := E) (R := R) (i := i) (s := s)
  have hdy : Qdy R = Sdy S := h1.1
  refine ⟨?_, ?_, ?_, ?_, ?_, ?_, ?_, ?_, ?_⟩
  · refine tieT_cong (Q := sayQ E R i s) ?_ a1 a2 a3 a4 (by rw [a5, sayQ_de]; exact h1.2.2.2.2.2.2)
    show tieT (Fn F) (sayQ E R i s) (if askF F S s i = true then upd (She S) (i * 10) (nI (Sdy S)) else She S) (Sdy S) (Sak S || askF F S s i) (Sow S)
    unfold sayQ
    rw [ha]
    cases hc : askF F S s i with
    | true =>
      rw [if_pos rfl, if_pos rfl, Bool.or_true]
      exact tieT_cong (Q := askQ R i) (tie_ask h1 hi) rfl rfl rfl rfl h1.2.2.2.2.2.2
    | false => rw [if_neg (by decide), if_neg (by decide), Bool.or_false]; exact h1
  · intro j hj
    show (if askF F S s i = true then upd (Sf S) i (nI (Sdy S)) else Sf S) j = (if askF F S s i = true then upd (She S) (i * 10) (nI (Sdy S)) else She S) (j * 10)
    cases hc : askF F S s i with
    | true =>
      rw [if_pos rfl, if_pos rfl]
      by_cases e : j = i
      · subst e; rw [upd_self, upd_self]
      · rw [upd_ne e, upd_ne (by omega)]; exact h2 j hj
    | false => rw [if_neg (by decide), if_neg (by decide)]; exact h2 j hj
  · rw [a5, sayQ_de]; exact h3
  · rw [a7, hse]; rfl
  · intro j hj
    rw [a6]
    show Qti (sayQ E R i s) j = (if askF F S s i = true then upd (Sti S) i (Sti S i + nI 1) else Sti S) j
    unfold sayQ
    rw [ha]
    cases hc : askF F S s i with
    | true =>
      rw [if_pos rfl, if_pos rfl]
      show upd (Qti R) i (Qti R i + nI 1) j = _
      by_cases e : j = i
      · subst e; rw [upd_self, upd_self, h5 j hj]
      · rw [upd_ne e, upd_ne e]; exact h5 j hj
    | false => rw [if_neg (by decide), if_neg (by decide)]; exact h5 j hj
  · intro d hd
    have hwh : ∀ x, Qwh (sayQ E R i s) x = Qwh R x := fun x => by unfold sayQ; split <;> rfl
    show Qmn (hrQ E R i s) d = lgN (Sdy S) (Sse S) (Ssn S) d ∧ ∀ m, m < lgN (Sdy S) (Sse S) (Ssn S) d → Qwh (hrQ E R i s) (4 * d + m) = 8 * lgU (Sdy S) (Sse S) i (Ssp S) (d * 4 + m) + lgU (Sdy S) (Sse S) s (Ssy S) (d * 4 + m)
    by_cases c : Sdy S < 10
    · have hm1 : Qmn R (Sdy S) = Sse S := by rw [(h6 _ c).1]; exact h7 c
      have e1 : hrQ E R i s = sQs (sQm (sQw (sayQ E R i s) (4 * Sdy S + Sse S) (8 * i + s)) (Sdy S) (Sse S + 1)) (Qse R + 1) := by
        unfold hrQ; rw [if_pos (by rw [hdy]; exact c), hdy, hm1]
      rw [e1]
      unfold lgN lgU
      rw [if_pos c, if_pos c, if_pos c]
      show updN (Qmn (sayQ E R i s)) (Sdy S) (Sse S + 1) d = updN (Ssn S) (Sdy S) (Sse S + 1) d ∧ ∀ m, m < updN (Ssn S) (Sdy S) (Sse S + 1) d → updN (Qwh (sayQ E R i s)) (4 * Sdy S + Sse S) (8 * i + s) (4 * d + m) = 8 * updN (Ssp S) (Sdy S * 4 + Sse S) i (d * 4 + m) + updN (Ssy S) (Sdy S * 4 + Sse S) s (d * 4 + m)
      rw [sayQ_mn]
      by_cases e : d = Sdy S
      · rw [e, updN_self, updN_self]
        refine ⟨rfl, fun m hm => ?_⟩
        by_cases e2 : m = Sse S
        · rw [e2, updN_self, updN_self, updN_self]
        · rw [updN_ne (by omega), updN_ne (by omega), updN_ne (by omega), hwh]
          exact (h6 _ c).2 m (by rw [h7 c]; omega)
      · rw [updN_ne e, updN_ne e]
        refine ⟨(h6 d hd).1, fun m hm => ?_⟩
        have hm4 := (h13 d hd).1
        rw [updN_ne (by omega), updN_ne (by omega), updN_ne (by omega), hwh]
        exact (h6 d hd).2 m hm
    · have e1 : hrQ E R i s = sQs (sayQ E R i s) (Qse R + 1) := by
        unfold hrQ; rw [if_neg (by rw [hdy]; exact c)]
      rw [e1]
      unfold lgN lgU
      rw [if_neg c, if_neg c, if_neg c]
      show Qmn (sayQ E R i s) d = Ssn S d ∧ ∀ m, m < Ssn S d → Qwh (sayQ E R i s) (4 * d + m) = _
      rw [sayQ_mn]
      exact ⟨(h6 d hd).1, fun m hm => by rw [hwh]; exact (h6 d hd).2 m hm⟩
  · intro c
    have c : Sdy S < 10 := c
    show lgN (Sdy S) (Sse S) (Ssn S) (Sdy S) = Sse S + 1
    unfold lgN; rw [if_pos c, updN_self]
  · intro d hd hd2
    show lgN (Sdy S) (Sse S) (Ssn S) d = 0
    unfold lgN
    split
    · rw [updN_ne (show d ≠ Sdy S by have : Sdy S < d := hd; omega)]; exact h8 d hd hd2
    · exact h8 d hd hd2
  · refine ⟨h9, h10, by show Sse S + 1 ≤ 4; omega, h12, fun d hd => ?_⟩
    show lgN (Sdy S) (Sse S) (Ssn S) d ≤ 4 ∧ ∀ m, m < lgN (Sdy S) (Sse S) (Ssn S) d → lgU (Sdy S) (Sse S) i (Ssp S) (d * 4 + m) < Fn F ∧ lgU (Sdy S) (Sse S) s (Ssy S) (d * 4 + m) < Fk F
    unfold lgN lgU
    by_cases c : Sdy S < 10
    · rw [if_pos c, if_pos c, if_pos c]
      by_cases e : d = Sdy S
      · rw [e, updN_self]
        refine ⟨by omega, fun m hm => ?_⟩
        by_cases e2 : m = Sse S
        · rw [e2, updN_self, updN_self]; exact ⟨hi, hs⟩
        · rw [updN_ne (by omega), updN_ne (by omega)]
          exact (h13 _ c).2 m (by rw [h7 c]; omega)
      · rw [updN_ne e]
        refine ⟨(h13 d hd).1, fun m hm => ?_⟩
        have hm4 := (h13 d hd).1
        rw [updN_ne (by omega), updN_ne (by omega)]
        exact (h13 d hd).2 m hm
    · rw [if_neg c, if_neg c, if_neg c]; exact h13 d hd
theorem noon_tie {F E : FS} {S : DS} {R : QS} (h : tieD F S R) (hF : okF F) (hE : famEq F E) (h0 : 0 < Fn F) (hd : Sdy S < 9999) : tieD F (noonS S (Fn F)) (nooQ (Fn E) R) := by
  obtain ⟨h1, h2, h3, hse, h5, h6, h7, h8, h9, h10, h11, h12, h13⟩ := h
  rw [hE.1]
  refine ⟨tie_noo h1 hF.1 h0 h2, ?_, h3, rfl, h5, h6, ?_, ?_, rfl, ?_, Nat.zero_le _, h12, h13⟩
  · intro i hi
    have hn := hF.1
    have := sh_at (he := She S) (i := i) (m := 0) (by omega) (by decide)
    rw [Nat.add_zero] at this
    show Sf S i = shF (She S) 6 0 (i * 10)
    rw [this]; exact h2 i hi
  · intro c
    have c : Sdy S + 1 < 10 := c
    show Ssn S (Sdy S + 1) = 0
    exact h8 _ (by omega) c
  · intro d a b
    have a : Sdy S + 1 < d := a
    exact h8 d (by omega) b
  · show Sdy S + 1 < 10000; omega
theorem mend_tie {F : FS} {S : DS} {R : QS} {v : Nat} (h : tieD F S R) (hv : v < 64) : tieD F (setDe S v) (sQe R v) := by
  obtain ⟨h1, h2, h3, hse, h5, h6, h7, h8, h9, h10, h11, h12, h13⟩ := h
  exact ⟨tieT_cong (Q := R) h1 rfl rfl rfl rfl hv, h2, rfl, hse, h5, h6, h7, h8, h9, h10, h11, hv, h13⟩
theorem begT {F E : FS} (hE : famEq F E) (hF : okF F) : tieT (Fn F) (begQ E) (fun x => -nI (Fag F (x / 10))) 0 false (-4) := by
  obtain ⟨he, h1, h2⟩ := beg_tie hE hF hF.2.2.2.2.2.2.1
  have h3 : tieT (Fn F) (begQ E) he 0 false (-4) := tieT_cong (Q := sQe (begQ E) (Fdd F)) h1 rfl rfl rfl rfl (by show Fdd E < 64; rw [hE.2.2.2.1]; exact hF.2.2.2.2.2.2.1)
  refine tieT_he h3 (fun i hi m hm => ?_)
  have a1 := h3.2.2.2.2.1 i hi m hm
  have hz : ∀ j, ¬ bt 0 j := fun j z => by rw [bt_iff, Nat.zero_testBit] at z; cases z
  rw [ag_no2 (Q := begQ E) (i := i) (m := m) (fun j _ _ => hz j)] at a1
  have a2 : nI 0 - (if i < Fn E then -(nI (Fag E i)) else 0) = nI 0 - he (i * 10 + m) := a1
  rw [Int32.sub_right_inj, if_pos (by rw [hE.1]; exact hi), (hE.2.2.2.2.1 i hi).2.1] at a2
  show -nI (Fag F ((i * 10 + m) / 10)) = he (i * 10 + m)
  rw [show (i * 10 + m) / 10 = i by omega, a2]
theorem begin_tie {F E : FS} {S : DS} (hE : famEq F E) (hF : okF F) : tieD F (begS F S) (begQ E) := by
  have hn := hF.1
  refine ⟨tieT_he (begT hE hF) (fun i hi m hm => ?_), ?_, hE.2.2.2.1, rfl, ?_, ?_, ?_, ?_, rfl, (show 0 < 10000 by decide), (show 0 ≤ 4 by decide), hF.2.2.2.2.2.2.1, ?_⟩
  · show hdF (Fag F) (Fn F) (She S) (6 * 10) (i * 10 + m) = -nI (Fag F ((i * 10 + m) / 10))
    unfold hdF fillF agN
    rw [if_pos (by omega)]
    show -nI (if (i * 10 + m) / 10 < Fn F then Fag F ((i * 10 + m) / 10) else 0) = _
    rw [show (i * 10 + m) / 10 = i by omega, if_pos hi]
  · intro i hi
    show fillF (fun j => -nI (Fag F j)) (Sf S) (Fn F) i = hdF (Fag F) (Fn F) (She S) (6 * 10) (i * 10)
    unfold hdF fillF agN
    rw [if_pos hi, if_pos (by omega)]
    show -nI (Fag F i) = -nI (if i * 10 / 10 < Fn F then Fag F (i * 10 / 10) else 0)
    rw [show i * 10 / 10 = i by omega, if_pos hi]
  · intro i hi
    show (0 : Int32) = fillF (fun _ => nI 0) (Sti S) 6 i
    unfold fillF; rw [if_pos (by omega)]; rfl
  · intro d hd
    have e : Ssn (begS F S) d = 0 := if_pos hd
    rw [e]
    exact ⟨rfl, fun m hm => absurd hm (Nat.not_lt_zero m)⟩
  · intro _
    show fillN 0 (Ssn S) 10 0 = 0
    rfl
  · intro d _ hd; exact if_pos hd
  · intro d hd
    have e : Ssn (begS F S) d = 0 := if_pos hd
    rw [e]
    exact ⟨Nat.zero_le _, fun m hm => absurd hm (Nat.not_lt_zero m)⟩
/-- days laid by, as both have them -/
def tieP (nr : Nat) (F : FS) (P : PS) (W : Nat → QS) (a : Nat) : Prop := Phd P = a ∧ a ≤ nr ∧ Ptop P < nr ∧ ∀ k, k < a → tieD F (Prw P ((Ptop P + nr - k) % nr)) (W (a - 1 - k))
theorem tN_mod {t nr : Nat} (h : t < nr) : tN t nr = (t + 1) % nr := by
  unfold tN; split
  · rw [Nat.mod_eq_of_lt (by assumption)]
  · rw [show t + 1 = nr by omega, Nat.mod_self]
theorem md_at {x nr : Nat} (h : x < nr) : (x + nr) % nr = x := by rw [Nat.add_mod_right, Nat.mod_eq_of_lt h]
theorem tieP_gen {nr : Nat} {F : FS} {P : PS} {W W2 : Nat → QS} {a a2 : Nat} {S : DS} {R : QS} (h : tieP nr F P W a) (hS : tieD F S R) (ha2 : min (a + 1) nr = a2) (hR : W2 (a2 - 1) = R) (hW : ∀ k, k + 1 < a2 → W2 (a2 - 1 - (k + 1)) = W (a - 1 - k)) : tieP nr F (pushP P S nr) W2 a2 := by
  obtain ⟨h1, h2, h3, h4⟩ := h
  have h0 : 0 < nr := by omega
  refine ⟨by show min (Phd P + 1) nr = a2; rw [h1]; exact ha2, by omega, tN_lt h0, fun k hk => ?_⟩
  show tieD F (va_up (Prw P) (tN (Ptop P) nr) S ((tN (Ptop P) nr + nr - k) % nr)) (W2 (a2 - 1 - k))
  cases k with
  | zero => rw [Nat.sub_zero, md_at (tN_lt h0), va_up_self, Nat.sub_zero, hR]; exact hS
  | succ k =>
    have hk2 : k < a := by omega
    have e : (tN (Ptop P) nr + nr - (k + 1)) % nr = (Ptop P + nr - k) % nr := by
      unfold tN
      split
      · rw [show Ptop P + 1 + nr - (k + 1) = Ptop P + nr - k by omega]
      · have h5 : Ptop P + 1 = nr := by omega
        rw [show Ptop P + nr - k = (0 + nr - (k + 1)) + nr by omega, Nat.add_mod_right]
    have hne : (Ptop P + nr - k) % nr ≠ tN (Ptop P) nr := by
      rw [tN_mod h3]
      intro z
      have h6 : (Ptop P + nr - k) % nr < nr := Nat.mod_lt _ h0
      rcases Nat.lt_or_ge (Ptop P + 1) nr with h7 | h7
      · rw [Nat.mod_eq_of_lt h7] at z
        rcases Nat.lt_or_ge (Ptop P + nr - k) nr with h8 | h8
        · rw [Nat.mod_eq_of_lt h8] at z; omega
        · rw [Nat.mod_eq_sub_mod h8, Nat.mod_eq_of_lt (by omega)] at z; omega
      · rw [show Ptop P + 1 = nr by omega, Nat.mod_self] at z
        rcases Nat.lt_or_ge (Ptop P + nr - k) nr with h8 | h8
        · rw [Nat.mod_eq_of_lt h8] at z; omega
        · rw [Nat.mod_eq_sub_mod h8, Nat.mod_eq_of_lt (by omega)] at z; omega
    rw [e, va_up_ne _ _ hne, hW k hk]
    exact h4 k hk2
theorem push8 {F : FS} {P : PS} {W : Nat → QS} {a : Nat} {S : DS} {R : QS} (h : tieP 8 F P W a) (hS : tieD F S R) : tieP 8 F (pushP P S 8) (remW W a R) (remA a) := by
  have ha := h.2.1
  by_cases c : a = 8
  · subst c
    refine tieP_gen h hS rfl ?_ (fun k hk => ?_)
    · show remW W 8 R 7 = R
      unfold remW; rw [if_pos rfl, va_up_self]
    · have hk : k + 1 < 8 := hk
      show remW W 8 R (8 - 1 - (k + 1)) = W (8 - 1 - k)
      unfold remW
      rw [if_pos rfl, va_up_ne _ _ (by omega)]
      show (if 8 - 1 - (k + 1) < 7 then W (8 - 1 - (k + 1) + 1) else W (8 - 1 - (k + 1))) = _
      rw [if_pos (by omega), show 8 - 1 - (k + 1) + 1 = 8 - 1 - k by omega]
  · have e : remA a = a + 1 := remA_f c
    have e2 : remW W a R = va_up W a R := if_neg c
    rw [e, e2]
    refine tieP_gen h hS (by omega) ?_ (fun k hk => ?_)
    · rw [Nat.add_sub_cancel, va_up_self]
    · rw [va_up_ne _ _ (by omega), show a + 1 - 1 - (k + 1) = a - 1 - k by omega]
theorem push2 {F : FS} {P : PS} {W : Nat → QS} {a : Nat} {S : DS} {R : QS} (h : tieP 2 F P W a) (hS : tieD F S R) (ha : a < 2) : tieP 2 F (pushP P S 2) (va_up W a R) (a + 1) := by
  refine tieP_gen h hS (by omega) ?_ (fun k hk => ?_)
  · rw [Nat.add_sub_cancel, va_up_self]
  · rw [va_up_ne _ _ (by omega), show a + 1 - 1 - (k + 1) = a - 1 - k by omega]
theorem pop_tie {nr : Nat} {F : FS} {P : PS} {W : Nat → QS} {a : Nat} (h : tieP nr F P W a) (h0 : 0 < a) : tieP nr F (popP P nr) W (a - 1) ∧ tieD F (topP P) (W (a - 1)) := by
  obtain ⟨h1, h2, h3, h4⟩ := h
  have hr : 0 < nr := by omega
  constructor
  · refine ⟨by show Phd P - 1 = a - 1; rw [h1], by omega, tP_lt h3, fun k hk => ?_⟩
    show tieD F (Prw P ((tP (Ptop P) nr + nr - k) % nr)) (W (a - 1 - 1 - k))
    have e : (tP (Ptop P) nr + nr - k) % nr = (Ptop P + nr - (k + 1)) % nr := by
      unfold tP
      split
      · next c => rw [c, show nr - 1 + nr - k = (0 + nr - (k + 1)) + nr by omega, Nat.add_mod_right]
      · rw [show Ptop P - 1 + nr - k = Ptop P + nr - (k + 1) by omega]
    rw [e, show a - 1 - 1 - k = a - 1 - (k + 1) by omega]
    exact h4 (k + 1) (by omega)
  · have := h4 0 h0
    rw [Nat.sub_zero, md_at h3, Nat.sub_zero] at this
    exact this
theorem clr_tie {nr : Nat} {F F2 : FS} {P : PS} {W W2 : Nat → QS} {a : Nat} (h : tieP nr F P W a) : tieP nr F2 (clrP P) W2 0 := ⟨rfl, Nat.zero_le _, h.2.2.1, fun k hk => absurd hk (Nat.not_lt_zero k)⟩

