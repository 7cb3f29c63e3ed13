
/-! PART 14: the class' state and the reference's, tied -/
theorem bit_iff {b k : Nat} : (b >>> k) &&& 1 = 1 ↔ b.testBit k = true := by
  rw [Nat.and_one_is_mod, Nat.shiftRight_eq_div_pow, Nat.testBit_eq_decide_div_mod_eq, decide_eq_true_eq]
def bt (b k : Nat) : Prop := (b >>> k) &&& 1 = 1
theorem bt_iff {b k : Nat} : bt b k ↔ b.testBit k = true := bit_iff
theorem bt_one {k : Nat} : Nat.testBit 1 k = decide (k = 0) := by
  rw [Nat.testBit_eq_decide_div_mod_eq]
  cases k with
  | zero => rfl
  | succ k =>
    have h : 1 / 2 ^ (k + 1) = 0 := Nat.div_eq_of_lt (Nat.one_lt_two_pow (Nat.succ_ne_zero k))
    rw [h]; rfl
theorem bt_ask0 {b : Nat} : bt (b ||| 1) 0 := by rw [bt_iff, Nat.testBit_or, bt_one]; simp
theorem bt_askS {b k : Nat} (h : 1 ≤ k) : bt (b ||| 1) k ↔ bt b k := by
  rw [bt_iff, bt_iff, Nat.testBit_or, bt_one, decide_eq_false (by omega), Bool.or_false]
theorem bt_noo0 {b : Nat} : ¬ bt ((b <<< 1) &&& 1023) 0 := by
  rw [bt_iff, Nat.testBit_and, Nat.testBit_shiftLeft]; simp
theorem bt_nooS {b k : Nat} (h : k + 1 < 10) : bt ((b <<< 1) &&& 1023) (k + 1) ↔ bt b k := by
  rw [bt_iff, bt_iff, Nat.testBit_and, Nat.testBit_shiftLeft, show (1023 : Nat) = 2 ^ 10 - 1 from rfl, Nat.testBit_two_pow_sub_one, decide_eq_true h, Bool.and_true, decide_eq_true (show k + 1 ≥ 1 by omega), Bool.true_and, Nat.add_sub_cancel]
theorem bt_car {b : Nat} : ((b <<< 1) >>> 10) &&& 1 = 1 ↔ bt b 9 := by
  rw [bit_iff, Nat.testBit_shiftLeft, bt_iff]; simp
theorem least (p : Nat → Prop) : ∀ n, (∃ k, k < n ∧ p k ∧ ∀ j, j < k → ¬ p j) ∨ ∀ j, j < n → ¬ p j
  | 0 => Or.inr (fun j h => absurd h (Nat.not_lt_zero j))
  | n + 1 => by
    rcases least p n with ⟨k, h1, h2, h3⟩ | h
    · exact Or.inl ⟨k, by omega, h2, h3⟩
    · rcases Classical.em (p n) with h2 | h2
      · exact Or.inl ⟨n, Nat.lt_succ_self n, h2, h⟩
      · exact Or.inr (fun j hj => by
          rcases Nat.lt_succ_iff_lt_or_eq.mp hj with h3 | h3
          · exact h j h3
          · rw [h3]; exact h2)
theorem ag_at2 {Q : QS} {i m k : Nat} (hk : k < 10) (hm : m ≤ k) (hb : bt (Qbi Q i) k) (hn : ∀ j, m ≤ j → j < k → ¬ bt (Qbi Q i) j) : agQ Q i m = nI k :=
  agQ_at hk hm (fun j hj => decide_eq_false (fun z => hn j z.1 hj z.2)) hb
theorem ag_no2 {Q : QS} {i m : Nat} (hn : ∀ j, m ≤ j → j < 10 → ¬ bt (Qbi Q i) j) : agQ Q i m = nI (Qdy Q) - Qol Q i :=
  agQ_no (fun j hj => decide_eq_false (fun z => hn j z.1 hj z.2))
theorem ag_cases (Q : QS) (i m : Nat) : (∃ k, k < 10 ∧ m ≤ k ∧ bt (Qbi Q i) k ∧ (∀ j, m ≤ j → j < k → ¬ bt (Qbi Q i) j) ∧ agQ Q i m = nI k) ∨ ((∀ j, m ≤ j → j < 10 → ¬ bt (Qbi Q i) j) ∧ agQ Q i m = nI (Qdy Q) - Qol Q i) := by
  rcases least (fun k => m ≤ k ∧ bt (Qbi Q i) k) 10 with ⟨k, h1, h2, h3⟩ | h
  · have hn : ∀ j, m ≤ j → j < k → ¬ bt (Qbi Q i) j := fun j a b c => h3 j b ⟨a, c⟩
    exact Or.inl ⟨k, h1, h2.1, h2.2, hn, ag_at2 h1 h2.1 h2.2 hn⟩
  · have hn : ∀ j, m ≤ j → j < 10 → ¬ bt (Qbi Q i) j := fun j a b c => h j b ⟨a, c⟩
    exact Or.inr ⟨hn, ag_no2 hn⟩
theorem updN_ne {g : Nat → Nat} {i v j : Nat} (h : j ≠ i) : updN g i v j = g j := if_neg h
theorem upd_self {f : Nat → Int32} {i : Nat} {v : Int32} : upd f i v i = v := if_pos rfl
theorem upd_ne {f : Nat → Int32} {i j : Nat} {v : Int32} (h : j ≠ i) : upd f i v j = f j := if_neg h
theorem ask_bi {Q : QS} {i : Nat} : Qbi (askQ Q i) i = Qbi Q i ||| 1 := updN_self
theorem ag_ask0 {Q : QS} {i : Nat} : agQ (askQ Q i) i 0 = nI 0 :=
  ag_at2 (by decide) (Nat.le_refl 0) (by rw [ask_bi]; exact bt_ask0) (fun j _ h => absurd h (Nat.not_lt_zero j))
theorem ag_askS {Q : QS} {i m : Nat} (hm : 1 ≤ m) : agQ (askQ Q i) i m = agQ Q i m := by
  rcases ag_cases Q i m with ⟨k, h1, h2, h3, h4, e⟩ | ⟨h4, e⟩
  · rw [e]
    exact ag_at2 h1 h2 (by rw [ask_bi]; exact (bt_askS (by omega)).mpr h3) (fun j a b => by rw [ask_bi]; exact fun z => h4 j a b ((bt_askS (by omega)).mp z))
  · rw [e]
    exact ag_no2 (fun j a b => by rw [ask_bi]; exact fun z => h4 j a b ((bt_askS (by omega)).mp z))
theorem ag_ask_ne {Q : QS} {i j m : Nat} (h : j ≠ i) : agQ (askQ Q i) j m = agQ Q j m := by
  have e : Qbi (askQ Q i) j = Qbi Q j := updN_ne h
  unfold agQ bitP
  rw [e]; rfl
theorem i_ss (a b : Int32) : a - (a - b) = b := by
  have h : b + (a - b) = a := by rw [Int32.add_comm, Int32.sub_add_cancel]
  have h2 : b + (a - b) - (a - b) = b := Int32.add_sub_cancel _ _
  rw [h] at h2
  exact h2
theorem i_as (a b c : Int32) : a + b - c = a - c + b := by
  rw [Int32.sub_eq_add_neg, Int32.sub_eq_add_neg, Int32.add_assoc, Int32.add_comm b, Int32.add_assoc]
theorem noo_bi {n : Nat} {Q : QS} {i : Nat} (h : i < n) : Qbi (nooQ n Q) i = (Qbi Q i <<< 1) &&& 1023 := if_pos h
theorem noo_olt {n : Nat} {Q : QS} {i : Nat} (h : i < n) (h2 : bt (Qbi Q i) 9) : Qol (nooQ n Q) i = nI (Qdy Q + 1) - nI 10 := if_pos ⟨h, bt_car.mpr h2⟩
theorem noo_olf {n : Nat} {Q : QS} {i : Nat} (h2 : ¬ bt (Qbi Q i) 9) : Qol (nooQ n Q) i = Qol Q i := if_neg (fun z => h2 (bt_car.mp z.2))
/-- behind a noon all is a day longer ago, and mails are a day further on -/
theorem ag_noo {n : Nat} {Q : QS} {i m : Nat} (hi : i < n) (hm : m < 10) : agQ (nooQ n Q) i m = agQ Q i (m - 1) + nI 1 := by
  have hb : ∀ j, j < 10 → bt (Qbi (nooQ n Q) i) j → 1 ≤ j ∧ bt (Qbi Q i) (j - 1) := fun j hj z => by
    rw [noo_bi hi] at z
    cases j with
    | zero => exact absurd z bt_noo0
    | succ j => exact ⟨by omega, (bt_nooS hj).mp z⟩
  rcases ag_cases Q i (m - 1) with ⟨k, h1, h2, h3, h4, e⟩ | ⟨h4, e⟩
  · rw [e, nI_add]
    by_cases h9 : k = 9
    · subst h9
      rw [ag_no2 (fun j a b z => by
        obtain ⟨c1, c2⟩ := hb j b z
        exact h4 (j - 1) (by omega) (by omega) c2), noo_olt hi h3]
      show nI (Qdy Q + 1) - (nI (Qdy Q + 1) - nI 10) = nI 10
      exact i_ss _ _
    · exact ag_at2 (by omega) (by omega) (by rw [noo_bi hi]; exact (bt_nooS (by omega)).mpr h3) (fun j a b z => by
        obtain ⟨c1, c2⟩ := hb j (by omega) z
        exact h4 (j - 1) (by omega) (by omega) c2)
  · rw [e, ag_no2 (fun j a b z => by
      obtain ⟨c1, c2⟩ := hb j b z
      exact h4 (j - 1) (by omega) (by omega) c2), noo_olf (h4 9 (by omega) (by decide))]
    show nI (Qdy Q + 1) - Qol Q i = _
    rw [← nI_add, i_as]
theorem or_nz {a b : Nat} : a ||| b ≠ 0 ↔ a ≠ 0 ∨ b ≠ 0 := by
  constructor
  · intro h
    by_cases ha : a = 0
    · subst ha; rw [Nat.zero_or] at h; exact Or.inr h
    · exact Or.inl ha
  · rintro (h | h)
    · intro z; have := Nat.left_le_or (n := a) (m := b); omega
    · intro z; have := Nat.right_le_or (n := a) (m := b); omega
theorem and1_nz {b : Nat} : b &&& 1 ≠ 0 ↔ bt b 0 := by
  unfold bt
  rw [Nat.shiftRight_zero, Nat.and_one_is_mod]
  omega
theorem aqN_ne {b : Nat → Nat} : ∀ {n : Nat}, aqN b n ≠ 0 ↔ ∃ i, i < n ∧ bt (b i) 0
  | 0 => ⟨fun h => absurd rfl h, fun ⟨i, h, _⟩ => absurd h (Nat.not_lt_zero i)⟩
  | n + 1 => by
    rw [aqN, or_nz, aqN_ne]
    constructor
    · rintro (⟨i, h1, h2⟩ | h)
      · exact ⟨i, by omega, h2⟩
      · refine ⟨n, Nat.lt_succ_self n, and1_nz.mp (fun z => h ?_)⟩
        rw [z, Nat.zero_shiftLeft]
    · rintro ⟨i, h1, h2⟩
      rcases Nat.lt_succ_iff_lt_or_eq.mp h1 with h3 | h3
      · exact Or.inl ⟨i, h3, h2⟩
      · subst h3
        refine Or.inr (fun z => and1_nz.mpr h2 ?_)
        exact Nat.shiftLeft_eq_zero_iff.mp z
/-- whose it is, as the reference has it -/
def oR (o : Int32) : Int32 := if o = -4 then -1 else o
def okOw (o : Int32) : Prop := o = -4 ∨ ∃ j, j < 6 ∧ o = nI j
theorem nI_n4 {j : Nat} (h : j < 100) : ¬ nI j = -4 := fun e => by
  have h1 := nI_toInt (n := j) (by omega)
  rw [e] at h1
  have h2 : (-4 : Int32).toInt = -4 := by decide
  omega
theorem oR_n {j : Nat} (h : j < 100) : oR (nI j) = nI j := if_neg (nI_n4 h)
theorem oR_4 : oR (-4) = -1 := rfl
theorem oR_eq {o : Int32} (h : okOw o) {j : Nat} (hj : j < 100) : oR o = nI j ↔ o = nI j := by
  rcases h with h | ⟨i, hi, h⟩
  · subst h
    constructor
    · intro e; exact absurd e.symm (nI_m1 (by omega))
    · intro e; exact absurd e.symm (nI_n4 hj)
  · rw [h, oR_n (by omega)]
theorem oR_inj {o p : Int32} (h : okOw o) (h2 : okOw p) : oR o = oR p ↔ o = p := by
  rcases h with h | ⟨i, hi, h⟩
  · subst h
    rcases h2 with h2 | ⟨j, hj, h2⟩
    · subst h2; exact ⟨fun _ => rfl, fun _ => rfl⟩
    · subst h2
      rw [oR_n (by omega)]
      exact ⟨fun e => absurd e.symm (nI_m1 (by omega)), fun e => absurd e.symm (nI_n4 (by omega))⟩
  · subst h
    rw [oR_n (by omega)]
    constructor
    · intro e; exact ((oR_eq h2 (by omega)).mp e.symm).symm
    · intro e; rw [← e, oR_n (by omega)]
theorem onR_oR {o : Int32} (h : okOw o) : onR (oR o) = o := by
  rcases h with h | ⟨i, hi, h⟩
  · subst h; rfl
  · subst h
    rw [oR_n (by omega)]
    exact onR_f (by rw [show (0 : Int32) = nI 0 from rfl]; exact (nI_leI (by decide) (by omega)).mpr (Nat.zero_le _))
/-- a row of the reference's and a trust: the days heard of, the day, did anybody ask, whose it is -/
def tieT (n : Nat) (Q : QS) (he : Nat → Int32) (dy : Nat) (ak : Bool) (ow : Int32) : Prop :=
  Qdy Q = dy ∧ Qow Q = oR ow ∧ okOw ow ∧ (aqN (Qbi Q) n ≠ 0 ↔ ak = true) ∧ (∀ i, i < n → ∀ m, m < 10 → agQ Q i m = nI dy - he (i * 10 + m)) ∧ okQ Q
theorem tie_ask {n : Nat} {Q : QS} {he : Nat → Int32} {dy : Nat} {ak : Bool} {ow : Int32} {i : Nat} (h : tieT n Q he dy ak ow) (hi : i < n) : tieT n (askQ Q i) (upd he (i * 10) (nI dy)) dy true ow := by
  obtain ⟨h1, h2, h3, h4, h5, h6⟩ := h
  refine ⟨h1, h2, h3, ?_, ?_, okQ_ask h6⟩
  · exact ⟨fun _ => rfl, fun _ => aqN_ne.mpr ⟨i, hi, by rw [ask_bi]; exact bt_ask0⟩⟩
  · intro j hj m hm
    by_cases e : j = i
    · subst e
      cases m with
      | zero => rw [ag_ask0, Nat.add_zero, upd_self, Int32.sub_self]; rfl
      | succ m => rw [ag_askS (by omega), upd_ne (by omega)]; exact h5 j hj _ hm
    · rw [ag_ask_ne e, upd_ne (by omega)]; exact h5 j hj m hm
theorem sh_at {he : Nat → Int32} {i m : Nat} (hi : i < 6) (hm : m < 10) : shF he 6 0 (i * 10 + m) = he (i * 10 + (m - 1)) := by
  unfold shF
  cases m with
  | zero => rw [if_neg (by omega)]
  | succ m => rw [if_pos (by omega)]; rfl
theorem tie_noo {n : Nat} {Q : QS} {he : Nat → Int32} {dy : Nat} {ak : Bool} {ow : Int32} {f : Nat → Int32} (h : tieT n Q he dy ak ow) (hn : n ≤ 6) (h0 : 0 < n) (hf : ∀ i, i < n → f i = he (i * 10)) :
    tieT n (nooQ n Q) (shF he 6 0) (dy + 1) false (if ak = true then nI (hbw (agoF (nI dy) f) n 0) else ow) := by
  obtain ⟨h1, h2, h3, h4, h5, h6⟩ := h
  have hw : hbw (ag0 Q) n 0 = hbw (agoF (nI dy) f) n 0 := hbw_cong (fun j hj => by
    show agQ Q j 0 = nI dy - f j
    rw [h5 j hj 0 (by decide), hf j hj]; rfl)
  have hl := hbw_lt (agoF (nI dy) f) 0 h0
  refine ⟨by show Qdy Q + 1 = _; rw [h1], ?_, ?_, ?_, ?_, okQ_noo h6⟩
  · show nooO n Q = _
    unfold nooO
    cases ak with
    | true => rw [if_neg (h4.mpr rfl), if_pos rfl, hw, oR_n (by omega)]
    | false =>
      have hz : aqN (Qbi Q) n = 0 := by
        rcases Nat.eq_zero_or_pos (aqN (Qbi Q) n) with z | z
        · exact z
        · exact absurd (h4.mp (by omega)) (by decide)
      rw [if_pos hz, if_neg (by decide), h2]
  · cases ak with
    | true => rw [if_pos rfl]; exact Or.inr ⟨_, by omega, rfl⟩
    | false => rw [if_neg (by decide)]; exact h3
  · constructor
    · intro z
      obtain ⟨i, hi, hb⟩ := aqN_ne.mp z
      rw [noo_bi hi] at hb
      exact absurd hb bt_noo0
    · intro z; cases z
  · intro i hi m hm
    rw [ag_noo hi hm, h5 i hi (m - 1) (by omega), sh_at (by omega) hm, ← nI_add, i_as]
/-- a trust's own days stand for the days heard of -/
def TQ (n : Nat) (Q : QS) (f : Nat → Int32) (dy : Nat) (ak : Bool) (ow : Int32) : Prop := ∃ he, tieT n Q he dy ak ow ∧ ∀ i, i < n → f i = he (i * 10)
theorem TQ_ask {n : Nat} {Q : QS} {f : Nat → Int32} {dy : Nat} {ak : Bool} {ow : Int32} {i : Nat} (h : TQ n Q f dy ak ow) (hi : i < n) : TQ n (askQ Q i) (upd f i (nI dy)) dy true ow := by
  obtain ⟨he, h1, h2⟩ := h
  refine ⟨_, tie_ask h1 hi, fun j hj => ?_⟩
  by_cases e : j = i
  · subst e; rw [upd_self, upd_self]
  · rw [upd_ne e, upd_ne (by omega)]; exact h2 j hj
theorem TQ_noo {n : Nat} {Q : QS} {f : Nat → Int32} {dy : Nat} {ak : Bool} {ow : Int32} (h : TQ n Q f dy ak ow) (hn : n ≤ 6) (h0 : 0 < n) : TQ n (nooQ n Q) f (dy + 1) false (if ak = true then nI (hbw (agoF (nI dy) f) n 0) else ow) := by
  obtain ⟨he, h1, h2⟩ := h
  refine ⟨_, tie_noo h1 hn h0 h2, fun j hj => ?_⟩
  have := sh_at (he := he) (i := j) (m := 0) (by omega) (by decide)
  rw [Nat.add_zero] at this
  rw [this]; exact h2 j hj
theorem TQ_ag {n : Nat} {Q : QS} {f : Nat → Int32} {dy : Nat} {ak : Bool} {ow : Int32} (h : TQ n Q f dy ak ow) {j : Nat} (hj : j < n) : ag0 Q j = agoF (nI dy) f j := by
  obtain ⟨he, h1, h2⟩ := h
  show agQ Q j 0 = nI dy - f j
  rw [h1.2.2.2.2.1 j hj 0 (by decide), h2 j hj]; rfl
theorem TQ_hbw {n : Nat} {Q : QS} {f : Nat → Int32} {dy : Nat} {ak : Bool} {ow : Int32} (h : TQ n Q f dy ak ow) (S : Nat) : hbw (ag0 Q) n S = hbw (agoF (nI dy) f) n S := hbw_cong (fun _ hj => TQ_ag h hj)
theorem TQ_ow {n : Nat} {Q : QS} {f : Nat → Int32} {dy : Nat} {ak : Bool} {ow : Int32} (h : TQ n Q f dy ak ow) : Qow Q = oR ow ∧ okOw ow := by
  obtain ⟨he, h1, -⟩ := h
  exact ⟨h1.2.1, h1.2.2.1⟩
theorem TQ_cong {n : Nat} {Q : QS} {f g : Nat → Int32} {dy : Nat} {ak : Bool} {ow : Int32} (h : TQ n Q f dy ak ow) (hg : ∀ i, i < n → g i = f i) : TQ n Q g dy ak ow := by
  obtain ⟨he, h1, h2⟩ := h
  exact ⟨he, h1, fun i hi => (hg i hi).trans (h2 i hi)⟩
theorem TQ_dy {n : Nat} {Q : QS} {f : Nat → Int32} {dy : Nat} {ak : Bool} {ow : Int32} (h : TQ n Q f dy ak ow) : Qdy Q = dy ∧ okQ Q ∧ (aqN (Qbi Q) n ≠ 0 ↔ ak = true) := by
  obtain ⟨he, h1, -⟩ := h
  exact ⟨h1.1, h1.2.2.2.2.2, h1.2.2.2.1⟩
/-- how often one asked is no part of it -/
theorem TQ_sQt {n : Nat} {Q : QS} {f : Nat → Int32} {dy : Nat} {ak : Bool} {ow : Int32} {i : Nat} {v : Int32} (h : TQ n Q f dy ak ow) : TQ n (sQt Q i v) f dy ak ow := by
  obtain ⟨he, ⟨h1, h2, h3, h4, h5, h6⟩, h7⟩ := h
  exact ⟨he, ⟨h1, h2, h3, h4, h5, h6⟩, h7⟩
theorem TQ_say {n : Nat} {E : FS} {Q : QS} {f : Nat → Int32} {dy : Nat} {ak : Bool} {ow : Int32} {i s : Nat} (h : TQ n Q f dy ak ow) (hi : i < n) :
    TQ n (sayQ E Q i s) (if asR E Q s i = true then upd f i (nI dy) else f) dy (ak || asR E Q s i) ow := by
  unfold sayQ
  cases hc : asR E Q s i with
  | true => rw [if_pos rfl, if_pos rfl, Bool.or_true]; exact TQ_sQt (TQ_ask h hi)
  | false => rw [if_neg (by decide), if_neg (by decide), Bool.or_false]; exact h

