
/-! PART 03: mathematics that both sides are tied to -/
theorem and1_lt (x : Nat) : (x &&& 1) < 2147483648 := by
  rw [Nat.and_one_is_mod]; omega
theorem cell_i {a n : Nat} {cA : ClassId} {f g : Nat → Int32} (h : f = g) : ((a, .inl (cA, n, .inl f)) : Nat × va_E) = (a, .inl (cA, n, .inl g)) := by subst h; rfl
def updN (g : Nat → Nat) (i v : Nat) : Nat → Nat := fun j => if j = i then v else g j
def updB (g : Nat → Bool) (i : Nat) (v : Bool) : Nat → Bool := fun j => if j = i then v else g j
theorem updN_eq (g : Nat → Nat) (i v : Nat) : upd (fun j => nI (g j)) i (nI v) = fun j => nI (updN g i v j) := by
  funext j; unfold upd updN; by_cases h : j = i <;> simp [h]
theorem updB_eq (g : Nat → Bool) (i : Nat) (v : Bool) : upd (fun j => bI (g j)) i (bI v) = fun j => bI (updB g i v j) := by
  funext j; unfold upd updB; by_cases h : j = i <;> simp [h]
theorem bI_fit (b : Bool) : fits .boolean (.int (bI b)) = true := by cases b <;> rfl
theorem bI_true : bI true = nI 1 := rfl
theorem bI_false : bI false = nI 0 := rfl
/-- no number below n -/
def bad (x : Int32) (n : Nat) : Prop := ∀ j, j < n → x ≠ nI j
theorem bad_no {x : Int32} {n : Nat} (hb : bad x n) (hn : n < 2147483648) (h0 : ¬ x < 0) (h1 : ¬ nI n ≤ x) : False := by
  rcases pk_ix x hn with h | h | ⟨j, h, e⟩
  · exact h0 h
  · exact h1 h
  · exact hb j h e
theorem bad_or (x : Int32) (n : Nat) (hn : n < 2147483648) : bad x n ∨ ∃ j, j < n ∧ x = nI j := by
  by_cases h : ∃ j, j < n ∧ x = nI j
  · exact Or.inr h
  · exact Or.inl (fun j hj e => h ⟨j, hj, e⟩)
/-- how long ago, when those of the set S ask now -/
def agoS (ago : Nat → Int32) (S i : Nat) : Int32 := if (S >>> i) &&& 1 = 1 then nI 0 else ago i
/-- the first of the greatest among the first i, and how long -/
def hb (ago : Nat → Int32) (S : Nat) : Nat → Nat × Int32
  | 0 => (0, -1)
  | i + 1 => if agoS ago S i ≤ (hb ago S i).2 then hb ago S i else (i, agoS ago S i)
theorem hb_le {ago : Nat → Int32} {S i : Nat} (h : agoS ago S i ≤ (hb ago S i).2) : hb ago S (i + 1) = hb ago S i := if_pos h
theorem hb_nle {ago : Nat → Int32} {S i : Nat} (h : ¬ agoS ago S i ≤ (hb ago S i).2) : hb ago S (i + 1) = (i, agoS ago S i) := if_neg h
theorem hb_bd (ago : Nat → Int32) (S : Nat) : ∀ i, 0 < i → (hb ago S i).1 < i
  | 1, _ => by
    by_cases h : agoS ago S 0 ≤ (hb ago S 0).2
    · rw [hb_le h]; exact Nat.one_pos
    · rw [hb_nle h]; exact Nat.one_pos
  | i + 2, _ => by
    by_cases h : agoS ago S (i + 1) ≤ (hb ago S (i + 1)).2
    · rw [hb_le h]; exact Nat.lt_succ_of_lt (hb_bd ago S (i + 1) (Nat.succ_pos i))
    · rw [hb_nle h]; exact Nat.lt_succ_self (i + 1)
def hbw (ago : Nat → Int32) (n S : Nat) : Nat := (hb ago S n).1
theorem hbw_lt (ago : Nat → Int32) {n : Nat} (S : Nat) (h : 0 < n) : hbw ago n S < n := hb_bd ago S n h
def agoF (day : Int32) (f : Nat → Int32) : Nat → Int32 := fun i => day - f i
/-- the heirs if one or another asks -/
def heirsN (ago : Nat → Int32) (n : Nat) : Nat → Nat
  | 0 => 0
  | i + 1 => heirsN ago n i ||| (1 <<< hbw ago n (1 <<< i))
theorem heirsN_lt (ago : Nat → Int32) {n : Nat} (h0 : 0 < n) (hn : n ≤ 6) : ∀ i, heirsN ago n i < 64
  | 0 => Nat.zero_lt_succ _
  | i + 1 => by
    have h1 := hbw_lt ago (1 <<< i) h0
    have h2 : 1 <<< hbw ago n (1 <<< i) < 2 ^ 6 := by
      rw [Nat.one_shiftLeft]
      exact Nat.pow_lt_pow_right (by decide) (by omega)
    exact Nat.or_lt_two_pow (n := 6) (heirsN_lt ago h0 hn i) h2
/-- bits of a number below 64 -/
def pc6 (k : Nat) : Nat := k % 2 + k / 2 % 2 + k / 4 % 2 + k / 8 % 2 + k / 16 % 2 + k / 32 % 2
theorem pc6_le (k : Nat) : pc6 k ≤ 6 := by unfold pc6; omega
theorem sh_ok {i : Nat} (h : i < 31) : 1 * 2 ^ i < 4294967296 := by
  have h9 : 2 ^ i ≤ 2 ^ 30 := Nat.pow_le_pow_right (by decide) (by omega)
  omega
theorem sh6 {i : Nat} (h : i < 6) : 1 <<< i < 64 := by
  rw [Nat.one_shiftLeft]
  have h9 : 2 ^ i ≤ 2 ^ 5 := Nat.pow_le_pow_right (by decide) (by omega)
  omega
theorem sh6e {i : Nat} (h : i ≤ 6) : 1 <<< i ≤ 64 := by
  rw [Nat.one_shiftLeft]
  have h9 : 2 ^ i ≤ 2 ^ 6 := Nat.pow_le_pow_right (by decide) (by omega)
  omega
theorem dlt_f {a b : Nat} (h : b ≤ a) : decide (a < b) = false := decide_eq_false (Nat.not_lt.mpr h)
theorem dlt_t {a b : Nat} (h : a < b) : decide (a < b) = true := decide_eq_true h
theorem on_cases (o : Option Nat) : o = none ∨ ∃ b, o = some b := by
  cases o with
  | none => exact Or.inl rfl
  | some b => exact Or.inr ⟨b, rfl⟩
/-- the JDK's count of bits, step by step -/
def us32 (x : Int32) (k : Nat) : Int32 := (x.toUInt32 >>> ((nI k).toUInt32 &&& Int32.toUInt32 31)).toInt32
def bc1 (x : Int32) : Int32 := x - (us32 x 1 &&& nI 1431655765)
def bc2 (x : Int32) : Int32 := (bc1 x &&& nI 858993459) + (us32 (bc1 x) 2 &&& nI 858993459)
def bc3 (x : Int32) : Int32 := (bc2 x + us32 (bc2 x) 4) &&& nI 252645135
def bc4 (x : Int32) : Int32 := bc3 x + us32 (bc3 x) 8
def bc5 (x : Int32) : Int32 := bc4 x + us32 (bc4 x) 16
def bcE (x : Int32) : Int32 := bc5 x &&& nI 63
theorem bcE_n : ∀ k, k < 64 → bcE (nI k) = nI (pc6 k) := by decide +kernel
/-- -4, or a number -/
def oI : Option Nat → Int32
  | none => -4
  | some b => nI b
theorem oI_eq {o : Option Nat} (h : ∀ b, o = some b → b < 2147483648) : oI o = -4 ↔ o = none := by
  cases o with
  | none => exact ⟨fun _ => rfl, fun _ => rfl⟩
  | some b =>
    refine ⟨fun e => ?_, fun e => by cases e⟩
    have h1 := nI_toInt (h b rfl)
    rw [show nI b = -4 from e] at h1
    have h2 : (-4 : Int32).toInt = -4 := by decide
    omega
def fewer (o : Option Nat) (m : Nat) : Bool := match o with
  | none => true
  | some b => decide (pc6 m < pc6 b)
theorem oI_ne {b : Nat} (h : b < 2147483648) : ¬ oI (some b) = -4 := fun e => by
  have := (oI_eq (o := some b) (fun c hc => by cases hc; exact h)).mp e
  cases this
/-- the fewest of the sets below m by which it is i's -/
def fewN (ago : Nat → Int32) (n : Nat) (ak : Bool) (i : Nat) : Nat → Option Nat
  | 0 => none
  | m + 1 => if ((ak || decide (m ≠ 0)) && fewer (fewN ago n ak i m) m && decide (hbw ago n m = i)) = true then some m else fewN ago n ak i m
theorem fewN_lt {ago : Nat → Int32} {n : Nat} {ak : Bool} {i : Nat} : ∀ {m b : Nat}, fewN ago n ak i m = some b → b < m
  | 0, b, h => by simp [fewN] at h
  | m + 1, b, h => by
    unfold fewN at h
    by_cases hc : ((ak || decide (m ≠ 0)) && fewer (fewN ago n ak i m) m && decide (hbw ago n m = i)) = true
    · rw [if_pos hc] at h
      have e : m = b := Option.some.inj h
      omega
    · rw [if_neg hc] at h
      exact Nat.lt_succ_of_lt (fewN_lt h)
theorem fewN_no1 {ago : Nat → Int32} {n : Nat} {ak : Bool} {i m : Nat} (h : (ak || decide (m ≠ 0)) = false) : fewN ago n ak i (m + 1) = fewN ago n ak i m := by
  rw [fewN, h]; rfl
theorem fewN_no2 {ago : Nat → Int32} {n : Nat} {ak : Bool} {i m : Nat} (h : fewer (fewN ago n ak i m) m = false) : fewN ago n ak i (m + 1) = fewN ago n ak i m := by
  rw [fewN, h, Bool.and_false]; rfl
theorem fewN_no3 {ago : Nat → Int32} {n : Nat} {ak : Bool} {i m : Nat} (h : ¬ hbw ago n m = i) : fewN ago n ak i (m + 1) = fewN ago n ak i m := by
  rw [fewN, decide_eq_false h, Bool.and_false]; rfl
theorem fewN_yes {ago : Nat → Int32} {n : Nat} {ak : Bool} {i m : Nat} (h1 : (ak || decide (m ≠ 0)) = true) (h2 : fewer (fewN ago n ak i m) m = true) (h3 : hbw ago n m = i) : fewN ago n ak i (m + 1) = some m := by
  rw [fewN, h1, h2, decide_eq_true h3]; rfl
/-- a topic of the deed -/
def onD (tp d : Nat) : Bool := decide (tp &&& d ≠ 0)
/-- is it asking: by kind, topics, question or not; by the deed, by the hint -/
def askB (kd tp : Nat) (qu : Bool) (d hint : Nat) : Bool :=
  if kd = 0 then qu && onD tp d else if kd = 1 then onD tp d && (qu || decide (hint ≤ pc6 tp)) else if kd = 2 then onD tp d else if kd = 3 then qu else false
def anyTo (p : Nat → Bool) : Nat → Bool
  | 0 => false
  | i + 1 => anyTo p i || p i
theorem anyTo_up {p : Nat → Bool} {i : Nat} (h : anyTo p i = true) : ∀ m, anyTo p (i + m) = true
  | 0 => h
  | m + 1 => by show (anyTo p (i + m) || p (i + m)) = true; rw [anyTo_up h m]; rfl
theorem anyTo_le {p : Nat → Bool} {i n : Nat} (h : anyTo p i = true) (hi : i ≤ n) : anyTo p n = true := by
  have := anyTo_up h (n - i)
  rwa [Nat.add_sub_cancel' hi] at this
def qset (p : Nat → Bool) : Nat → Nat
  | 0 => 0
  | s + 1 => if p s then qset p s else qset p s ||| (1 <<< s)
theorem qset_y {p : Nat → Bool} {s : Nat} (h : p s = true) : qset p (s + 1) = qset p s := by rw [qset, h]; rfl
theorem qset_n {p : Nat → Bool} {s : Nat} (h : p s = false) : qset p (s + 1) = qset p s ||| (1 <<< s) := by rw [qset, h]; rfl
theorem anyTo_s {p : Nat → Bool} {i : Nat} (h : anyTo p i = false) : anyTo p (i + 1) = p i := by rw [anyTo, h]; rfl
theorem qset_lt (p : Nat → Bool) : ∀ s, s ≤ 8 → qset p s < 256
  | 0, _ => Nat.zero_lt_succ _
  | s + 1, h => by
    rw [qset]
    split
    · exact qset_lt p s (by omega)
    · have h2 : 1 <<< s < 2 ^ 8 := by
        rw [Nat.one_shiftLeft]
        exact Nat.pow_lt_pow_right (by decide) (by omega)
      exact Nat.or_lt_two_pow (n := 8) (qset_lt p s (by omega)) h2
/-- the saying that is not asking (p) of most (m), the first -/
def ck (p : Nat → Bool) (m : Nat → Nat) : Nat → Option Nat
  | 0 => none
  | s + 1 => if p s then ck p m s else match ck p m s with
    | none => some s
    | some b => if m s ≤ m b then some b else some s
theorem ck_lt {p : Nat → Bool} {m : Nat → Nat} : ∀ {s b : Nat}, ck p m s = some b → b < s
  | 0, b, h => by simp [ck] at h
  | s + 1, b, h => by
    rw [ck] at h
    split at h
    · exact Nat.lt_succ_of_lt (ck_lt h)
    · split at h
      · cases h; exact Nat.lt_succ_self _
      · next b2 hb =>
        split at h
        · cases h; exact Nat.lt_succ_of_lt (ck_lt hb)
        · cases h; exact Nat.lt_succ_self _
theorem ck_1 {p : Nat → Bool} {m : Nat → Nat} {s : Nat} (h : p s = true) : ck p m (s + 1) = ck p m s := by rw [ck, h]; rfl
theorem ck_2 {p : Nat → Bool} {m : Nat → Nat} {s : Nat} (h : p s = false) (h2 : ck p m s = none) : ck p m (s + 1) = some s := by rw [ck, h, h2]; rfl
theorem ck_3 {p : Nat → Bool} {m : Nat → Nat} {s b : Nat} (h : p s = false) (h2 : ck p m s = some b) (h3 : m s ≤ m b) : ck p m (s + 1) = ck p m s := by rw [ck, h, h2]; simp [h3]
theorem ck_4 {p : Nat → Bool} {m : Nat → Nat} {s b : Nat} (h : p s = false) (h2 : ck p m s = some b) (h3 : m b < m s) : ck p m (s + 1) = some s := by rw [ck, h, h2]; simp [Nat.not_le.mpr h3]
/-- the first i with p, of m from i on; 0 else -/
def fC (p : Nat → Bool) : Nat → Nat → Nat
  | 0, _ => 0
  | m + 1, i => if p i then i else fC p m (i + 1)
theorem fC_skip {p : Nat → Bool} {n : Nat} : ∀ {i : Nat}, i ≤ n → (∀ j, j < i → p j = false) → fC p n 0 = fC p (n - i) i
  | 0, _, _ => rfl
  | i + 1, h, hp => by
    rw [fC_skip (i := i) (by omega) (fun j hj => hp j (by omega))]
    rw [show n - i = (n - (i + 1)) + 1 by omega, fC, hp i (by omega)]
    rfl
theorem fC_at {p : Nat → Bool} {n i : Nat} (hi : i < n) (h : ∀ j, j < i → p j = false) (hp : p i = true) : fC p n 0 = i := by
  rw [fC_skip (Nat.le_of_lt hi) h, show n - i = (n - (i + 1)) + 1 by omega, fC, hp]; rfl
theorem fC_no {p : Nat → Bool} {n : Nat} (h : ∀ j, j < n → p j = false) : fC p n 0 = 0 := by
  rw [fC_skip (Nat.le_refl n) h, Nat.sub_self]; rfl
theorem fC_lt {p : Nat → Bool} {n : Nat} (hn : 0 < n) : ∀ m i, i + m ≤ n → fC p m i < n
  | 0, _, _ => hn
  | m + 1, i, h => by
    rw [fC]
    split
    · omega
    · exact fC_lt hn m (i + 1) (by omega)

theorem cf_X0 : CF TX0 3 tyX0 := ⟨tyX0_ok, nmX0⟩
theorem cf_X1 : CF TX1 8 tyX1 := ⟨tyX1_ok, nmX1⟩
theorem cf_X2 : CF TX2 9 tyX2 := ⟨tyX2_ok, nmX2⟩
theorem cf_X3 : CF TX3 3 tyX3 := ⟨tyX3_ok, nmX3⟩
theorem cf_X4 : CF TX4 3 tyX4 := ⟨tyX4_ok, nmX4⟩
theorem cf_X5 : CF TX5 4 tyX5 := ⟨tyX5_ok, nmX5⟩
theorem cf_X6 : CF TX6 5 tyX6 := ⟨tyX6_ok, nmX6⟩
theorem cf_X7 : CF TX7 3 tyX7 := ⟨tyX7_ok, nmX7⟩
theorem cf_X8 : CF TX8 2 tyX8 := ⟨tyX8_ok, nmX8⟩
theorem cf_X9 : CF TX9 10 tyX9 := ⟨tyX9_ok, nmX9⟩
theorem cf_X10 : CF TX10 25 tyX10 := ⟨tyX10_ok, nmX10⟩
theorem cs_X6_relatives : CS yX6_relatives wsX6_relatives cX6_relatives 1 (some .int) 0 := ⟨⟨_, rfl⟩, by decide +kernel, by decide +kernel, by decide +kernel⟩
theorem fl_X6_relatives_27 : Cond.fieldLink RX6 27 (TX6 1).1 (TX6 1).2.1 (TX6 1).2.2.1 ∈ wsX6_relatives := by decide +kernel
theorem in_X6_relatives_X6 : ∀ w ∈ u_ws RX6 TX6 5, w ∈ wsX6_relatives := by decide +kernel
set_option maxHeartbeats 4000000 in
set_option maxRecDepth 100000 in
theorem ct_X6_relatives (Z : Nat → ClassId) (h : Nat) (a : Nat) (f : Nat → Int32) (n : Nat) (day : Int32) (ak : Bool) (ow : Int32) : Ct false yX6_relatives wsX6_relatives ({ frames := 0, cells := 0, slots := 0, locals := 0 }) [.ref h] Z [(h, .inr (6, [.ref a, .int (nI n), .int day, .int (bI ak), .int ow])), (a, .inl (Z 0, 6, .inl f))] (rI (nI n) [(h, .inr (6, [.ref a, .int (nI n), .int day, .int (bI ak), .int ow])), (a, .inl (Z 0, 6, .inl f))]) 0 0 := by
  refine Ct_of (cc := cX6_relatives) (maxL := 1) (ret := (some .int)) (own := RX6) false false (by decide +kernel) rfl rfl (by decide) (fun v w h => by rw [h.1]; exact ⟨_, rfl, rfl⟩) (Nat.le_of_ble_eq_true rfl) (fun X => ?_)
  show GG X _ _ _ _ _ _ _ _ _ _ _ _ _ _ [(0, .ref h)] _ _
  refine G_aload_n (q := 1) dX6_relatives_0 rfl 0 rfl rfl ?_
  refine G_get (q := 4) dX6_relatives_1 0 rfl (show vwCl[6]? = some (RX6, TX6, 5) from rfl) 1 (by decide) in_X6_relatives_X6 fl_X6_relatives_27 rfl rfl ?_
  exact G_iret dX6_relatives_4 rfl rfl ⟨rfl, rfl⟩
theorem cs_X6_day : CS yX6_day wsX6_day cX6_day 1 (some .int) 0 := ⟨⟨_, rfl⟩, by decide +kernel, by decide +kernel, by decide +kernel⟩
theorem fl_X6_day_34 : Cond.fieldLink RX6 34 (TX6 2).1 (TX6 2).2.1 (TX6 2).2.2.1 ∈ wsX6_day := by decide +kernel
theorem in_X6_day_X6 : ∀ w ∈ u_ws RX6 TX6 5, w ∈ wsX6_day := by decide +kernel
set_option maxHeartbeats 4000000 in
set_option maxRecDepth 100000 in
theorem ct_X6_day (Z : Nat → ClassId) (h : Nat) (a : Nat) (f : Nat → Int32) (n : Nat) (day : Int32) (ak : Bool) (ow : Int32) : Ct false yX6_day wsX6_day ({ frames := 0, cells := 0, slots := 0, locals := 0 }) [.ref h] Z [(h, .inr (6, [.ref a, .int (nI n), .int day, .int (bI ak), .int ow])), (a, .inl (Z 0, 6, .inl f))] (rI (day) [(h, .inr (6, [.ref a, .int (nI n), .int day, .int (bI ak), .int ow])), (a, .inl (Z 0, 6, .inl f))]) 0 0 := by
  refine Ct_of (cc := cX6_day) (maxL := 1) (ret := (some .int)) (own := RX6) false false (by decide +kernel) rfl rfl (by decide) (fun v w h => by rw [h.1]; exact ⟨_, rfl, rfl⟩) (Nat.le_of_ble_eq_true rfl) (fun X => ?_)
  show GG X _ _ _ _ _ _ _ _ _ _ _ _ _ _ [(0, .ref h)] _ _
  refine G_aload_n (q := 1) dX6_day_0 rfl 0 rfl rfl ?_
  refine G_get (q := 4) dX6_day_1 0 rfl (show vwCl[6]? = some (RX6, TX6, 5) from rfl) 2 (by decide) in_X6_day_X6 fl_X6_day_34 rfl rfl ?_
  exact G_iret dX6_day_4 rfl rfl ⟨rfl, rfl⟩
theorem cs_X6_owner : CS yX6_owner wsX6_owner cX6_owner 1 (some .int) 0 := ⟨⟨_, rfl⟩, by decide +kernel, by decide +kernel, by decide +kernel⟩
theorem fl_X6_owner_41 : Cond.fieldLink RX6 41 (TX6 4).1 (TX6 4).2.1 (TX6 4).2.2.1 ∈ wsX6_owner := by decide +kernel
theorem in_X6_owner_X6 : ∀ w ∈ u_ws RX6 TX6 5, w ∈ wsX6_owner := by decide +kernel
set_option maxHeartbeats 4000000 in
set_option maxRecDepth 100000 in
theorem ct_X6_owner (Z : Nat → ClassId) (h : Nat) (a : Nat) (f : Nat → Int32) (n : Nat) (day : Int32) (ak : Bool) (ow : Int32) : Ct false yX6_owner wsX6_owner ({ frames := 0, cells := 0, slots := 0, locals := 0 }) [.ref h] Z [(h, .inr (6, [.ref a, .int (nI n), .int day, .int (bI ak), .int ow])), (a, .inl (Z 0, 6, .inl f))] (rI (ow) [(h, .inr (6, [.ref a, .int (nI n), .int day, .int (bI ak), .int ow])), (a, .inl (Z 0, 6, .inl f))]) 0 0 := by
  refine Ct_of (cc := cX6_owner) (maxL := 1) (ret := (some .int)) (own := RX6) false false (by decide +kernel) rfl rfl (by decide) (fun v w h => by rw [h.1]; exact ⟨_, rfl, rfl⟩) (Nat.le_of_ble_eq_true rfl) (fun X => ?_)
  show GG X _ _ _ _ _ _ _ _ _ _ _ _ _ _ [(0, .ref h)] _ _
  refine G_aload_n (q := 1) dX6_owner_0 rfl 0 rfl rfl ?_
  refine G_get (q := 4) dX6_owner_1 0 rfl (show vwCl[6]? = some (RX6, TX6, 5) from rfl) 4 (by decide) in_X6_owner_X6 fl_X6_owner_41 rfl rfl ?_
  exact G_iret dX6_owner_4 rfl rfl ⟨rfl, rfl⟩
theorem cs_X6_ago : CS yX6_ago wsX6_ago cX6_ago 2 (some .int) 1 := ⟨⟨_, rfl⟩, by decide +kernel, by decide +kernel, by decide +kernel⟩
theorem fl_X6_ago_27 : Cond.fieldLink RX6 27 (TX6 1).1 (TX6 1).2.1 (TX6 1).2.2.1 ∈ wsX6_ago := by decide +kernel
theorem fl_X6_ago_34 : Cond.fieldLink RX6 34 (TX6 2).1 (TX6 2).2.1 (TX6 2).2.2.1 ∈ wsX6_ago := by decide +kernel
theorem fl_X6_ago_9 : Cond.fieldLink RX6 9 (TX6 0).1 (TX6 0).2.1 (TX6 0).2.2.1 ∈ wsX6_ago := by decide +kernel
theorem in_X6_ago_X6 : ∀ w ∈ u_ws RX6 TX6 5, w ∈ wsX6_ago := by decide +kernel
set_option maxHeartbeats 4000000 in
set_option maxRecDepth 100000 in
/-- ago(i) of a relative -/
theorem ct_X6_ago (Z : Nat → ClassId) (h : Nat) (a : Nat) (f : Nat → Int32) (n : Nat) (day : Int32) (ak : Bool) (ow : Int32) (j : Nat) (hn : n ≤ 6) (hj : j < n): Ct false yX6_ago wsX6_ago ({ frames := 0, cells := 0, slots := 0, locals := 0 }) [.ref h, .int (nI j)] Z [(h, .inr (6, [.ref a, .int (nI n), .int day, .int (bI ak), .int ow])), (a, .inl (Z 0, 6, .inl f))] (rI (agoF day f j) [(h, .inr (6, [.ref a, .int (nI n), .int day, .int (bI ak), .int ow])), (a, .inl (Z 0, 6, .inl f))]) 0 0 := by
  refine Ct_of (cc := cX6_ago) (maxL := 2) (ret := (some .int)) (own := RX6) false false (by decide +kernel) rfl rfl (by decide) (fun v w h => by rw [h.1]; exact ⟨_, rfl, rfl⟩) (Nat.le_of_ble_eq_true rfl) (fun X => ?_)
  show GG X _ _ _ _ _ _ _ _ _ _ _ _ _ _ [(0, .ref h), (1, .int (nI j))] _ _
  refine G_iload_n (q := 1) dX6_ago_0 rfl 1 rfl rfl ?_
  refine G_if_ltN (tgt := 26) (q := 4) dX6_ago_1 (by decide) rfl (by omega) (fun c1 => ?_) (fun c1 => ?_)
  · exact c1.elim
  · refine G_iload_n (q := 5) dX6_ago_4 rfl 1 rfl rfl ?_
    refine G_aload_n (q := 6) dX6_ago_5 rfl 0 rfl rfl ?_
    refine G_get (q := 9) dX6_ago_6 0 rfl (show vwCl[6]? = some (RX6, TX6, 5) from rfl) 1 (by decide) in_X6_ago_X6 fl_X6_ago_27 rfl rfl ?_
    refine G_icmp_geN (tgt := 26) (q := 12) dX6_ago_9 (by decide) rfl (by omega) (by omega) (fun c9 => ?_) (fun c9 => ?_)
    · exfalso; omega
    · refine G_aload_n (q := 13) dX6_ago_12 rfl 0 rfl rfl ?_
      refine G_get (q := 16) dX6_ago_13 0 rfl (show vwCl[6]? = some (RX6, TX6, 5) from rfl) 2 (by decide) in_X6_ago_X6 fl_X6_ago_34 rfl rfl ?_
      refine G_aload_n (q := 17) dX6_ago_16 rfl 0 rfl rfl ?_
      refine G_get (q := 20) dX6_ago_17 0 rfl (show vwCl[6]? = some (RX6, TX6, 5) from rfl) 0 (by decide) in_X6_ago_X6 fl_X6_ago_9 rfl rfl ?_
      refine G_iload_n (q := 21) dX6_ago_20 rfl 1 rfl rfl ?_
      refine G_iald (q := 22) dX6_ago_21 1 rfl j (rfl) (by omega) (by omega) rfl ?_
      refine G_isub (q := 23) dX6_ago_22 rfl ?_
      refine G_goto (q := 27) dX6_ago_23 (by decide) ?_
      refine GG.of (ws2 := [(h, .inr (6, [.ref a, .int (nI n), .int day, .int (bI ak), .int ow])), (a, .inl (Z 0, 6, .inl f))]) (lv2 := [(0, .ref h), (1, .int (nI j))]) (st2 := [.int (agoF day f j)]) (rfl) (rfl) (st_c (vi_c (show day - (f j) = agoF day f j from rfl)) (rfl)) ?_
      exact G_iret dX6_ago_27 rfl rfl ⟨rfl, rfl⟩
theorem cs_X6_ask : CS yX6_ask wsX6_ask cX6_ask 2 none 1 := ⟨⟨_, rfl⟩, by decide +kernel, by decide +kernel, by decide +kernel⟩
theorem fl_X6_ask_27 : Cond.fieldLink RX6 27 (TX6 1).1 (TX6 1).2.1 (TX6 1).2.2.1 ∈ wsX6_ask := by decide +kernel
theorem fl_X6_ask_34 : Cond.fieldLink RX6 34 (TX6 2).1 (TX6 2).2.1 (TX6 2).2.2.1 ∈ wsX6_ask := by decide +kernel
theorem fl_X6_ask_37 : Cond.fieldLink RX6 37 (TX6 3).1 (TX6 3).2.1 (TX6 3).2.2.1 ∈ wsX6_ask := by decide +kernel
theorem fl_X6_ask_9 : Cond.fieldLink RX6 9 (TX6 0).1 (TX6 0).2.1 (TX6 0).2.2.1 ∈ wsX6_ask := by decide +kernel
theorem in_X6_ask_X6 : ∀ w ∈ u_ws RX6 TX6 5, w ∈ wsX6_ask := by decide +kernel
set_option maxHeartbeats 4000000 in
set_option maxRecDepth 100000 in
theorem ct_X6_ask (Z : Nat → ClassId) (h : Nat) (a : Nat) (f : Nat → Int32) (n : Nat) (day : Int32) (ak : Bool) (ow : Int32) (j : Nat) (hn : n ≤ 6) (hj : j < n): Ct false yX6_ask wsX6_ask ({ frames := 0, cells := 0, slots := 0, locals := 0 }) [.ref h, .int (nI j)] Z [(h, .inr (6, [.ref a, .int (nI n), .int day, .int (bI ak), .int ow])), (a, .inl (Z 0, 6, .inl f))] (rV [(h, .inr (6, [.ref a, .int (nI n), .int day, .int (bI true), .int ow])), (a, .inl (Z 0, 6, .inl (upd f j day)))]) 0 0 := by
  refine Ct_of (cc := cX6_ask) (maxL := 2) (ret := none) (own := RX6) false false (by decide +kernel) rfl rfl (by decide) (fun v w h => by rw [h.1]; rfl) (Nat.le_of_ble_eq_true rfl) (fun X => ?_)
  show GG X _ _ _ _ _ _ _ _ _ _ _ _ _ _ [(0, .ref h), (1, .int (nI j))] _ _
  refine G_iload_n (q := 1) dX6_ask_0 rfl 1 rfl rfl ?_
  refine G_if_ltN (tgt := 27) (q := 4) dX6_ask_1 (by decide) rfl (by omega) (fun c1 => ?_) (fun c1 => ?_)
  · exact c1.elim
  · refine G_iload_n (q := 5) dX6_ask_4 rfl 1 rfl rfl ?_
    refine G_aload_n (q := 6) dX6_ask_5 rfl 0 rfl rfl ?_
    refine G_get (q := 9) dX6_ask_6 0 rfl (show vwCl[6]? = some (RX6, TX6, 5) from rfl) 1 (by decide) in_X6_ask_X6 fl_X6_ask_27 rfl rfl ?_
    refine G_icmp_geN (tgt := 27) (q := 12) dX6_ask_9 (by decide) rfl (by omega) (by omega) (fun c9 => ?_) (fun c9 => ?_)
    · exfalso; omega
    · refine G_aload_n (q := 13) dX6_ask_12 rfl 0 rfl rfl ?_
      refine G_get (q := 16) dX6_ask_13 0 rfl (show vwCl[6]? = some (RX6, TX6, 5) from rfl) 0 (by decide) in_X6_ask_X6 fl_X6_ask_9 rfl rfl ?_
      refine G_iload_n (q := 17) dX6_ask_16 rfl 1 rfl rfl ?_
      refine G_aload_n (q := 18) dX6_ask_17 rfl 0 rfl rfl ?_
      refine G_get (q := 21) dX6_ask_18 0 rfl (show vwCl[6]? = some (RX6, TX6, 5) from rfl) 2 (by decide) in_X6_ask_X6 fl_X6_ask_34 rfl rfl ?_
      refine G_iast (ws2 := [(h, .inr (6, [.ref a, .int (nI n), .int day, .int (bI ak), .int ow])), (a, .inl (Z 0, 6, .inl (upd f j day)))]) (q := 22) dX6_ask_21 1 rfl j (rfl) (by omega) (by omega) rfl rfl ?_
      refine G_aload_n (q := 23) dX6_ask_22 rfl 0 rfl rfl ?_
      refine G_iconst (v := nI 1) (q := 24) dX6_ask_23 (by decide) rfl ?_
      refine G_put (ws2 := [(h, .inr (6, [.ref a, .int (nI n), .int day, .int (nI 1), .int ow])), (a, .inl (Z 0, 6, .inl (upd f j day)))]) (q := 27) dX6_ask_24 0 rfl (show vwCl[6]? = some (RX6, TX6, 5) from rfl) cf_X6 3 (by decide) in_X6_ask_X6 fl_X6_ask_37 rfl (by decide) rfl (by simp only [List.length_cons, List.length_nil]; decide) rfl rfl ?_
      refine GG.of (ws2 := [(h, .inr (6, [.ref a, .int (nI n), .int day, .int (bI true), .int ow])), (a, .inl (Z 0, 6, .inl (upd f j day)))]) (lv2 := [(0, .ref h), (1, .int (nI j))]) (st2 := []) (ws_c (rfl) (ws_c (rfl) (rfl))) (rfl) (rfl) ?_
      exact G_ret dX6_ask_27 rfl rfl ⟨rfl, rfl⟩
theorem cs_X6_longestIf : CS yX6_longestIf wsX6_longestIf cX6_longestIf 6 (some .int) 1 := ⟨⟨_, rfl⟩, by decide +kernel, by decide +kernel, by decide +kernel⟩
theorem fl_X6_longestIf_27 : Cond.fieldLink RX6 27 (TX6 1).1 (TX6 1).2.1 (TX6 1).2.2.1 ∈ wsX6_longestIf := by decide +kernel
theorem in_X6_longestIf_X6 : ∀ w ∈ u_ws RX6 TX6 5, w ∈ wsX6_longestIf := by decide +kernel
set_option maxHeartbeats 4000000 in
set_option maxRecDepth 100000 in
/-- longestIf(set) -/
theorem ct_X6_longestIf (Z : Nat → ClassId) (h : Nat) (a : Nat) (f : Nat → Int32) (n : Nat) (day : Int32) (ak : Bool) (ow : Int32) (S : Nat) (hn : n ≤ 6) (hS : S < 64): Ct false yX6_longestIf wsX6_longestIf ({ frames := 1, cells := 0, slots := 0, locals := 21 }) [.ref h, .int (nI S)] Z [(h, .inr (6, [.ref a, .int (nI n), .int day, .int (bI ak), .int ow])), (a, .inl (Z 0, 6, .inl f))] (rI (nI (hbw (agoF day f) n S)) [(h, .inr (6, [.ref a, .int (nI n), .int day, .int (bI ak), .int ow])), (a, .inl (Z 0, 6, .inl f))]) 0 0 := by
  refine Ct_of (cc := cX6_longestIf) (maxL := 6) (ret := (some .int)) (own := RX6) false false (by decide +kernel) rfl rfl (by decide) (fun v w h => by rw [h.1]; exact ⟨_, rfl, rfl⟩) (Nat.le_of_ble_eq_true rfl) (fun X => ?_)
  show GG X _ _ _ _ _ _ _ _ _ _ _ _ _ _ [(0, .ref h), (1, .int (nI S))] _ _
  refine G_iconst (v := nI 0) (q := 1) dX6_longestIf_0 (by decide) rfl ?_
  refine G_istore_n (lv2 := [(0, .ref h), (1, .int (nI S)), (2, .int (nI 0))]) (q := 2) dX6_longestIf_1 rfl (by decide) rfl rfl ?_
  refine G_iconst (v := -1) (q := 3) dX6_longestIf_2 (by decide) rfl ?_
  refine G_istore_n (lv2 := [(0, .ref h), (1, .int (nI S)), (2, .int (nI 0)), (3, .int (-1))]) (q := 4) dX6_longestIf_3 rfl (by decide) rfl rfl ?_
  refine G_iconst (v := nI 0) (q := 5) dX6_longestIf_4 (by decide) rfl ?_
  refine G_istore (lv2 := [(0, .ref h), (1, .int (nI S)), (2, .int (nI 0)), (3, .int (-1)), (4, .int (nI 0))]) (q := 7) dX6_longestIf_5 (by decide) rfl rfl ?_
  have L7_1 : ∀ fu1 i : Nat, i ≤ n → n + 1 ≤ i + fu1 → GG X ({ frames := 1, cells := 0, slots := 0, locals := 21 }) cX6_longestIf 6 wsX6_longestIf RX6 false false Z (rI (nI (hbw (agoF day f) n S)) [(h, .inr (6, [.ref a, .int (nI n), .int day, .int (bI ak), .int ow])), (a, .inl (Z 0, 6, .inl f))]) 0 0 0 0 [(h, .inr (6, [.ref a, .int (nI n), .int day, .int (bI ak), .int ow])), (a, .inl (Z 0, 6, .inl f))] [(0, .ref h), (1, .int (nI S)), (2, .int (nI ((hb (agoF day f) S i).1))), (3, .int ((hb (agoF day f) S i).2)), (4, .int (nI i))] [] 7 := by
    intro fu1
    induction fu1 with
    | zero => intro i q1 q2; exact absurd q2 (by omega)
    | succ fu1 ih1 =>
      intro i hi1 hf1 
      refine G_iload (q := 9) dX6_longestIf_7 4 rfl rfl ?_
      refine G_aload_n (q := 10) dX6_longestIf_9 rfl 0 rfl rfl ?_
      refine G_get (q := 13) dX6_longestIf_10 0 rfl (show vwCl[6]? = some (RX6, TX6, 5) from rfl) 1 (by decide) in_X6_longestIf_X6 fl_X6_longestIf_27 rfl rfl ?_
      refine G_icmp_geN (tgt := 56) (q := 16) dX6_longestIf_13 (by decide) rfl (by omega) (by omega) (fun c13 => ?_) (fun c13 => ?_)
      · have e9 : n = i := by omega
        subst e9
        refine G_iload_n (q := 57) dX6_longestIf_56 rfl 2 rfl rfl ?_
        refine GG.of (ws2 := [(h, .inr (6, [.ref a, .int (nI n), .int day, .int (bI ak), .int ow])), (a, .inl (Z 0, 6, .inl f))]) (lv2 := [(0, .ref h), (1, .int (nI S)), (2, .int (nI ((hb (agoF day f) S n).1))), (3, .int ((hb (agoF day f) S n).2)), (4, .int (nI n))]) (st2 := [.int (nI (hbw (agoF day f) n S))]) (rfl) (rfl) (st_c (vi_c (show nI ((hb (agoF day f) S n).1) = nI (hbw (agoF day f) n S) from rfl)) (rfl)) ?_
        exact G_iret dX6_longestIf_57 rfl rfl ⟨rfl, rfl⟩
      · refine G_iload_n (q := 17) dX6_longestIf_16 rfl 1 rfl rfl ?_
        refine G_iload (q := 19) dX6_longestIf_17 4 rfl rfl ?_
        refine G_ishrN (a := S) (b := i) (q := 20) dX6_longestIf_19 (by omega) (by omega) rfl ?_
        refine G_iconst (v := nI 1) (q := 21) dX6_longestIf_20 (by decide) rfl ?_
        refine G_iandN (a := (S >>> i)) (b := 1) (q := 22) dX6_longestIf_21 rfl ?_
        refine G_iconst (v := nI 1) (q := 23) dX6_longestIf_22 (by decide) rfl ?_
        have J36_2 : GG X ({ frames := 1, cells := 0, slots := 0, locals := 21 }) cX6_longestIf 6 wsX6_longestIf RX6 false false Z (rI (nI (hbw (agoF day f) n S)) [(h, .inr (6, [.ref a, .int (nI n), .int day, .int (bI ak), .int ow])), (a, .inl (Z 0, 6, .inl f))]) 0 0 0 0 [(h, .inr (6, [.ref a, .int (nI n), .int day, .int (bI ak), .int ow])), (a, .inl (Z 0, 6, .inl f))] [(0, .ref h), (1, .int (nI S)), (2, .int (nI ((hb (agoF day f) S i).1))), (3, .int ((hb (agoF day f) S i).2)), (4, .int (nI i))] [.int (agoS (agoF day f) S i)] 36 := by
          refine G_istore (lv2 := [(0, .ref h), (1, .int (nI S)), (2, .int (nI ((hb (agoF day f) S i).1))), (3, .int ((hb (agoF day f) S i).2)), (4, .int (nI i)), (5, .int (agoS (agoF day f) S i))]) (q := 38) dX6_longestIf_36 (by decide) rfl rfl ?_
          refine G_iload (q := 40) dX6_longestIf_38 5 rfl rfl ?_
          refine G_iload_n (q := 41) dX6_longestIf_40 rfl 3 rfl rfl ?_
          refine G_icmp_le (tgt := 50) (q := 44) dX6_longestIf_41 (by decide) rfl (fun c41 => ?_) (fun c41 => ?_)
          · refine G_iincN (x := i) (d := 1) (lv2 := [(0, .ref h), (1, .int (nI S)), (2, .int (nI ((hb (agoF day f) S i).1))), (3, .int ((hb (agoF day f) S i).2)), (4, .int (nI (i + 1))), (5, .int (agoS (agoF day f) S i))]) (q := 53) dX6_longestIf_50 4 rfl (by decide) (by decide) rfl rfl ?_
            refine G_goto (q := 7) dX6_longestIf_53 (by decide) ?_
            refine GG.pick (lv2 := [(0, .ref h), (1, .int (nI S)), (2, .int (nI ((hb (agoF day f) S i).1))), (3, .int ((hb (agoF day f) S i).2)), (4, .int (nI (i + 1)))]) [0, 1, 2, 3, 4] rfl ?_
            refine GG.of (ws2 := [(h, .inr (6, [.ref a, .int (nI n), .int day, .int (bI ak), .int ow])), (a, .inl (Z 0, 6, .inl f))]) (lv2 := [(0, .ref h), (1, .int (nI S)), (2, .int (nI ((hb (agoF day f) S (i + 1)).1))), (3, .int ((hb (agoF day f) S (i + 1)).2)), (4, .int (nI (i + 1)))]) (st2 := []) (rfl) (lv_c rfl (lv_c rfl (lv_c (vi_c (show nI ((hb (agoF day f) S i).1) = nI ((hb (agoF day f) S (i + 1)).1) from by first | rw [hb_le c41] | rw [hb_nle c41])) (lv_c (vi_c (show (hb (agoF day f) S i).2 = (hb (agoF day f) S (i + 1)).2 from by first | rw [hb_le c41] | rw [hb_nle c41])) (lv_c rfl (rfl)))))) (rfl) ?_
            exact ih1 (i + 1) (by omega) (by omega) 
          · refine G_iload (q := 46) dX6_longestIf_44 5 rfl rfl ?_
            refine G_istore_n (lv2 := [(0, .ref h), (1, .int (nI S)), (2, .int (nI ((hb (agoF day f) S i).1))), (3, .int (agoS (agoF day f) S i)), (4, .int (nI i)), (5, .int (agoS (agoF day f) S i))]) (q := 47) dX6_longestIf_46 rfl (by decide) rfl rfl ?_
            refine G_iload (q := 49) dX6_longestIf_47 4 rfl rfl ?_
            refine G_istore_n (lv2 := [(0, .ref h), (1, .int (nI S)), (2, .int (nI i)), (3, .int (agoS (agoF day f) S i)), (4, .int (nI i)), (5, .int (agoS (agoF day f) S i))]) (q := 50) dX6_longestIf_49 rfl (by decide) rfl rfl ?_
            refine G_iincN (x := i) (d := 1) (lv2 := [(0, .ref h), (1, .int (nI S)), (2, .int (nI i)), (3, .int (agoS (agoF day f) S i)), (4, .int (nI (i + 1))), (5, .int (agoS (agoF day f) S i))]) (q := 53) dX6_longestIf_50 4 rfl (by decide) (by decide) rfl rfl ?_
            refine G_goto (q := 7) dX6_longestIf_53 (by decide) ?_
            refine GG.pick (lv2 := [(0, .ref h), (1, .int (nI S)), (2, .int (nI i)), (3, .int (agoS (agoF day f) S i)), (4, .int (nI (i + 1)))]) [0, 1, 2, 3, 4] rfl ?_
            refine GG.of (ws2 := [(h, .inr (6, [.ref a, .int (nI n), .int day, .int (bI ak), .int ow])), (a, .inl (Z 0, 6, .inl f))]) (lv2 := [(0, .ref h), (1, .int (nI S)), (2, .int (nI ((hb (agoF day f) S (i + 1)).1))), (3, .int ((hb (agoF day f) S (i + 1)).2)), (4, .int (nI (i + 1)))]) (st2 := []) (rfl) (lv_c rfl (lv_c rfl (lv_c (vi_c (show nI i = nI ((hb (agoF day f) S (i + 1)).1) from by first | rw [hb_le c41] | rw [hb_nle c41])) (lv_c (vi_c (show agoS (agoF day f) S i = (hb (agoF day f) S (i + 1)).2 from by first | rw [hb_le c41] | rw [hb_nle c41])) (lv_c rfl (rfl)))))) (rfl) ?_
            exact ih1 (i + 1) (by omega) (by omega) 
        refine G_icmp_neN (tgt := 30) (q := 26) dX6_longestIf_23 (by decide) rfl (and1_lt _) (by omega) (fun c23 => ?_) (fun c23 => ?_)
        · refine G_aload_n (q := 31) dX6_longestIf_30 rfl 0 rfl rfl ?_
          refine G_iload (q := 33) dX6_longestIf_31 4 rfl rfl ?_
          refine G_callVP (As := [.int (nI i)]) (rest := []) (st2 := [.int (agoF day f i)]) (q := 36) dX6_longestIf_33 [0, 1] (ct_X6_ago Z h a f n day ak ow i (by omega) (by omega)) (fun h => h) cs_X6_ago gX6_longestIf_X6_ago rfl ⟨Nat.le_of_ble_eq_true rfl, Nat.le_of_ble_eq_true rfl⟩ ⟨rfl, rfl⟩ 0 rfl (show vwCl[6]? = some (RX6, TX6, 5) from rfl) rfl (by decide) rfl rfl (Nat.le_of_ble_eq_true rfl) ⟨by decide, by decide⟩ rfl rfl ?_
          refine GG.of (ws2 := [(h, .inr (6, [.ref a, .int (nI n), .int day, .int (bI ak), .int ow])), (a, .inl (Z 0, 6, .inl f))]) (lv2 := [(0, .ref h), (1, .int (nI S)), (2, .int (nI ((hb (agoF day f) S i).1))), (3, .int ((hb (agoF day f) S i).2)), (4, .int (nI i))]) (st2 := [.int (agoS (agoF day f) S i)]) (rfl) (rfl) (st_c (vi_c (show agoF day f i = agoS (agoF day f) S i from by first | exact (if_pos c23).symm | exact (if_neg c23).symm)) (rfl)) ?_
          exact J36_2
        · refine G_iconst (v := nI 0) (q := 27) dX6_longestIf_26 (by decide) rfl ?_
          refine G_goto (q := 36) dX6_longestIf_27 (by decide) ?_
          refine GG.of (ws2 := [(h, .inr (6, [.ref a, .int (nI n), .int day, .int (bI ak), .int ow])), (a, .inl (Z 0, 6, .inl f))]) (lv2 := [(0, .ref h), (1, .int (nI S)), (2, .int (nI ((hb (agoF day f) S i).1))), (3, .int ((hb (agoF day f) S i).2)), (4, .int (nI i))]) (st2 := [.int (agoS (agoF day f) S i)]) (rfl) (rfl) (st_c (vi_c (show nI 0 = agoS (agoF day f) S i from by first | exact (if_pos c23).symm | exact (if_neg c23).symm)) (rfl)) ?_
          exact J36_2
  refine GG.of (ws2 := [(h, .inr (6, [.ref a, .int (nI n), .int day, .int (bI ak), .int ow])), (a, .inl (Z 0, 6, .inl f))]) (lv2 := [(0, .ref h), (1, .int (nI S)), (2, .int (nI ((hb (agoF day f) S 0).1))), (3, .int ((hb (agoF day f) S 0).2)), (4, .int (nI 0))]) (st2 := []) (rfl) (lv_c rfl (lv_c rfl (lv_c (vi_c (show nI 0 = nI ((hb (agoF day f) S 0).1) from rfl)) (lv_c (vi_c (show -1 = (hb (agoF day f) S 0).2 from rfl)) (lv_c rfl (rfl)))))) (rfl) ?_
  exact L7_1 (n + 1) (0) (Nat.zero_le _) (by omega) 
theorem cs_X6_passNoon : CS yX6_passNoon wsX6_passNoon cX6_passNoon 1 none 0 := ⟨⟨_, rfl⟩, by decide +kernel, by decide +kernel, by decide +kernel⟩
theorem fl_X6_passNoon_34 : Cond.fieldLink RX6 34 (TX6 2).1 (TX6 2).2.1 (TX6 2).2.2.1 ∈ wsX6_passNoon := by decide +kernel
theorem fl_X6_passNoon_37 : Cond.fieldLink RX6 37 (TX6 3).1 (TX6 3).2.1 (TX6 3).2.2.1 ∈ wsX6_passNoon := by decide +kernel
theorem fl_X6_passNoon_41 : Cond.fieldLink RX6 41 (TX6 4).1 (TX6 4).2.1 (TX6 4).2.2.1 ∈ wsX6_passNoon := by decide +kernel
theorem in_X6_passNoon_X6 : ∀ w ∈ u_ws RX6 TX6 5, w ∈ wsX6_passNoon := by decide +kernel
set_option maxHeartbeats 4000000 in
set_option maxRecDepth 100000 in
theorem ct_X6_passNoon (Z : Nat → ClassId) (h : Nat) (a : Nat) (f : Nat → Int32) (n : Nat) (day : Int32) (ak : Bool) (ow : Int32) (hn : n ≤ 6): Ct false yX6_passNoon wsX6_passNoon ({ frames := 2, cells := 0, slots := 0, locals := 46 }) [.ref h] Z [(h, .inr (6, [.ref a, .int (nI n), .int day, .int (bI ak), .int ow])), (a, .inl (Z 0, 6, .inl f))] (rV [(h, .inr (6, [.ref a, .int (nI n), .int (day + nI 1), .int (bI false), .int (if ak = true then nI (hbw (agoF day f) n 0) else ow)])), (a, .inl (Z 0, 6, .inl f))]) 0 0 := by
  refine Ct_of (cc := cX6_passNoon) (maxL := 1) (ret := none) (own := RX6) false false (by decide +kernel) rfl rfl (by decide) (fun v w h => by rw [h.1]; rfl) (Nat.le_of_ble_eq_true rfl) (fun X => ?_)
  show GG X _ _ _ _ _ _ _ _ _ _ _ _ _ _ [(0, .ref h)] _ _
  refine G_aload_n (q := 1) dX6_passNoon_0 rfl 0 rfl rfl ?_
  refine G_get (q := 4) dX6_passNoon_1 0 rfl (show vwCl[6]? = some (RX6, TX6, 5) from rfl) 3 (by decide) in_X6_passNoon_X6 fl_X6_passNoon_37 rfl rfl ?_
  refine G_if_eqB (tgt := 16) (q := 7) dX6_passNoon_4 (by decide) rfl (fun c4 => ?_) (fun c4 => ?_)
  · refine G_aload_n (q := 17) dX6_passNoon_16 rfl 0 rfl rfl ?_
    refine G_iconst (v := nI 0) (q := 18) dX6_passNoon_17 (by decide) rfl ?_
    refine G_put (ws2 := [(h, .inr (6, [.ref a, .int (nI n), .int day, .int (nI 0), .int ow])), (a, .inl (Z 0, 6, .inl f))]) (q := 21) dX6_passNoon_18 0 rfl (show vwCl[6]? = some (RX6, TX6, 5) from rfl) cf_X6 3 (by decide) in_X6_passNoon_X6 fl_X6_passNoon_37 rfl (by decide) rfl (by simp only [List.length_cons, List.length_nil]; decide) rfl rfl ?_
    refine G_aload_n (q := 22) dX6_passNoon_21 rfl 0 rfl rfl ?_
    refine G_dup (q := 23) dX6_passNoon_22 rfl rfl ?_
    refine G_get (q := 26) dX6_passNoon_23 0 rfl (show vwCl[6]? = some (RX6, TX6, 5) from rfl) 2 (by decide) in_X6_passNoon_X6 fl_X6_passNoon_34 rfl rfl ?_
    refine G_iconst (v := nI 1) (q := 27) dX6_passNoon_26 (by decide) rfl ?_
    refine G_iadd (q := 28) dX6_passNoon_27 rfl ?_
    refine G_put (ws2 := [(h, .inr (6, [.ref a, .int (nI n), .int (day + (nI 1)), .int (nI 0), .int ow])), (a, .inl (Z 0, 6, .inl f))]) (q := 31) dX6_passNoon_28 0 rfl (show vwCl[6]? = some (RX6, TX6, 5) from rfl) cf_X6 2 (by decide) in_X6_passNoon_X6 fl_X6_passNoon_34 rfl (rfl) rfl (by simp only [List.length_cons, List.length_nil]; decide) rfl rfl ?_
    refine GG.of (ws2 := [(h, .inr (6, [.ref a, .int (nI n), .int (day + nI 1), .int (bI false), .int (if ak = true then nI (hbw (agoF day f) n 0) else ow)])), (a, .inl (Z 0, 6, .inl f))]) (lv2 := [(0, .ref h)]) (st2 := []) (ws_c (by subst c4; rfl) (ws_c (rfl) (rfl))) (rfl) (rfl) ?_
    exact G_ret dX6_passNoon_31 rfl rfl ⟨rfl, rfl⟩
  · refine G_aload_n (q := 8) dX6_passNoon_7 rfl 0 rfl rfl ?_
    refine G_aload_n (q := 9) dX6_passNoon_8 rfl 0 rfl rfl ?_
    refine G_iconst (v := nI 0) (q := 10) dX6_passNoon_9 (by decide) rfl ?_
    refine G_callVP (As := [.int (nI 0)]) (rest := [.ref h]) (st2 := [.int (nI (hbw (agoF day f) n 0)), .ref h]) (q := 13) dX6_passNoon_10 [0, 1] (ct_X6_longestIf Z h a f n day ak ow 0 (by omega) (by omega)) (fun h => h) cs_X6_longestIf gX6_passNoon_X6_longestIf rfl ⟨Nat.le_of_ble_eq_true rfl, Nat.le_of_ble_eq_true rfl⟩ ⟨rfl, rfl⟩ 0 rfl (show vwCl[6]? = some (RX6, TX6, 5) from rfl) rfl (by decide) rfl rfl (Nat.le_of_ble_eq_true rfl) ⟨by decide, by decide⟩ rfl rfl ?_
    refine G_put (ws2 := [(h, .inr (6, [.ref a, .int (nI n), .int day, .int (bI ak), .int (nI (hbw (agoF day f) n 0))])), (a, .inl (Z 0, 6, .inl f))]) (q := 16) dX6_passNoon_13 0 rfl (show vwCl[6]? = some (RX6, TX6, 5) from rfl) cf_X6 4 (by decide) in_X6_passNoon_X6 fl_X6_passNoon_41 rfl (rfl) rfl (by simp only [List.length_cons, List.length_nil]; decide) rfl rfl ?_
    refine G_aload_n (q := 17) dX6_passNoon_16 rfl 0 rfl rfl ?_
    refine G_iconst (v := nI 0) (q := 18) dX6_passNoon_17 (by decide) rfl ?_
    refine G_put (ws2 := [(h, .inr (6, [.ref a, .int (nI n), .int day, .int (nI 0), .int (nI (hbw (agoF day f) n 0))])), (a, .inl (Z 0, 6, .inl f))]) (q := 21) dX6_passNoon_18 0 rfl (show vwCl[6]? = some (RX6, TX6, 5) from rfl) cf_X6 3 (by decide) in_X6_passNoon_X6 fl_X6_passNoon_37 rfl (by decide) rfl (by simp only [List.length_cons, List.length_nil]; decide) rfl rfl ?_
    refine G_aload_n (q := 22) dX6_passNoon_21 rfl 0 rfl rfl ?_
    refine G_dup (q := 23) dX6_passNoon_22 rfl rfl ?_
    refine G_get (q := 26) dX6_passNoon_23 0 rfl (show vwCl[6]? = some (RX6, TX6, 5) from rfl) 2 (by decide) in_X6_passNoon_X6 fl_X6_passNoon_34 rfl rfl ?_
    refine G_iconst (v := nI 1) (q := 27) dX6_passNoon_26 (by decide) rfl ?_
    refine G_iadd (q := 28) dX6_passNoon_27 rfl ?_
    refine G_put (ws2 := [(h, .inr (6, [.ref a, .int (nI n), .int (day + (nI 1)), .int (nI 0), .int (nI (hbw (agoF day f) n 0))])), (a, .inl (Z 0, 6, .inl f))]) (q := 31) dX6_passNoon_28 0 rfl (show vwCl[6]? = some (RX6, TX6, 5) from rfl) cf_X6 2 (by decide) in_X6_passNoon_X6 fl_X6_passNoon_34 rfl (rfl) rfl (by simp only [List.length_cons, List.length_nil]; decide) rfl rfl ?_
    refine GG.of (ws2 := [(h, .inr (6, [.ref a, .int (nI n), .int (day + nI 1), .int (bI false), .int (if ak = true then nI (hbw (agoF day f) n 0) else ow)])), (a, .inl (Z 0, 6, .inl f))]) (lv2 := [(0, .ref h)]) (st2 := []) (ws_c (by subst c4; rfl) (ws_c (rfl) (rfl))) (rfl) (rfl) ?_
    exact G_ret dX6_passNoon_31 rfl rfl ⟨rfl, rfl⟩
theorem cs_X6_heirs : CS yX6_heirs wsX6_heirs cX6_heirs 3 (some .int) 0 := ⟨⟨_, rfl⟩, by decide +kernel, by decide +kernel, by decide +kernel⟩
theorem fl_X6_heirs_27 : Cond.fieldLink RX6 27 (TX6 1).1 (TX6 1).2.1 (TX6 1).2.2.1 ∈ wsX6_heirs := by decide +kernel
theorem in_X6_heirs_X6 : ∀ w ∈ u_ws RX6 TX6 5, w ∈ wsX6_heirs := by decide +kernel
set_option maxHeartbeats 4000000 in
set_option maxRecDepth 100000 in
theorem ct_X6_heirs (Z : Nat → ClassId) (h : Nat) (a : Nat) (f : Nat → Int32) (n : Nat) (day : Int32) (ak : Bool) (ow : Int32) (hn : n ≤ 6) (h0 : 0 < n): Ct false yX6_heirs wsX6_heirs ({ frames := 2, cells := 0, slots := 0, locals := 46 }) [.ref h] Z [(h, .inr (6, [.ref a, .int (nI n), .int day, .int (bI ak), .int ow])), (a, .inl (Z 0, 6, .inl f))] (rI (nI (heirsN (agoF day f) n n)) [(h, .inr (6, [.ref a, .int (nI n), .int day, .int (bI ak), .int ow])), (a, .inl (Z 0, 6, .inl f))]) 0 0 := by
  refine Ct_of (cc := cX6_heirs) (maxL := 3) (ret := (some .int)) (own := RX6) false false (by decide +kernel) rfl rfl (by decide) (fun v w h => by rw [h.1]; exact ⟨_, rfl, rfl⟩) (Nat.le_of_ble_eq_true rfl) (fun X => ?_)
  show GG X _ _ _ _ _ _ _ _ _ _ _ _ _ _ [(0, .ref h)] _ _
  refine G_iconst (v := nI 0) (q := 1) dX6_heirs_0 (by decide) rfl ?_
  refine G_istore_n (lv2 := [(0, .ref h), (1, .int (nI 0))]) (q := 2) dX6_heirs_1 rfl (by decide) rfl rfl ?_
  refine G_iconst (v := nI 0) (q := 3) dX6_heirs_2 (by decide) rfl ?_
  refine G_istore_n (lv2 := [(0, .ref h), (1, .int (nI 0)), (2, .int (nI 0))]) (q := 4) dX6_heirs_3 rfl (by decide) rfl rfl ?_
  have L4_1 : ∀ fu1 i : Nat, i ≤ n → n + 1 ≤ i + fu1 → GG X ({ frames := 2, cells := 0, slots := 0, locals := 46 }) cX6_heirs 3 wsX6_heirs RX6 false false Z (rI (nI (heirsN (agoF day f) n n)) [(h, .inr (6, [.ref a, .int (nI n), .int day, .int (bI ak), .int ow])), (a, .inl (Z 0, 6, .inl f))]) 0 0 0 0 [(h, .inr (6, [.ref a, .int (nI n), .int day, .int (bI ak), .int ow])), (a, .inl (Z 0, 6, .inl f))] [(0, .ref h), (1, .int (nI (heirsN (agoF day f) n i))), (2, .int (nI i))] [] 4 := by
    intro fu1
    induction fu1 with
    | zero => intro i q1 q2; exact absurd q2 (by omega)
    | succ fu1 ih1 =>
      intro i hi1 hf1 
      refine G_iload_n (q := 5) dX6_heirs_4 rfl 2 rfl rfl ?_
      refine G_aload_n (q := 6) dX6_heirs_5 rfl 0 rfl rfl ?_
      refine G_get (q := 9) dX6_heirs_6 0 rfl (show vwCl[6]? = some (RX6, TX6, 5) from rfl) 1 (by decide) in_X6_heirs_X6 fl_X6_heirs_27 rfl rfl ?_
      refine G_icmp_geN (tgt := 30) (q := 12) dX6_heirs_9 (by decide) rfl (by omega) (by omega) (fun c9 => ?_) (fun c9 => ?_)
      · have e9 : n = i := by omega
        subst e9
        refine G_iload_n (q := 31) dX6_heirs_30 rfl 1 rfl rfl ?_
        exact G_iret dX6_heirs_31 rfl rfl ⟨rfl, rfl⟩
      · refine G_iload_n (q := 13) dX6_heirs_12 rfl 1 rfl rfl ?_
        refine G_iconst (v := nI 1) (q := 14) dX6_heirs_13 (by decide) rfl ?_
        refine G_aload_n (q := 15) dX6_heirs_14 rfl 0 rfl rfl ?_
        refine G_iconst (v := nI 1) (q := 16) dX6_heirs_15 (by decide) rfl ?_
        refine G_iload_n (q := 17) dX6_heirs_16 rfl 2 rfl rfl ?_
        refine G_ishlN (a := 1) (b := i) (q := 18) dX6_heirs_17 (by omega) (sh_ok (by omega)) rfl ?_
        refine G_callVP (As := [.int (nI (1 <<< i))]) (rest := [.int (nI 1), .int (nI (heirsN (agoF day f) n i))]) (st2 := [.int (nI (hbw (agoF day f) n (1 <<< i))), .int (nI 1), .int (nI (heirsN (agoF day f) n i))]) (q := 21) dX6_heirs_18 [0, 1] (ct_X6_longestIf Z h a f n day ak ow (1 <<< i) (by omega) (sh6 (by omega))) (fun h => h) cs_X6_longestIf gX6_heirs_X6_longestIf rfl ⟨Nat.le_of_ble_eq_true rfl, Nat.le_of_ble_eq_true rfl⟩ ⟨rfl, rfl⟩ 0 rfl (show vwCl[6]? = some (RX6, TX6, 5) from rfl) rfl (by decide) rfl rfl (Nat.le_of_ble_eq_true rfl) ⟨by decide, by decide⟩ rfl rfl ?_
        refine G_ishlN (a := 1) (b := (hbw (agoF day f) n (1 <<< i))) (q := 22) dX6_heirs_21 (by have h9 := hbw_lt (agoF day f) (1 <<< i) h0; omega) (sh_ok (by have h9 := hbw_lt (agoF day f) (1 <<< i) h0; omega)) rfl ?_
        refine G_iorN (a := (heirsN (agoF day f) n i)) (b := (1 <<< (hbw (agoF day f) n (1 <<< i)))) (q := 23) dX6_heirs_22 rfl ?_
        refine G_istore_n (lv2 := [(0, .ref h), (1, .int (nI ((heirsN (agoF day f) n i) ||| (1 <<< (hbw (agoF day f) n (1 <<< i)))))), (2, .int (nI i))]) (q := 24) dX6_heirs_23 rfl (by decide) rfl rfl ?_
        refine G_iincN (x := i) (d := 1) (lv2 := [(0, .ref h), (1, .int (nI ((heirsN (agoF day f) n i) ||| (1 <<< (hbw (agoF day f) n (1 <<< i)))))), (2, .int (nI (i + 1)))]) (q := 27) dX6_heirs_24 2 rfl (by decide) (by decide) rfl rfl ?_
        refine G_goto (q := 4) dX6_heirs_27 (by decide) ?_
        refine GG.of (ws2 := [(h, .inr (6, [.ref a, .int (nI n), .int day, .int (bI ak), .int ow])), (a, .inl (Z 0, 6, .inl f))]) (lv2 := [(0, .ref h), (1, .int (nI (heirsN (agoF day f) n (i + 1)))), (2, .int (nI (i + 1)))]) (st2 := []) (rfl) (lv_c rfl (lv_c (vi_c (show nI ((heirsN (agoF day f) n i) ||| (1 <<< (hbw (agoF day f) n (1 <<< i)))) = nI (heirsN (agoF day f) n (i + 1)) from rfl)) (lv_c rfl (rfl)))) (rfl) ?_
        exact ih1 (i + 1) (by omega) (by omega) 
  refine GG.of (ws2 := [(h, .inr (6, [.ref a, .int (nI n), .int day, .int (bI ak), .int ow])), (a, .inl (Z 0, 6, .inl f))]) (lv2 := [(0, .ref h), (1, .int (nI (heirsN (agoF day f) n 0))), (2, .int (nI 0))]) (st2 := []) (rfl) (lv_c rfl (lv_c (vi_c (show nI 0 = nI (heirsN (agoF day f) n 0) from rfl)) (lv_c rfl (rfl)))) (rfl) ?_
  exact L4_1 (n + 1) (0) (Nat.zero_le _) (by omega) 
theorem cs_J6_bitCount_0f7a4 : CS yJ6_bitCount_0f7a4 wsJ6_bitCount_0f7a4 cJ6_bitCount_0f7a4 1 (some .int) 1 := ⟨⟨_, rfl⟩, by decide +kernel, by decide +kernel, by decide +kernel⟩
set_option maxHeartbeats 4000000 in
set_option maxRecDepth 100000 in
theorem ct_J6_bitCount_0f7a4 (Z : Nat → ClassId) (x : Int32) : Ct false yJ6_bitCount_0f7a4 wsJ6_bitCount_0f7a4 ({ frames := 0, cells := 0, slots := 0, locals := 0 }) [.int x] Z [] (rI (bcE x) []) 0 0 := by
  refine Ct_of (cc := cJ6_bitCount_0f7a4) (maxL := 1) (ret := (some .int)) (own := RJ6) false false (by decide +kernel) rfl rfl (by decide) (fun v w h => by rw [h.1]; exact ⟨_, rfl, rfl⟩) (Nat.le_of_ble_eq_true rfl) (fun X => ?_)
  show GG X _ _ _ _ _ _ _ _ _ _ _ _ _ _ [(0, .int x)] _ _
  refine G_iload_n (q := 1) dJ6_bitCount_0f7a4_0 rfl 0 rfl rfl ?_
  refine G_iload_n (q := 2) dJ6_bitCount_0f7a4_1 rfl 0 rfl rfl ?_
  refine G_iconst (v := nI 1) (q := 3) dJ6_bitCount_0f7a4_2 (by decide) rfl ?_
  refine G_iushr (q := 4) dJ6_bitCount_0f7a4_3 rfl ?_
  refine G_ldcw (v := 1431655765) (q := 7) dJ6_bitCount_0f7a4_4 (by decide +kernel) rfl ?_
  refine G_top (y := nI 1431655765) (nu_lit 1431655765) ?_
  refine G_iand (q := 8) dJ6_bitCount_0f7a4_7 rfl ?_
  refine G_isub (q := 9) dJ6_bitCount_0f7a4_8 rfl ?_
  refine G_top (y := bc1 x) (rfl) ?_
  refine G_istore_n (lv2 := [(0, .int (bc1 x))]) (q := 10) dJ6_bitCount_0f7a4_9 rfl (by decide) rfl rfl ?_
  refine G_iload_n (q := 11) dJ6_bitCount_0f7a4_10 rfl 0 rfl rfl ?_
  refine G_ldcw (v := 858993459) (q := 14) dJ6_bitCount_0f7a4_11 (by decide +kernel) rfl ?_
  refine G_top (y := nI 858993459) (nu_lit 858993459) ?_
  refine G_iand (q := 15) dJ6_bitCount_0f7a4_14 rfl ?_
  refine G_iload_n (q := 16) dJ6_bitCount_0f7a4_15 rfl 0 rfl rfl ?_
  refine G_iconst (v := nI 2) (q := 17) dJ6_bitCount_0f7a4_16 (by decide) rfl ?_
  refine G_iushr (q := 18) dJ6_bitCount_0f7a4_17 rfl ?_
  refine G_ldcw (v := 858993459) (q := 21) dJ6_bitCount_0f7a4_18 (by decide +kernel) rfl ?_
  refine G_top (y := nI 858993459) (nu_lit 858993459) ?_
  refine G_iand (q := 22) dJ6_bitCount_0f7a4_21 rfl ?_
  refine G_iadd (q := 23) dJ6_bitCount_0f7a4_22 rfl ?_
  refine G_top (y := bc2 x) (rfl) ?_
  refine G_istore_n (lv2 := [(0, .int (bc2 x))]) (q := 24) dJ6_bitCount_0f7a4_23 rfl (by decide) rfl rfl ?_
  refine G_iload_n (q := 25) dJ6_bitCount_0f7a4_24 rfl 0 rfl rfl ?_
  refine G_iload_n (q := 26) dJ6_bitCount_0f7a4_25 rfl 0 rfl rfl ?_
  refine G_iconst (v := nI 4) (q := 27) dJ6_bitCount_0f7a4_26 (by decide) rfl ?_
  refine G_iushr (q := 28) dJ6_bitCount_0f7a4_27 rfl ?_
  refine G_iadd (q := 29) dJ6_bitCount_0f7a4_28 rfl ?_
  refine G_ldcw (v := 252645135) (q := 32) dJ6_bitCount_0f7a4_29 (by decide +kernel) rfl ?_
  refine G_top (y := nI 252645135) (nu_lit 252645135) ?_
  refine G_iand (q := 33) dJ6_bitCount_0f7a4_32 rfl ?_
  refine G_top (y := bc3 x) (rfl) ?_
  refine G_istore_n (lv2 := [(0, .int (bc3 x))]) (q := 34) dJ6_bitCount_0f7a4_33 rfl (by decide) rfl rfl ?_
  refine G_iload_n (q := 35) dJ6_bitCount_0f7a4_34 rfl 0 rfl rfl ?_
  refine G_iload_n (q := 36) dJ6_bitCount_0f7a4_35 rfl 0 rfl rfl ?_
  refine G_bipush (v := nI 8) (q := 38) dJ6_bitCount_0f7a4_36 (by decide) rfl ?_
  refine G_iushr (q := 39) dJ6_bitCount_0f7a4_38 rfl ?_
  refine G_iadd (q := 40) dJ6_bitCount_0f7a4_39 rfl ?_
  refine G_top (y := bc4 x) (rfl) ?_
  refine G_istore_n (lv2 := [(0, .int (bc4 x))]) (q := 41) dJ6_bitCount_0f7a4_40 rfl (by decide) rfl rfl ?_
  refine G_iload_n (q := 42) dJ6_bitCount_0f7a4_41 rfl 0 rfl rfl ?_
  refine G_iload_n (q := 43) dJ6_bitCount_0f7a4_42 rfl 0 rfl rfl ?_
  refine G_bipush (v := nI 16) (q := 45) dJ6_bitCount_0f7a4_43 (by decide) rfl ?_
  refine G_iushr (q := 46) dJ6_bitCount_0f7a4_45 rfl ?_
  refine G_iadd (q := 47) dJ6_bitCount_0f7a4_46 rfl ?_
  refine G_top (y := bc5 x) (rfl) ?_
  refine G_istore_n (lv2 := [(0, .int (bc5 x))]) (q := 48) dJ6_bitCount_0f7a4_47 rfl (by decide) rfl rfl ?_
  refine G_iload_n (q := 49) dJ6_bitCount_0f7a4_48 rfl 0 rfl rfl ?_
  refine G_bipush (v := nI 63) (q := 51) dJ6_bitCount_0f7a4_49 (by decide) rfl ?_
  refine G_iand (q := 52) dJ6_bitCount_0f7a4_51 rfl ?_
  refine GG.of (ws2 := []) (lv2 := [(0, .int (bc5 x))]) (st2 := [.int (bcE x)]) (rfl) (rfl) (st_c (vi_c (show (bc5 x) &&& (nI 63) = bcE x from rfl)) (rfl)) ?_
  exact G_iret dJ6_bitCount_0f7a4_52 rfl rfl ⟨rfl, rfl⟩
theorem ct_J6_bitCount_0f7a4_n (Z : Nat → ClassId) (x : Nat) (hx : x < 64) : Ct false yJ6_bitCount_0f7a4 wsJ6_bitCount_0f7a4 ({ frames := 0, cells := 0, slots := 0, locals := 0 }) [.int (nI x)] Z [] (rI (nI (pc6 x)) []) 0 0 := by
  rw [← bcE_n x hx]
  exact ct_J6_bitCount_0f7a4 Z (nI x)
theorem cs_X6_fewestFor : CS yX6_fewestFor wsX6_fewestFor cX6_fewestFor 6 (some .int) 1 := ⟨⟨_, rfl⟩, by decide +kernel, by decide +kernel, by decide +kernel⟩
theorem fl_X6_fewestFor_27 : Cond.fieldLink RX6 27 (TX6 1).1 (TX6 1).2.1 (TX6 1).2.2.1 ∈ wsX6_fewestFor := by decide +kernel
theorem fl_X6_fewestFor_37 : Cond.fieldLink RX6 37 (TX6 3).1 (TX6 3).2.1 (TX6 3).2.2.1 ∈ wsX6_fewestFor := by decide +kernel
theorem in_X6_fewestFor_X6 : ∀ w ∈ u_ws RX6 TX6 5, w ∈ wsX6_fewestFor := by decide +kernel
set_option maxHeartbeats 4000000 in
set_option maxRecDepth 100000 in
theorem ct_X6_fewestFor (Z : Nat → ClassId) (h : Nat) (a : Nat) (f : Nat → Int32) (n : Nat) (day : Int32) (ak : Bool) (ow : Int32) (j : Nat) (hn : n ≤ 6) (hj : j < n): Ct false yX6_fewestFor wsX6_fewestFor ({ frames := 2, cells := 0, slots := 0, locals := 46 }) [.ref h, .int (nI j)] Z [(h, .inr (6, [.ref a, .int (nI n), .int day, .int (bI ak), .int ow])), (a, .inl (Z 0, 6, .inl f))] (rI (oI (fewN (agoF day f) n ak j (1 <<< n))) [(h, .inr (6, [.ref a, .int (nI n), .int day, .int (bI ak), .int ow])), (a, .inl (Z 0, 6, .inl f))]) 0 0 := by
  refine Ct_of (cc := cX6_fewestFor) (maxL := 6) (ret := (some .int)) (own := RX6) false false (by decide +kernel) rfl rfl (by decide) (fun v w h => by rw [h.1]; exact ⟨_, rfl, rfl⟩) (Nat.le_of_ble_eq_true rfl) (fun X => ?_)
  show GG X _ _ _ _ _ _ _ _ _ _ _ _ _ _ [(0, .ref h), (1, .int (nI j))] _ _
  refine G_bipush (v := -4) (q := 2) dX6_fewestFor_0 (by decide) rfl ?_
  refine G_istore_n (lv2 := [(0, .ref h), (1, .int (nI j)), (2, .int (-4))]) (q := 3) dX6_fewestFor_2 rfl (by decide) rfl rfl ?_
  refine G_iconst (v := nI 0) (q := 4) dX6_fewestFor_3 (by decide) rfl ?_
  refine G_istore_n (lv2 := [(0, .ref h), (1, .int (nI j)), (2, .int (-4)), (3, .int (nI 0))]) (q := 5) dX6_fewestFor_4 rfl (by decide) rfl rfl ?_
  have L5_1 : ∀ fu1 m : Nat, m ≤ (1 <<< n) → (1 <<< n) + 1 ≤ m + fu1 → GG X ({ frames := 2, cells := 0, slots := 0, locals := 46 }) cX6_fewestFor 6 wsX6_fewestFor RX6 false false Z (rI (oI (fewN (agoF day f) n ak j (1 <<< n))) [(h, .inr (6, [.ref a, .int (nI n), .int day, .int (bI ak), .int ow])), (a, .inl (Z 0, 6, .inl f))]) 0 0 0 0 [(h, .inr (6, [.ref a, .int (nI n), .int day, .int (bI ak), .int ow])), (a, .inl (Z 0, 6, .inl f))] [(0, .ref h), (1, .int (nI j)), (2, .int (oI (fewN (agoF day f) n ak j m))), (3, .int (nI m))] [] 5 := by
    intro fu1
    induction fu1 with
    | zero => intro m q1 q2; exact absurd q2 (by omega)
    | succ fu1 ih1 =>
      intro m hi1 hf1 
      have h64 := sh6e hn
      refine G_iload_n (q := 6) dX6_fewestFor_5 rfl 3 rfl rfl ?_
      refine G_iconst (v := nI 1) (q := 7) dX6_fewestFor_6 (by decide) rfl ?_
      refine G_aload_n (q := 8) dX6_fewestFor_7 rfl 0 rfl rfl ?_
      refine G_get (q := 11) dX6_fewestFor_8 0 rfl (show vwCl[6]? = some (RX6, TX6, 5) from rfl) 1 (by decide) in_X6_fewestFor_X6 fl_X6_fewestFor_27 rfl rfl ?_
      refine G_ishlN (a := 1) (b := n) (q := 12) dX6_fewestFor_11 (by omega) (sh_ok (by omega)) rfl ?_
      refine G_icmp_geN (tgt := 90) (q := 15) dX6_fewestFor_12 (by decide) rfl (by omega) (by omega) (fun c12 => ?_) (fun c12 => ?_)
      · have e9 : m = 1 <<< n := by omega
        subst e9
        refine G_iload_n (q := 91) dX6_fewestFor_90 rfl 2 rfl rfl ?_
        exact G_iret dX6_fewestFor_91 rfl rfl ⟨rfl, rfl⟩
      · refine G_iload_n (q := 16) dX6_fewestFor_15 rfl 3 rfl rfl ?_
        refine G_bipush (v := nI 64) (q := 18) dX6_fewestFor_16 (by decide) rfl ?_
        refine G_icmp_geN (tgt := 90) (q := 21) dX6_fewestFor_18 (by decide) rfl (by omega) (by omega) (fun c18 => ?_) (fun c18 => ?_)
        · exfalso; omega
        · refine G_aload_n (q := 22) dX6_fewestFor_21 rfl 0 rfl rfl ?_
          refine G_get (q := 25) dX6_fewestFor_22 0 rfl (show vwCl[6]? = some (RX6, TX6, 5) from rfl) 3 (by decide) in_X6_fewestFor_X6 fl_X6_fewestFor_37 rfl rfl ?_
          have J37_2 : GG X ({ frames := 2, cells := 0, slots := 0, locals := 46 }) cX6_fewestFor 6 wsX6_fewestFor RX6 false false Z (rI (oI (fewN (agoF day f) n ak j (1 <<< n))) [(h, .inr (6, [.ref a, .int (nI n), .int day, .int (bI ak), .int ow])), (a, .inl (Z 0, 6, .inl f))]) 0 0 0 0 [(h, .inr (6, [.ref a, .int (nI n), .int day, .int (bI ak), .int ow])), (a, .inl (Z 0, 6, .inl f))] [(0, .ref h), (1, .int (nI j)), (2, .int (oI (fewN (agoF day f) n ak j m))), (3, .int (nI m))] [.int (bI (ak || decide (m ≠ 0)))] 37 := by
            refine G_istore (lv2 := [(0, .ref h), (1, .int (nI j)), (2, .int (oI (fewN (agoF day f) n ak j m))), (3, .int (nI m)), (4, .int (bI (ak || decide (m ≠ 0))))]) (q := 39) dX6_fewestFor_37 (by decide) rfl rfl ?_
            have J61_3 : GG X ({ frames := 2, cells := 0, slots := 0, locals := 46 }) cX6_fewestFor 6 wsX6_fewestFor RX6 false false Z (rI (oI (fewN (agoF day f) n ak j (1 <<< n))) [(h, .inr (6, [.ref a, .int (nI n), .int day, .int (bI ak), .int ow])), (a, .inl (Z 0, 6, .inl f))]) 0 0 0 0 [(h, .inr (6, [.ref a, .int (nI n), .int day, .int (bI ak), .int ow])), (a, .inl (Z 0, 6, .inl f))] [(0, .ref h), (1, .int (nI j)), (2, .int (oI (fewN (agoF day f) n ak j m))), (3, .int (nI m)), (4, .int (bI (ak || decide (m ≠ 0))))] [.int (bI (fewer (fewN (agoF day f) n ak j m) m))] 61 := by
              refine G_istore (lv2 := [(0, .ref h), (1, .int (nI j)), (2, .int (oI (fewN (agoF day f) n ak j m))), (3, .int (nI m)), (4, .int (bI (ak || decide (m ≠ 0)))), (5, .int (bI (fewer (fewN (agoF day f) n ak j m) m)))]) (q := 63) dX6_fewestFor_61 (by decide) rfl rfl ?_
              refine G_iload (q := 65) dX6_fewestFor_63 4 rfl rfl ?_
              refine G_if_eqB (tgt := 84) (q := 68) dX6_fewestFor_65 (by decide) rfl (fun c65 => ?_) (fun c65 => ?_)
              · refine G_iincN (x := m) (d := 1) (lv2 := [(0, .ref h), (1, .int (nI j)), (2, .int (oI (fewN (agoF day f) n ak j m))), (3, .int (nI (m + 1))), (4, .int (bI (ak || decide (m ≠ 0)))), (5, .int (bI (fewer (fewN (agoF day f) n ak j m) m)))]) (q := 87) dX6_fewestFor_84 3 rfl (by decide) (by decide) rfl rfl ?_
                refine G_goto (q := 5) dX6_fewestFor_87 (by decide) ?_
                refine GG.pick (lv2 := [(0, .ref h), (1, .int (nI j)), (2, .int (oI (fewN (agoF day f) n ak j m))), (3, .int (nI (m + 1)))]) [0, 1, 2, 3] rfl ?_
                refine GG.of (ws2 := [(h, .inr (6, [.ref a, .int (nI n), .int day, .int (bI ak), .int ow])), (a, .inl (Z 0, 6, .inl f))]) (lv2 := [(0, .ref h), (1, .int (nI j)), (2, .int (oI (fewN (agoF day f) n ak j (m + 1)))), (3, .int (nI (m + 1)))]) (st2 := []) (rfl) (lv_c rfl (lv_c rfl (lv_c (vi_c (show oI (fewN (agoF day f) n ak j m) = oI (fewN (agoF day f) n ak j (m + 1)) from by first | rw [fewN_no1 c65] | rw [fewN_no2 c70] | rw [fewN_no3 c79] | rw [fewN_yes c65 c70 c79]; rfl)) (lv_c rfl (rfl))))) (rfl) ?_
                exact ih1 (m + 1) (by omega) (by omega) 
              · refine G_iload (q := 70) dX6_fewestFor_68 5 rfl rfl ?_
                refine G_if_eqB (tgt := 84) (q := 73) dX6_fewestFor_70 (by decide) rfl (fun c70 => ?_) (fun c70 => ?_)
                · refine G_iincN (x := m) (d := 1) (lv2 := [(0, .ref h), (1, .int (nI j)), (2, .int (oI (fewN (agoF day f) n ak j m))), (3, .int (nI (m + 1))), (4, .int (bI (ak || decide (m ≠ 0)))), (5, .int (bI (fewer (fewN (agoF day f) n ak j m) m)))]) (q := 87) dX6_fewestFor_84 3 rfl (by decide) (by decide) rfl rfl ?_
                  refine G_goto (q := 5) dX6_fewestFor_87 (by decide) ?_
                  refine GG.pick (lv2 := [(0, .ref h), (1, .int (nI j)), (2, .int (oI (fewN (agoF day f) n ak j m))), (3, .int (nI (m + 1)))]) [0, 1, 2, 3] rfl ?_
                  refine GG.of (ws2 := [(h, .inr (6, [.ref a, .int (nI n), .int day, .int (bI ak), .int ow])), (a, .inl (Z 0, 6, .inl f))]) (lv2 := [(0, .ref h), (1, .int (nI j)), (2, .int (oI (fewN (agoF day f) n ak j (m + 1)))), (3, .int (nI (m + 1)))]) (st2 := []) (rfl) (lv_c rfl (lv_c rfl (lv_c (vi_c (show oI (fewN (agoF day f) n ak j m) = oI (fewN (agoF day f) n ak j (m + 1)) from by first | rw [fewN_no1 c65] | rw [fewN_no2 c70] | rw [fewN_no3 c79] | rw [fewN_yes c65 c70 c79]; rfl)) (lv_c rfl (rfl))))) (rfl) ?_
                  exact ih1 (m + 1) (by omega) (by omega) 
                · refine G_aload_n (q := 74) dX6_fewestFor_73 rfl 0 rfl rfl ?_
                  refine G_iload_n (q := 75) dX6_fewestFor_74 rfl 3 rfl rfl ?_
                  refine G_callVP (As := [.int (nI m)]) (rest := []) (st2 := [.int (nI (hbw (agoF day f) n m))]) (q := 78) dX6_fewestFor_75 [0, 1] (ct_X6_longestIf Z h a f n day ak ow m (by omega) (by omega)) (fun h => h) cs_X6_longestIf gX6_fewestFor_X6_longestIf rfl ⟨Nat.le_of_ble_eq_true rfl, Nat.le_of_ble_eq_true rfl⟩ ⟨rfl, rfl⟩ 0 rfl (show vwCl[6]? = some (RX6, TX6, 5) from rfl) rfl (by decide) rfl rfl (Nat.le_of_ble_eq_true rfl) ⟨by decide, by decide⟩ rfl rfl ?_
                  refine G_iload_n (q := 79) dX6_fewestFor_78 rfl 1 rfl rfl ?_
                  refine G_icmp_neN (tgt := 84) (q := 82) dX6_fewestFor_79 (by decide) rfl (by have := hbw_lt (agoF day f) m (by omega : 0 < n); omega) (by omega) (fun c79 => ?_) (fun c79 => ?_)
                  · refine G_iincN (x := m) (d := 1) (lv2 := [(0, .ref h), (1, .int (nI j)), (2, .int (oI (fewN (agoF day f) n ak j m))), (3, .int (nI (m + 1))), (4, .int (bI (ak || decide (m ≠ 0)))), (5, .int (bI (fewer (fewN (agoF day f) n ak j m) m)))]) (q := 87) dX6_fewestFor_84 3 rfl (by decide) (by decide) rfl rfl ?_
                    refine G_goto (q := 5) dX6_fewestFor_87 (by decide) ?_
                    refine GG.pick (lv2 := [(0, .ref h), (1, .int (nI j)), (2, .int (oI (fewN (agoF day f) n ak j m))), (3, .int (nI (m + 1)))]) [0, 1, 2, 3] rfl ?_
                    refine GG.of (ws2 := [(h, .inr (6, [.ref a, .int (nI n), .int day, .int (bI ak), .int ow])), (a, .inl (Z 0, 6, .inl f))]) (lv2 := [(0, .ref h), (1, .int (nI j)), (2, .int (oI (fewN (agoF day f) n ak j (m + 1)))), (3, .int (nI (m + 1)))]) (st2 := []) (rfl) (lv_c rfl (lv_c rfl (lv_c (vi_c (show oI (fewN (agoF day f) n ak j m) = oI (fewN (agoF day f) n ak j (m + 1)) from by first | rw [fewN_no1 c65] | rw [fewN_no2 c70] | rw [fewN_no3 c79] | rw [fewN_yes c65 c70 c79]; rfl)) (lv_c rfl (rfl))))) (rfl) ?_
                    exact ih1 (m + 1) (by omega) (by omega) 
                  · refine G_iload_n (q := 83) dX6_fewestFor_82 rfl 3 rfl rfl ?_
                    refine G_istore_n (lv2 := [(0, .ref h), (1, .int (nI j)), (2, .int (nI m)), (3, .int (nI m)), (4, .int (bI (ak || decide (m ≠ 0)))), (5, .int (bI (fewer (fewN (agoF day f) n ak j m) m)))]) (q := 84) dX6_fewestFor_83 rfl (by decide) rfl rfl ?_
                    refine G_iincN (x := m) (d := 1) (lv2 := [(0, .ref h), (1, .int (nI j)), (2, .int (nI m)), (3, .int (nI (m + 1))), (4, .int (bI (ak || decide (m ≠ 0)))), (5, .int (bI (fewer (fewN (agoF day f) n ak j m) m)))]) (q := 87) dX6_fewestFor_84 3 rfl (by decide) (by decide) rfl rfl ?_
                    refine G_goto (q := 5) dX6_fewestFor_87 (by decide) ?_
                    refine GG.pick (lv2 := [(0, .ref h), (1, .int (nI j)), (2, .int (nI m)), (3, .int (nI (m + 1)))]) [0, 1, 2, 3] rfl ?_
                    refine GG.of (ws2 := [(h, .inr (6, [.ref a, .int (nI n), .int day, .int (bI ak), .int ow])), (a, .inl (Z 0, 6, .inl f))]) (lv2 := [(0, .ref h), (1, .int (nI j)), (2, .int (oI (fewN (agoF day f) n ak j (m + 1)))), (3, .int (nI (m + 1)))]) (st2 := []) (rfl) (lv_c rfl (lv_c rfl (lv_c (vi_c (show nI m = oI (fewN (agoF day f) n ak j (m + 1)) from by first | rw [fewN_no1 c65] | rw [fewN_no2 c70] | rw [fewN_no3 c79] | rw [fewN_yes c65 c70 c79]; rfl)) (lv_c rfl (rfl))))) (rfl) ?_
                    exact ih1 (m + 1) (by omega) (by omega) 
            rcases on_cases (fewN (agoF day f) n ak j m) with hfo | ⟨b, hfo⟩
            · have hq9 : oI (fewN (agoF day f) n ak j m) = -4 := by rw [hfo]; rfl
              refine G_iload_n (q := 40) dX6_fewestFor_39 rfl 2 rfl rfl ?_
              refine G_bipush (v := -4) (q := 42) dX6_fewestFor_40 (by decide) rfl ?_
              refine G_icmp_eqT (tgt := 56) dX6_fewestFor_42 (by decide) (hq9) ?_
              refine G_iconst (v := nI 1) (q := 57) dX6_fewestFor_56 (by decide) rfl ?_
              refine G_goto (q := 61) dX6_fewestFor_57 (by decide) ?_
              refine GG.of (ws2 := [(h, .inr (6, [.ref a, .int (nI n), .int day, .int (bI ak), .int ow])), (a, .inl (Z 0, 6, .inl f))]) (lv2 := [(0, .ref h), (1, .int (nI j)), (2, .int (oI (fewN (agoF day f) n ak j m))), (3, .int (nI m)), (4, .int (bI (ak || decide (m ≠ 0))))]) (st2 := [.int (bI (fewer (fewN (agoF day f) n ak j m) m))]) (rfl) (rfl) (st_c (vi_c (show nI 1 = bI (fewer (fewN (agoF day f) n ak j m) m) from by first | (rw [hfo]; exact (bI_f (dlt_f c53)).symm) | (rw [hfo]; exact (bI_t (dlt_t c53)).symm) | (rw [hfo]; rfl))) (rfl)) ?_
              exact J61_3
            · have hb9 := fewN_lt hfo
              have hq9 : ¬ oI (fewN (agoF day f) n ak j m) = -4 := by rw [hfo]; exact oI_ne (by omega)
              refine G_iload_n (q := 40) dX6_fewestFor_39 rfl 2 rfl rfl ?_
              refine G_bipush (v := -4) (q := 42) dX6_fewestFor_40 (by decide) rfl ?_
              refine G_icmp_eqF (tgt := 56) (q := 45) dX6_fewestFor_42 (by decide) rfl (hq9) ?_
              refine G_iload_n (q := 46) dX6_fewestFor_45 rfl 3 rfl rfl ?_
              refine G_callSP (As := [.int (nI m)]) (rest := []) (st2 := [.int (nI (pc6 m))]) (q := 49) dX6_fewestFor_46 [] (ct_J6_bitCount_0f7a4_n Z m (by omega)) (fun h => h) cs_J6_bitCount_0f7a4 gX6_fewestFor_J6_bitCount_0f7a4 ⟨Nat.le_of_ble_eq_true rfl, Nat.le_of_ble_eq_true rfl⟩ ⟨rfl, rfl⟩ rfl (by decide) rfl rfl (Nat.le_of_ble_eq_true rfl) ⟨by decide, by decide⟩ rfl rfl ?_
              refine G_iload_n (q := 50) dX6_fewestFor_49 rfl 2 rfl rfl ?_
              refine G_top (y := nI b) (by rw [hfo]; rfl) ?_
              refine G_callSP (As := [.int (nI b)]) (rest := [.int (nI (pc6 m))]) (st2 := [.int (nI (pc6 b)), .int (nI (pc6 m))]) (q := 53) dX6_fewestFor_50 [] (ct_J6_bitCount_0f7a4_n Z b (by omega)) (fun h => h) cs_J6_bitCount_0f7a4 gX6_fewestFor_J6_bitCount_0f7a4 ⟨Nat.le_of_ble_eq_true rfl, Nat.le_of_ble_eq_true rfl⟩ ⟨rfl, rfl⟩ rfl (by decide) rfl rfl (Nat.le_of_ble_eq_true rfl) ⟨by decide, by decide⟩ rfl rfl ?_
              refine G_icmp_geN (tgt := 60) (q := 56) dX6_fewestFor_53 (by decide) rfl (by have := pc6_le m; omega) (by have := pc6_le b; omega) (fun c53 => ?_) (fun c53 => ?_)
              · refine G_iconst (v := nI 0) (q := 61) dX6_fewestFor_60 (by decide) rfl ?_
                refine GG.of (ws2 := [(h, .inr (6, [.ref a, .int (nI n), .int day, .int (bI ak), .int ow])), (a, .inl (Z 0, 6, .inl f))]) (lv2 := [(0, .ref h), (1, .int (nI j)), (2, .int (oI (fewN (agoF day f) n ak j m))), (3, .int (nI m)), (4, .int (bI (ak || decide (m ≠ 0))))]) (st2 := [.int (bI (fewer (fewN (agoF day f) n ak j m) m))]) (rfl) (rfl) (st_c (vi_c (show nI 0 = bI (fewer (fewN (agoF day f) n ak j m) m) from by first | (rw [hfo]; exact (bI_f (dlt_f c53)).symm) | (rw [hfo]; exact (bI_t (dlt_t c53)).symm) | (rw [hfo]; rfl))) (rfl)) ?_
                exact J61_3
              · refine G_iconst (v := nI 1) (q := 57) dX6_fewestFor_56 (by decide) rfl ?_
                refine G_goto (q := 61) dX6_fewestFor_57 (by decide) ?_
                refine GG.of (ws2 := [(h, .inr (6, [.ref a, .int (nI n), .int day, .int (bI ak), .int ow])), (a, .inl (Z 0, 6, .inl f))]) (lv2 := [(0, .ref h), (1, .int (nI j)), (2, .int (oI (fewN (agoF day f) n ak j m))), (3, .int (nI m)), (4, .int (bI (ak || decide (m ≠ 0))))]) (st2 := [.int (bI (fewer (fewN (agoF day f) n ak j m) m))]) (rfl) (rfl) (st_c (vi_c (show nI 1 = bI (fewer (fewN (agoF day f) n ak j m) m) from by first | (rw [hfo]; exact (bI_f (dlt_f c53)).symm) | (rw [hfo]; exact (bI_t (dlt_t c53)).symm) | (rw [hfo]; rfl))) (rfl)) ?_
                exact J61_3
          refine G_if_neB (tgt := 32) (q := 28) dX6_fewestFor_25 (by decide) rfl (fun c25 => ?_) (fun c25 => ?_)
          · refine G_iconst (v := nI 1) (q := 33) dX6_fewestFor_32 (by decide) rfl ?_
            refine G_goto (q := 37) dX6_fewestFor_33 (by decide) ?_
            refine GG.of (ws2 := [(h, .inr (6, [.ref a, .int (nI n), .int day, .int (bI ak), .int ow])), (a, .inl (Z 0, 6, .inl f))]) (lv2 := [(0, .ref h), (1, .int (nI j)), (2, .int (oI (fewN (agoF day f) n ak j m))), (3, .int (nI m))]) (st2 := [.int (bI (ak || decide (m ≠ 0)))]) (rfl) (rfl) (st_c (vi_c (show nI 1 = bI (ak || decide (m ≠ 0)) from by simp [bI_true, bI_false, c12, c18, c25])) (rfl)) ?_
            exact J37_2
          · refine G_iload_n (q := 29) dX6_fewestFor_28 rfl 3 rfl rfl ?_
            refine G_if_eqN (tgt := 36) (q := 32) dX6_fewestFor_29 (by decide) rfl (by omega) (fun c29 => ?_) (fun c29 => ?_)
            · refine G_iconst (v := nI 0) (q := 37) dX6_fewestFor_36 (by decide) rfl ?_
              refine GG.of (ws2 := [(h, .inr (6, [.ref a, .int (nI n), .int day, .int (bI ak), .int ow])), (a, .inl (Z 0, 6, .inl f))]) (lv2 := [(0, .ref h), (1, .int (nI j)), (2, .int (oI (fewN (agoF day f) n ak j m))), (3, .int (nI m))]) (st2 := [.int (bI (ak || decide (m ≠ 0)))]) (rfl) (rfl) (st_c (vi_c (show nI 0 = bI (ak || decide (m ≠ 0)) from by simp [bI_true, bI_false, c12, c18, c25, c29])) (rfl)) ?_
              exact J37_2
            · refine G_iconst (v := nI 1) (q := 33) dX6_fewestFor_32 (by decide) rfl ?_
              refine G_goto (q := 37) dX6_fewestFor_33 (by decide) ?_
              refine GG.of (ws2 := [(h, .inr (6, [.ref a, .int (nI n), .int day, .int (bI ak), .int ow])), (a, .inl (Z 0, 6, .inl f))]) (lv2 := [(0, .ref h), (1, .int (nI j)), (2, .int (oI (fewN (agoF day f) n ak j m))), (3, .int (nI m))]) (st2 := [.int (bI (ak || decide (m ≠ 0)))]) (rfl) (rfl) (st_c (vi_c (show nI 1 = bI (ak || decide (m ≠ 0)) from by simp [bI_true, bI_false, c12, c18, c25, c29])) (rfl)) ?_
              exact J37_2
  refine GG.of (ws2 := [(h, .inr (6, [.ref a, .int (nI n), .int day, .int (bI ak), .int ow])), (a, .inl (Z 0, 6, .inl f))]) (lv2 := [(0, .ref h), (1, .int (nI j)), (2, .int (oI (fewN (agoF day f) n ak j 0))), (3, .int (nI 0))]) (st2 := []) (rfl) (lv_c rfl (lv_c rfl (lv_c (vi_c (show -4 = oI (fewN (agoF day f) n ak j 0) from rfl)) (lv_c rfl (rfl))))) (rfl) ?_
  exact L5_1 ((1 <<< n) + 1) (0) (Nat.zero_le _) (by omega) 
