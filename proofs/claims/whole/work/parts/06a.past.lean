
/-! PART 06: past, told, turns, chance, years -/
def tN (top nr : Nat) : Nat := if top + 1 < nr then top + 1 else 0
theorem tN_lt {top nr : Nat} (h : 0 < nr) : tN top nr < nr := by unfold tN; split <;> omega
def tP (top nr : Nat) : Nat := if top = 0 then nr - 1 else top - 1
theorem tP_lt {top nr : Nat} (h : top < nr) : tP top nr < nr := by unfold tP; split <;> omega
theorem min_nI {a b : Nat} (ha : a < 1000) (hb : b < 1000) : (if nI b < nI a then nI b else nI a) = nI (min a b) := by
  by_cases h : b < a
  · rw [if_pos ((nI_ltI (by omega) (by omega)).mpr h), Nat.min_eq_right (Nat.le_of_lt h)]
  · rw [if_neg (fun z => h ((nI_ltI (by omega) (by omega)).mp z)), Nat.min_eq_left (Nat.le_of_not_lt h)]
theorem ln_ne {b : Nat} (h0 : 0 < b) (hb : b < 2 ^ 63) : ¬ lN b = 0 := fun h => by
  have := (pk_lEQ (a := b) (b := 0) hb (by decide)).mp h
  omega
def agP (tn tw : Nat → Nat) (sz noon : Nat) (ow : Int32) : Prop := ∀ k, k < sz → tn k = noon → nI (tw k) = ow
noncomputable def agr (tn tw : Nat → Nat) (sz noon : Nat) (ow : Int32) : Bool := @decide (agP tn tw sz noon ow) (Classical.propDecidable _)
theorem agr_t {tn tw : Nat → Nat} {sz noon : Nat} {ow : Int32} (h : agP tn tw sz noon ow) : agr tn tw sz noon ow = true := @decide_eq_true _ (Classical.propDecidable _) h
theorem agr_f {tn tw : Nat → Nat} {sz noon : Nat} {ow : Int32} (h : ¬ agP tn tw sz noon ow) : agr tn tw sz noon ow = false := @decide_eq_false _ (Classical.propDecidable _) h
/-- the trial of a deed (A: who asks by it): who asked last, and whose it is behind so many noons -/
def trF (A : Nat → Nat → Bool) (sn sp sy : Nat → Nat) (n : Nat) (f0 : Nat → Int32) : Nat → (Nat → Int32) × Int32
  | 0 => (f0, -4)
  | d + 1 => ((rpF A sp sy d (nI d) (trF A sn sp sy n f0 d).1 false (sn d)).1, if (rpF A sp sy d (nI d) (trF A sn sp sy n f0 d).1 false (sn d)).2 = true then nI (hbw (agoF (nI d) (rpF A sp sy d (nI d) (trF A sn sp sy n f0 d).1 false (sn d)).1) n 0) else (trF A sn sp sy n f0 d).2)
/-- what TOOK tells is so behind the noons of the first m days -/
def ftP (A : Nat → Nat → Bool) (sn sp sy : Nat → Nat) (n : Nat) (f0 : Nat → Int32) (tn tw : Nat → Nat) (sz m : Nat) : Prop := ∀ d, d < m → agr tn tw sz (d + 1) (trF A sn sp sy n f0 (d + 1)).2 = true
/-- only what lies below n counts -/
theorem hb_cong {ago ago2 : Nat → Int32} {S : Nat} : ∀ {n : Nat}, (∀ j, j < n → ago j = ago2 j) → hb ago S n = hb ago2 S n
  | 0, _ => rfl
  | i + 1, h => by
    have h1 := hb_cong (S := S) (n := i) (fun j hj => h j (by omega))
    have h2 : agoS ago S i = agoS ago2 S i := by unfold agoS; rw [h i (Nat.lt_succ_self i)]
    rw [hb, hb, h1, h2]
theorem hbw_cong {ago ago2 : Nat → Int32} {n S : Nat} (h : ∀ j, j < n → ago j = ago2 j) : hbw ago n S = hbw ago2 n S := by unfold hbw; rw [hb_cong h]
theorem rpF_cong {A : Nat → Nat → Bool} {sp sy : Nat → Nat} {day : Nat} {dv : Int32} {f g : Nat → Int32} {ak : Bool} {n : Nat} (h : ∀ j, j < n → f j = g j) : ∀ m, (∀ j, j < n → (rpF A sp sy day dv f ak m).1 j = (rpF A sp sy day dv g ak m).1 j) ∧ (rpF A sp sy day dv f ak m).2 = (rpF A sp sy day dv g ak m).2
  | 0 => ⟨h, rfl⟩
  | m + 1 => by
    have ih := rpF_cong (A := A) (sp := sp) (sy := sy) (day := day) (dv := dv) (ak := ak) h m
    cases hc : A (sy (day * 4 + m)) (sp (day * 4 + m)) with
    | true =>
      rw [rpF_t hc, rpF_t hc]
      refine ⟨fun j hj => ?_, rfl⟩
      show upd _ _ _ j = upd _ _ _ j
      unfold upd
      split
      · rfl
      · exact ih.1 j hj
    | false => rw [rpF_f hc, rpF_f hc]; exact ih
theorem trF_cong {A : Nat → Nat → Bool} {sn sp sy : Nat → Nat} {n : Nat} {f g : Nat → Int32} (h : ∀ j, j < n → f j = g j) : ∀ d, (∀ j, j < n → (trF A sn sp sy n f d).1 j = (trF A sn sp sy n g d).1 j) ∧ (trF A sn sp sy n f d).2 = (trF A sn sp sy n g d).2
  | 0 => ⟨h, rfl⟩
  | d + 1 => by
    have ih := trF_cong (A := A) (sn := sn) (sp := sp) (sy := sy) h d
    have h1 := rpF_cong (A := A) (sp := sp) (sy := sy) (day := d) (dv := nI d) (ak := false) ih.1 (sn d)
    refine ⟨h1.1, ?_⟩
    show (if _ then _ else _) = (if _ then _ else _)
    rw [h1.2, ih.2, hbw_cong (ago := agoF (nI d) (rpF A sp sy d (nI d) (trF A sn sp sy n f d).1 false (sn d)).1) (ago2 := agoF (nI d) (rpF A sp sy d (nI d) (trF A sn sp sy n g d).1 false (sn d)).1) (fun j hj => by unfold agoF; rw [h1.1 j hj])]
/-- does the deed (A) fit: from the trust as it was laid -/
noncomputable def ftB (A : Nat → Nat → Bool) (sn sp sy : Nat → Nat) (n : Nat) (ag : Nat → Nat) (tn tw : Nat → Nat) (sz : Nat) : Bool := @decide (ftP A sn sp sy n (fun j => -nI (ag j)) tn tw sz 10) (Classical.propDecidable _)
theorem ftB_t {A : Nat → Nat → Bool} {sn sp sy : Nat → Nat} {n : Nat} {ag : Nat → Nat} {tn tw : Nat → Nat} {sz : Nat} {f : Nat → Int32} (h : ftP A sn sp sy n (fillF (fun j => -nI (ag j)) f n) tn tw sz 10) : ftB A sn sp sy n ag tn tw sz = true :=
  @decide_eq_true _ (Classical.propDecidable _) (fun d hd => by
    rw [← (trF_cong (f := fillF (fun j => -nI (ag j)) f n) (fun j hj => by simp [fillF, hj]) (d + 1)).2]
    exact h d hd)
theorem ftB_f {A : Nat → Nat → Bool} {sn sp sy : Nat → Nat} {n : Nat} {ag : Nat → Nat} {tn tw : Nat → Nat} {sz : Nat} {f : Nat → Int32} {d : Nat} (hd : d < 10) (h : agr tn tw sz (d + 1) (trF A sn sp sy n (fillF (fun j => -nI (ag j)) f n) (d + 1)).2 = false) : ftB A sn sp sy n ag tn tw sz = false :=
  @decide_eq_false _ (Classical.propDecidable _) (fun z => by
    have := z d hd
    rw [← (trF_cong (f := fillF (fun j => -nI (ag j)) f n) (fun j hj => by simp [fillF, hj]) (d + 1)).2, h] at this
    cases this)
/-- how many of p below m -/
def cntB (p : Nat → Bool) : Nat → Nat
  | 0 => 0
  | m + 1 => cntB p m + (p m).toNat
theorem cntB_le (p : Nat → Bool) : ∀ m, cntB p m ≤ m
  | 0 => Nat.le_refl _
  | m + 1 => by
    have := cntB_le p m
    have h2 : (p m).toNat ≤ 1 := by cases p m <;> decide
    show cntB p m + (p m).toNat ≤ m + 1
    omega
/-- the first of p below m, or none -/
def loB (p : Nat → Bool) (m : Nat) : Option Nat := if fW p m 0 < m then some (fW p m 0) else none
theorem loB_at {p : Nat → Bool} {m i : Nat} (hi : i < m) (h : ∀ j, j < i → p j = false) (hp : p i = true) : loB p m = some i := by
  rw [loB, fW_at hi h hp, if_pos hi]
theorem loB_no {p : Nat → Bool} {m : Nat} (h : ∀ j, j < m → p j = false) : loB p m = none := by
  rw [loB, fW_no h, if_neg (Nat.lt_irrefl _)]
theorem up_same {ST : Nat → DS} {j : Nat} : va_up ST j (ST j) = ST := by
  funext x
  by_cases h : x = j
  · rw [h, va_up_self]
  · rw [va_up_ne _ _ h]
/-- one's rank of an owner -/
def rkN (ow : Int32) (c : Nat) : Nat := if ow = nI c then 2 else if ow = -4 ∨ ¬ ow ≤ nI c then 1 else 0
/-- by turns, so many days of a way: who asked last, did anybody ask today, whose it is -/
def tst (way nd many : Nat) (f : Nat → Int32) (n dy : Nat) (ak : Bool) (ow : Int32) : Nat → (Nat → Int32) × Bool × Int32
  | 0 => (f, ak, ow)
  | k + 1 =>
    let s := tst way nd many f n dy ak ow k
    let b := decide ((way >>> (nd - 1 - k)) &&& 1 = 1)
    let g := if b = true then upd s.1 (k % many) (nI (dy + k)) else s.1
    (g, false, if (s.2.1 || b) = true then nI (hbw (agoF (nI (dy + k)) g) n 0) else s.2.2)
def endW (way nd many : Nat) (f : Nat → Int32) (n dy : Nat) (ak : Bool) (ow : Int32) : Int32 := (tst way nd many f n dy ak ow nd).2.2
/-- of each two ways the one that he chooses: the row, and whether the last one asks -/
def chs (c : Nat) (e : Nat → Int32) : Nat → (Nat → Int32) × Option Bool
  | 0 => (e, none)
  | w + 1 =>
    let s := chs c e w
    let b := decide (rkN (s.1 (2 * w)) c < rkN (s.1 (2 * w + 1)) c)
    (upd s.1 w (if b = true then s.1 (2 * w + 1) else s.1 (2 * w)), some b)
/-- from the last day to the first: the row, and whether the last chooser asks -/
def chD (nd many : Nat) (e : Nat → Int32) : Nat → (Nat → Int32) × Bool
  | 0 => (e, false)
  | t + 1 =>
    let s := chD nd many e t
    let day := nd - 1 - t
    ((chs (day % many) s.1 (1 <<< day)).1, ((chs (day % many) s.1 (1 <<< day)).2).getD s.2)
/-- a draw -/
def drN (z k : Nat) : Nat := (7919 * z + 6151 * k + 1) * (7919 * z + 6151 * k + 1) % 65521 / 8
theorem drN_lt (z k : Nat) : drN z k < 8191 := by
  unfold drN
  have : (7919 * z + 6151 * k + 1) * (7919 * z + 6151 * k + 1) % 65521 < 65521 := Nat.mod_lt _ (by decide)
  omega
/-- years: who asked last, did anybody ask today, whose it is, how often it became another's -/
def yrS (A : Nat → Nat → Bool) (n ks z : Nat) (f : Nat → Int32) (dy : Nat) (ak : Bool) (ow : Int32) : Nat → (Nat → Int32) × Bool × Int32 × Nat
  | 0 => (f, ak, ow, 0)
  | k + 1 =>
    let s := yrS A n ks z f dy ak ow k
    let b := decide (drN z k / 64 % 3 = 0) && A (drN z k / 8 % ks) (drN z k % n)
    let g := if b = true then upd s.1 (drN z k % n) (nI (dy + k)) else s.1
    let o := if (s.2.1 || b) = true then nI (hbw (agoF (nI (dy + k)) g) n 0) else s.2.2.1
    (g, false, o, if o = s.2.2.1 then s.2.2.2 else s.2.2.2 + 1)
theorem yrS_cnt (A : Nat → Nat → Bool) (n ks z : Nat) (f : Nat → Int32) (dy : Nat) (ak : Bool) (ow : Int32) : ∀ k, (yrS A n ks z f dy ak ow k).2.2.2 ≤ k
  | 0 => Nat.le_refl _
  | k + 1 => by
    have h := yrS_cnt A n ks z f dy ak ow k
    have e : ∀ (c : Prop) [Decidable c] (a : Nat), a ≤ k → (if c then a else a + 1) ≤ k + 1 := fun c _ a ha => by split <;> omega
    exact e _ _ h
/-- the chance above, of 10^k below -/
def chN (f : Nat → Int32) (n dy : Nat) (ak : Bool) (ow : Int32) (ch x : Nat) : Nat → Nat
  | 0 => 1
  | k + 1 => (if k = 0 ∧ (if ak = true then nI (hbw (agoF (nI dy) f) n 0) else ow) ≠ ow then 0 else chN f n dy ak ow ch x k) * (10 - x) + (if nI (hbw (agoF (nI (dy + k)) f) n (1 <<< ch)) = ow then 10 ^ k * x else 0)
theorem chN_le {f : Nat → Int32} {n dy : Nat} {ak : Bool} {ow : Int32} {ch x : Nat} (hx : x ≤ 10) : ∀ k, chN f n dy ak ow ch x k ≤ 10 ^ k
  | 0 => Nat.le_refl _
  | k + 1 => by
    have ih := chN_le (f := f) (n := n) (dy := dy) (ak := ak) (ow := ow) (ch := ch) hx k
    have h1 : (if k = 0 ∧ (if ak = true then nI (hbw (agoF (nI dy) f) n 0) else ow) ≠ ow then 0 else chN f n dy ak ow ch x k) ≤ 10 ^ k := by
      have e : ∀ (c : Prop) [Decidable c] (a b : Nat), a ≤ b → (if c then 0 else a) ≤ b := fun c _ a b hb => by split <;> omega
      exact e _ _ _ ih
    have h2 : (if nI (hbw (agoF (nI (dy + k)) f) n (1 <<< ch)) = ow then 10 ^ k * x else 0) ≤ 10 ^ k * x := by
      split
      · exact Nat.le_refl _
      · exact Nat.zero_le _
    have h3 := Nat.mul_le_mul_right (10 - x) h1
    rw [chN]
    have h4 : 10 ^ k * (10 - x) + 10 ^ k * x = 10 ^ k * 10 := by rw [← Nat.mul_add]; congr 1; omega
    rw [Nat.pow_succ]
    omega
theorem ten_lt {k : Nat} (h : k ≤ 9) : 10 ^ k ≤ 1000000000 := Nat.pow_le_pow_right (n := 10) (by decide) h
/-- Euclid: a step, and what it costs -/
theorem eu_s {a b c i : Nat} (hb : 0 < b) (hle : b ≤ a) (h : a * b * 2 ^ i ≤ c) : b * (a % b) * 2 ^ (i + 1) ≤ c := by
  have h1 : a % b * 2 ≤ a := by
    have h2 := Nat.mod_lt a hb
    have h3 : a % b ≤ a - b := by
      rw [Nat.mod_eq_sub_mod hle]
      exact Nat.mod_le _ _
    omega
  have h4 : b * (a % b) * 2 ^ (i + 1) = b * (a % b * 2) * 2 ^ i := by rw [Nat.pow_succ]; ac_rfl
  rw [h4]
  exact Nat.le_trans (Nat.mul_le_mul_right _ (by rw [Nat.mul_comm b]; exact Nat.mul_le_mul_right b h1)) h
theorem lc_le {a : Nat} (ha : a < 2 ^ 63) : lg_cmp (lN a) (lN 0) ≤ 0 ↔ a = 0 := by
  have e := pk_lLT (a := 0) (b := a) (by decide) ha
  have e2 := pk_lEQ (a := a) (b := 0) ha (by decide)
  unfold lg_cmp
  by_cases h : a = 0
  · subst h
    refine ⟨fun _ => rfl, fun _ => ?_⟩
    rw [if_neg (fun z => absurd (e.mp z) (by omega)), if_pos rfl]
    decide
  · refine ⟨fun z => ?_, fun z => absurd z h⟩
    rw [if_pos (e.mpr (by omega))] at z
    exact absurd z (by decide)
theorem lc_le1 {a : Nat} (ha : a < 2 ^ 63) : lg_cmp (lN a) (lN 1) ≤ 0 ↔ a ≤ 1 := by
  have e := pk_lLT (a := 1) (b := a) (by decide) ha
  have e2 := pk_lEQ (a := a) (b := 1) ha (by decide)
  unfold lg_cmp
  by_cases h : 1 < a
  · refine ⟨fun z => ?_, fun z => absurd z (by omega)⟩
    rw [if_pos (e.mpr h)] at z
    exact absurd z (by decide)
  · refine ⟨fun _ => by omega, fun _ => ?_⟩
    rw [if_neg (fun z => h (e.mp z))]
    split <;> decide

theorem cs_X3_held : CS yX3_held wsX3_held cX3_held 1 (some .int) 0 := ⟨⟨_, rfl⟩, by decide +kernel, by decide +kernel, by decide +kernel⟩
theorem fl_X3_held_22 : Cond.fieldLink RX3 22 (TX3 2).1 (TX3 2).2.1 (TX3 2).2.2.1 ∈ wsX3_held := by decide +kernel
theorem in_X3_held_X3 : ∀ w ∈ u_ws RX3 TX3 3, w ∈ wsX3_held := by decide +kernel
set_option maxHeartbeats 4000000 in
set_option maxRecDepth 100000 in
theorem ct_X3_held (Z : Nat → ClassId) (p : Nat) (r : Nat) (top : Nat) (held : Nat) (nr : Nat) (AD : Nat → Nat → Nat) : Ct false yX3_held wsX3_held ({ frames := 0, cells := 0, slots := 0, locals := 0 }) [.ref p] Z [(p, .inr (3, [.ref r, .int (nI top), .int (nI held)])), (r, .inl (Z 3, nr, .inr (.inr (.inr (.inr (fun j => some (AD j 0)))))))] (rI (nI held) [(p, .inr (3, [.ref r, .int (nI top), .int (nI held)])), (r, .inl (Z 3, nr, .inr (.inr (.inr (.inr (fun j => some (AD j 0)))))))]) 0 0 := by
  refine Ct_of (cc := cX3_held) (maxL := 1) (ret := (some .int)) (own := RX3) false false (by decide +kernel) rfl rfl (by decide) (fun v w h => by rw [h.1]; exact ⟨_, rfl, rfl⟩) (Nat.le_of_ble_eq_true rfl) (fun X => ?_)
  show GG X _ _ _ _ _ _ _ _ _ _ _ _ _ _ [(0, .ref p)] _ _
  refine G_aload_n (q := 1) dX3_held_0 rfl 0 rfl rfl ?_
  refine G_get (q := 4) dX3_held_1 0 rfl (show vwCl[3]? = some (RX3, TX3, 3) from rfl) 2 (by decide) in_X3_held_X3 fl_X3_held_22 rfl rfl ?_
  exact G_iret dX3_held_4 rfl rfl ⟨rfl, rfl⟩
theorem cs_X3_clear : CS yX3_clear wsX3_clear cX3_clear 1 none 0 := ⟨⟨_, rfl⟩, by decide +kernel, by decide +kernel, by decide +kernel⟩
theorem fl_X3_clear_22 : Cond.fieldLink RX3 22 (TX3 2).1 (TX3 2).2.1 (TX3 2).2.2.1 ∈ wsX3_clear := by decide +kernel
theorem in_X3_clear_X3 : ∀ w ∈ u_ws RX3 TX3 3, w ∈ wsX3_clear := by decide +kernel
set_option maxHeartbeats 4000000 in
set_option maxRecDepth 100000 in
theorem ct_X3_clear (Z : Nat → ClassId) (p : Nat) (r : Nat) (top : Nat) (held : Nat) (nr : Nat) (AD : Nat → Nat → Nat) : Ct false yX3_clear wsX3_clear ({ frames := 0, cells := 0, slots := 0, locals := 0 }) [.ref p] Z [(p, .inr (3, [.ref r, .int (nI top), .int (nI held)])), (r, .inl (Z 3, nr, .inr (.inr (.inr (.inr (fun j => some (AD j 0)))))))] (rV [(p, .inr (3, [.ref r, .int (nI top), .int (nI 0)])), (r, .inl (Z 3, nr, .inr (.inr (.inr (.inr (fun j => some (AD j 0)))))))]) 0 0 := by
  refine Ct_of (cc := cX3_clear) (maxL := 1) (ret := none) (own := RX3) false false (by decide +kernel) rfl rfl (by decide) (fun v w h => by rw [h.1]; rfl) (Nat.le_of_ble_eq_true rfl) (fun X => ?_)
  show GG X _ _ _ _ _ _ _ _ _ _ _ _ _ _ [(0, .ref p)] _ _
  refine G_aload_n (q := 1) dX3_clear_0 rfl 0 rfl rfl ?_
  refine G_iconst (v := nI 0) (q := 2) dX3_clear_1 (by decide) rfl ?_
  refine G_put (ws2 := [(p, .inr (3, [.ref r, .int (nI top), .int (nI 0)])), (r, .inl (Z 3, nr, .inr (.inr (.inr (.inr (fun j => some (AD j 0)))))))]) (q := 5) dX3_clear_2 0 rfl (show vwCl[3]? = some (RX3, TX3, 3) from rfl) cf_X3 2 (by decide) in_X3_clear_X3 fl_X3_clear_22 rfl (rfl) rfl (by simp only [List.length_cons, List.length_nil]; decide) rfl rfl ?_
  exact G_ret dX3_clear_5 rfl rfl ⟨rfl, rfl⟩
theorem cs_X3_topRow : CS yX3_topRow wsX3_topRow cX3_topRow 1 (some (.object "LastToAsk$Days")) 0 := ⟨⟨_, rfl⟩, by decide +kernel, by decide +kernel, by decide +kernel⟩
theorem fl_X3_topRow_15 : Cond.fieldLink RX3 15 (TX3 0).1 (TX3 0).2.1 (TX3 0).2.2.1 ∈ wsX3_topRow := by decide +kernel
theorem fl_X3_topRow_26 : Cond.fieldLink RX3 26 (TX3 1).1 (TX3 1).2.1 (TX3 1).2.2.1 ∈ wsX3_topRow := by decide +kernel
theorem in_X3_topRow_X3 : ∀ w ∈ u_ws RX3 TX3 3, w ∈ wsX3_topRow := by decide +kernel
set_option maxHeartbeats 4000000 in
set_option maxRecDepth 100000 in
theorem ct_X3_topRow (Z : Nat → ClassId) (p : Nat) (r : Nat) (top : Nat) (held : Nat) (nr : Nat) (AD : Nat → Nat → Nat) (hnr : nr ≤ 100) (ht : top < nr): Ct false yX3_topRow wsX3_topRow ({ frames := 0, cells := 0, slots := 0, locals := 0 }) [.ref p] Z [(p, .inr (3, [.ref r, .int (nI top), .int (nI held)])), (r, .inl (Z 3, nr, .inr (.inr (.inr (.inr (fun j => some (AD j 0)))))))] (rA (AD top 0) [(p, .inr (3, [.ref r, .int (nI top), .int (nI held)])), (r, .inl (Z 3, nr, .inr (.inr (.inr (.inr (fun j => some (AD j 0)))))))]) 0 0 := by
  refine Ct_of (cc := cX3_topRow) (maxL := 1) (ret := (some (.object "LastToAsk$Days"))) (own := RX3) false false (by decide +kernel) rfl rfl (by decide) (fun v w h => by rw [h.1]; exact ⟨_, rfl⟩) (Nat.le_of_ble_eq_true rfl) (fun X => ?_)
  show GG X _ _ _ _ _ _ _ _ _ _ _ _ _ _ [(0, .ref p)] _ _
  refine G_aload_n (q := 1) dX3_topRow_0 rfl 0 rfl rfl ?_
  refine G_get (q := 4) dX3_topRow_1 0 rfl (show vwCl[3]? = some (RX3, TX3, 3) from rfl) 1 (by decide) in_X3_topRow_X3 fl_X3_topRow_26 rfl rfl ?_
  refine G_if_ltN (tgt := 31) (q := 7) dX3_topRow_4 (by decide) rfl (by omega) (fun c4 => ?_) (fun c4 => ?_)
  · exact c4.elim
  · refine G_aload_n (q := 8) dX3_topRow_7 rfl 0 rfl rfl ?_
    refine G_get (q := 11) dX3_topRow_8 0 rfl (show vwCl[3]? = some (RX3, TX3, 3) from rfl) 1 (by decide) in_X3_topRow_X3 fl_X3_topRow_26 rfl rfl ?_
    refine G_aload_n (q := 12) dX3_topRow_11 rfl 0 rfl rfl ?_
    refine G_get (q := 15) dX3_topRow_12 0 rfl (show vwCl[3]? = some (RX3, TX3, 3) from rfl) 0 (by decide) in_X3_topRow_X3 fl_X3_topRow_15 rfl rfl ?_
    refine G_alen (q := 16) dX3_topRow_15 1 rfl (show (tz Z)[3]? = _ from rfl) rfl ?_
    refine G_icmp_geN (tgt := 31) (q := 19) dX3_topRow_16 (by decide) rfl (by omega) (by omega) (fun c16 => ?_) (fun c16 => ?_)
    · exfalso; omega
    · refine G_aload_n (q := 20) dX3_topRow_19 rfl 0 rfl rfl ?_
      refine G_get (q := 23) dX3_topRow_20 0 rfl (show vwCl[3]? = some (RX3, TX3, 3) from rfl) 0 (by decide) in_X3_topRow_X3 fl_X3_topRow_15 rfl rfl ?_
      refine G_aload_n (q := 24) dX3_topRow_23 rfl 0 rfl rfl ?_
      refine G_get (q := 27) dX3_topRow_24 0 rfl (show vwCl[3]? = some (RX3, TX3, 3) from rfl) 1 (by decide) in_X3_topRow_X3 fl_X3_topRow_26 rfl rfl ?_
      refine G_aald (r := AD top 0) (q := 28) dX3_topRow_27 1 rfl top rfl (by omega) (by omega) (rfl) rfl ?_
      refine G_goto (q := 32) dX3_topRow_28 (by decide) ?_
      exact G_aret dX3_topRow_32 rfl rfl ⟨rfl, rfl⟩
theorem cs_X3_push : CS yX3_push wsX3_push cX3_push 3 none 1 := ⟨⟨_, rfl⟩, by decide +kernel, by decide +kernel, by decide +kernel⟩
theorem fl_X3_push_15 : Cond.fieldLink RX3 15 (TX3 0).1 (TX3 0).2.1 (TX3 0).2.2.1 ∈ wsX3_push := by decide +kernel
theorem fl_X3_push_22 : Cond.fieldLink RX3 22 (TX3 2).1 (TX3 2).2.1 (TX3 2).2.2.1 ∈ wsX3_push := by decide +kernel
theorem fl_X3_push_26 : Cond.fieldLink RX3 26 (TX3 1).1 (TX3 1).2.1 (TX3 1).2.2.1 ∈ wsX3_push := by decide +kernel
theorem in_X3_push_X3 : ∀ w ∈ u_ws RX3 TX3 3, w ∈ wsX3_push := by decide +kernel
set_option maxHeartbeats 4000000 in
set_option maxRecDepth 100000 in
theorem ct_X3_push (Z : Nat → ClassId) (p : Nat) (r : Nat) (top : Nat) (held : Nat) (nr : Nat) (AD : Nat → Nat → Nat) (A0 : Nat → Nat) (S0 : DS) (ST : Nat → DS) (hnr : nr ≤ 100) (ht : top < nr) (hh : held ≤ nr): Ct false yX3_push wsX3_push ({ frames := 3, cells := 0, slots := 0, locals := 82 }) [.ref p, .ref (A0 0)] Z (([(p, .inr (3, [.ref r, .int (nI top), .int (nI held)])), (r, .inl (Z 3, nr, .inr (.inr (.inr (.inr (fun j => some (AD j 0))))))), ((A0 0), .inr (1, [.ref (A0 1), .ref (A0 3), .ref (A0 4), .ref (A0 5), .ref (A0 6), .ref (A0 7), .int (nI (Sse S0)), .int (nI (Sde S0))])), ((A0 1), .inr (6, [.ref (A0 2), .int (nI (Sn S0)), .int (nI (Sdy S0)), .int (bI (Sak S0)), .int (Sow S0)])), ((A0 2), .inl (Z 0, 6, .inl (Sf S0))), ((A0 3), .inl (Z 0, 60, .inl (She S0))), ((A0 4), .inl (Z 0, 6, .inl (Sti S0))), ((A0 5), .inl (Z 0, 10, .inl (fun j => nI ((Ssn S0) j)))), ((A0 6), .inl (Z 0, 40, .inl (fun j => nI ((Ssp S0) j)))), ((A0 7), .inl (Z 0, 40, .inl (fun j => nI ((Ssy S0) j))))] : va_W) ++ (poolW Z AD ST nr)) (rV (([(p, .inr (3, [.ref r, .int (nI (tN top nr)), .int (nI (min (held + 1) nr))])), (r, .inl (Z 3, nr, .inr (.inr (.inr (.inr (fun j => some (AD j 0))))))), ((A0 0), .inr (1, [.ref (A0 1), .ref (A0 3), .ref (A0 4), .ref (A0 5), .ref (A0 6), .ref (A0 7), .int (nI (Sse S0)), .int (nI (Sde S0))])), ((A0 1), .inr (6, [.ref (A0 2), .int (nI (Sn S0)), .int (nI (Sdy S0)), .int (bI (Sak S0)), .int (Sow S0)])), ((A0 2), .inl (Z 0, 6, .inl (Sf S0))), ((A0 3), .inl (Z 0, 60, .inl (She S0))), ((A0 4), .inl (Z 0, 6, .inl (Sti S0))), ((A0 5), .inl (Z 0, 10, .inl (fun j => nI ((Ssn S0) j)))), ((A0 6), .inl (Z 0, 40, .inl (fun j => nI ((Ssp S0) j)))), ((A0 7), .inl (Z 0, 40, .inl (fun j => nI ((Ssy S0) j))))] : va_W) ++ (poolW Z AD (va_up ST (tN top nr) S0) nr))) 0 0 := by
  refine Ct_of (cc := cX3_push) (maxL := 3) (ret := none) (own := RX3) false false (by decide +kernel) rfl rfl (by decide) (fun v w h => by rw [h.1]; rfl) (Nat.le_of_ble_eq_true rfl) (fun X => ?_)
  show GG X _ _ _ _ _ _ _ _ _ _ _ _ _ _ [(0, .ref p), (1, .ref (A0 0))] _ _
  refine G_aload_n (q := 1) dX3_push_0 rfl 0 rfl rfl ?_
  refine G_aload_n (q := 2) dX3_push_1 rfl 0 rfl rfl ?_
  refine G_get (q := 5) dX3_push_2 0 rfl (show vwCl[3]? = some (RX3, TX3, 3) from rfl) 1 (by decide) in_X3_push_X3 fl_X3_push_26 rfl rfl ?_
  refine G_iconst (v := nI 1) (q := 6) dX3_push_5 (by decide) rfl ?_
  refine G_iaddN (a := top) (b := 1) (q := 7) dX3_push_6 rfl ?_
  refine G_aload_n (q := 8) dX3_push_7 rfl 0 rfl rfl ?_
  refine G_get (q := 11) dX3_push_8 0 rfl (show vwCl[3]? = some (RX3, TX3, 3) from rfl) 0 (by decide) in_X3_push_X3 fl_X3_push_15 rfl rfl ?_
  refine G_alen (q := 12) dX3_push_11 1 rfl (show (tz Z)[3]? = _ from rfl) rfl ?_
  have J25_1 : GG X ({ frames := 3, cells := 0, slots := 0, locals := 82 }) cX3_push 3 wsX3_push RX3 false false Z (rV (([(p, .inr (3, [.ref r, .int (nI (tN top nr)), .int (nI (min (held + 1) nr))])), (r, .inl (Z 3, nr, .inr (.inr (.inr (.inr (fun j => some (AD j 0))))))), ((A0 0), .inr (1, [.ref (A0 1), .ref (A0 3), .ref (A0 4), .ref (A0 5), .ref (A0 6), .ref (A0 7), .int (nI (Sse S0)), .int (nI (Sde S0))])), ((A0 1), .inr (6, [.ref (A0 2), .int (nI (Sn S0)), .int (nI (Sdy S0)), .int (bI (Sak S0)), .int (Sow S0)])), ((A0 2), .inl (Z 0, 6, .inl (Sf S0))), ((A0 3), .inl (Z 0, 60, .inl (She S0))), ((A0 4), .inl (Z 0, 6, .inl (Sti S0))), ((A0 5), .inl (Z 0, 10, .inl (fun j => nI ((Ssn S0) j)))), ((A0 6), .inl (Z 0, 40, .inl (fun j => nI ((Ssp S0) j)))), ((A0 7), .inl (Z 0, 40, .inl (fun j => nI ((Ssy S0) j))))] : va_W) ++ (poolW Z AD (va_up ST (tN top nr) S0) nr))) 0 0 0 0 (([(p, .inr (3, [.ref r, .int (nI top), .int (nI held)])), (r, .inl (Z 3, nr, .inr (.inr (.inr (.inr (fun j => some (AD j 0))))))), ((A0 0), .inr (1, [.ref (A0 1), .ref (A0 3), .ref (A0 4), .ref (A0 5), .ref (A0 6), .ref (A0 7), .int (nI (Sse S0)), .int (nI (Sde S0))])), ((A0 1), .inr (6, [.ref (A0 2), .int (nI (Sn S0)), .int (nI (Sdy S0)), .int (bI (Sak S0)), .int (Sow S0)])), ((A0 2), .inl (Z 0, 6, .inl (Sf S0))), ((A0 3), .inl (Z 0, 60, .inl (She S0))), ((A0 4), .inl (Z 0, 6, .inl (Sti S0))), ((A0 5), .inl (Z 0, 10, .inl (fun j => nI ((Ssn S0) j)))), ((A0 6), .inl (Z 0, 40, .inl (fun j => nI ((Ssp S0) j)))), ((A0 7), .inl (Z 0, 40, .inl (fun j => nI ((Ssy S0) j))))] : va_W) ++ (poolW Z AD ST nr)) [(0, .ref p), (1, .ref (A0 0))] [.int (nI (tN top nr)), .ref p] 25 := by
    refine G_put (ws2 := (([(p, .inr (3, [.ref r, .int (nI (tN top nr)), .int (nI held)])), (r, .inl (Z 3, nr, .inr (.inr (.inr (.inr (fun j => some (AD j 0))))))), ((A0 0), .inr (1, [.ref (A0 1), .ref (A0 3), .ref (A0 4), .ref (A0 5), .ref (A0 6), .ref (A0 7), .int (nI (Sse S0)), .int (nI (Sde S0))])), ((A0 1), .inr (6, [.ref (A0 2), .int (nI (Sn S0)), .int (nI (Sdy S0)), .int (bI (Sak S0)), .int (Sow S0)])), ((A0 2), .inl (Z 0, 6, .inl (Sf S0))), ((A0 3), .inl (Z 0, 60, .inl (She S0))), ((A0 4), .inl (Z 0, 6, .inl (Sti S0))), ((A0 5), .inl (Z 0, 10, .inl (fun j => nI ((Ssn S0) j)))), ((A0 6), .inl (Z 0, 40, .inl (fun j => nI ((Ssp S0) j)))), ((A0 7), .inl (Z 0, 40, .inl (fun j => nI ((Ssy S0) j))))] : va_W) ++ (poolW Z AD ST nr))) (q := 28) dX3_push_25 0 rfl (show vwCl[3]? = some (RX3, TX3, 3) from rfl) cf_X3 1 (by decide) in_X3_push_X3 fl_X3_push_26 rfl (rfl) rfl (by simp only [List.length_cons, List.length_nil]; decide) rfl rfl ?_
    refine G_aload_n (q := 29) dX3_push_28 rfl 0 rfl rfl ?_
    refine G_aload_n (q := 30) dX3_push_29 rfl 0 rfl rfl ?_
    refine G_get (q := 33) dX3_push_30 0 rfl (show vwCl[3]? = some (RX3, TX3, 3) from rfl) 2 (by decide) in_X3_push_X3 fl_X3_push_22 rfl rfl ?_
    refine G_iconst (v := nI 1) (q := 34) dX3_push_33 (by decide) rfl ?_
    refine G_iaddN (a := held) (b := 1) (q := 35) dX3_push_34 rfl ?_
    refine G_aload_n (q := 36) dX3_push_35 rfl 0 rfl rfl ?_
    refine G_get (q := 39) dX3_push_36 0 rfl (show vwCl[3]? = some (RX3, TX3, 3) from rfl) 0 (by decide) in_X3_push_X3 fl_X3_push_15 rfl rfl ?_
    refine G_alen (q := 40) dX3_push_39 1 rfl (show (tz Z)[3]? = _ from rfl) rfl ?_
    refine G_min (q := 43) dX3_push_40 (by decide +kernel) (by decide +kernel) (by decide +kernel) (by decide +kernel) (Nat.le_of_ble_eq_true rfl) (Nat.le_of_ble_eq_true rfl) ⟨by decide, by decide⟩ (nI (min (held + 1) nr)) (min_nI (by omega) (by omega)) rfl ?_
    refine G_put (ws2 := (([(p, .inr (3, [.ref r, .int (nI (tN top nr)), .int (nI (min (held + 1) nr))])), (r, .inl (Z 3, nr, .inr (.inr (.inr (.inr (fun j => some (AD j 0))))))), ((A0 0), .inr (1, [.ref (A0 1), .ref (A0 3), .ref (A0 4), .ref (A0 5), .ref (A0 6), .ref (A0 7), .int (nI (Sse S0)), .int (nI (Sde S0))])), ((A0 1), .inr (6, [.ref (A0 2), .int (nI (Sn S0)), .int (nI (Sdy S0)), .int (bI (Sak S0)), .int (Sow S0)])), ((A0 2), .inl (Z 0, 6, .inl (Sf S0))), ((A0 3), .inl (Z 0, 60, .inl (She S0))), ((A0 4), .inl (Z 0, 6, .inl (Sti S0))), ((A0 5), .inl (Z 0, 10, .inl (fun j => nI ((Ssn S0) j)))), ((A0 6), .inl (Z 0, 40, .inl (fun j => nI ((Ssp S0) j)))), ((A0 7), .inl (Z 0, 40, .inl (fun j => nI ((Ssy S0) j))))] : va_W) ++ (poolW Z AD ST nr))) (q := 46) dX3_push_43 0 rfl (show vwCl[3]? = some (RX3, TX3, 3) from rfl) cf_X3 2 (by decide) in_X3_push_X3 fl_X3_push_22 rfl (rfl) rfl (by simp only [List.length_cons, List.length_nil]; decide) rfl rfl ?_
    refine G_aload_n (q := 47) dX3_push_46 rfl 0 rfl rfl ?_
    refine G_callVP (As := []) (rest := []) (st2 := [.ref (AD (tN top nr) 0)]) (q := 50) dX3_push_47 [0, 1] (ct_X3_topRow Z p r (tN top nr) (min (held + 1) nr) nr AD (by omega) (tN_lt (by omega))) (fun h => h) cs_X3_topRow gX3_push_X3_topRow rfl ⟨Nat.le_of_ble_eq_true rfl, Nat.le_of_ble_eq_true rfl⟩ ⟨rfl, rfl⟩ 0 rfl (show vwCl[3]? = some (RX3, TX3, 3) from rfl) rfl (by decide) rfl rfl (Nat.le_of_ble_eq_true rfl) ⟨by decide, by decide⟩ rfl rfl ?_
    refine G_astore_n (lv2 := [(0, .ref p), (1, .ref (A0 0)), (2, .ref (AD (tN top nr) 0))]) (q := 51) dX3_push_50 rfl (by decide) rfl rfl ?_
    refine G_aload_n (q := 52) dX3_push_51 rfl 2 rfl rfl ?_
    refine G_ifnull (q := 55) dX3_push_52 rfl ?_
    refine GG.perm (ws2 := (([(p, .inr (3, [.ref r, .int (nI (tN top nr)), .int (nI (min (held + 1) nr))])), (r, .inl (Z 3, nr, .inr (.inr (.inr (.inr (fun j => some (AD j 0))))))), ((A0 0), .inr (1, [.ref (A0 1), .ref (A0 3), .ref (A0 4), .ref (A0 5), .ref (A0 6), .ref (A0 7), .int (nI (Sse S0)), .int (nI (Sde S0))])), ((A0 1), .inr (6, [.ref (A0 2), .int (nI (Sn S0)), .int (nI (Sdy S0)), .int (bI (Sak S0)), .int (Sow S0)])), ((A0 2), .inl (Z 0, 6, .inl (Sf S0))), ((A0 3), .inl (Z 0, 60, .inl (She S0))), ((A0 4), .inl (Z 0, 6, .inl (Sti S0))), ((A0 5), .inl (Z 0, 10, .inl (fun j => nI ((Ssn S0) j)))), ((A0 6), .inl (Z 0, 40, .inl (fun j => nI ((Ssp S0) j)))), ((A0 7), .inl (Z 0, 40, .inl (fun j => nI ((Ssy S0) j)))), ((AD (tN top nr) 0), .inr (1, [.ref (AD (tN top nr) 1), .ref (AD (tN top nr) 3), .ref (AD (tN top nr) 4), .ref (AD (tN top nr) 5), .ref (AD (tN top nr) 6), .ref (AD (tN top nr) 7), .int (nI (Sse (ST (tN top nr)))), .int (nI (Sde (ST (tN top nr))))])), ((AD (tN top nr) 1), .inr (6, [.ref (AD (tN top nr) 2), .int (nI (Sn (ST (tN top nr)))), .int (nI (Sdy (ST (tN top nr)))), .int (bI (Sak (ST (tN top nr)))), .int (Sow (ST (tN top nr)))])), ((AD (tN top nr) 2), .inl (Z 0, 6, .inl (Sf (ST (tN top nr))))), ((AD (tN top nr) 3), .inl (Z 0, 60, .inl (She (ST (tN top nr))))), ((AD (tN top nr) 4), .inl (Z 0, 6, .inl (Sti (ST (tN top nr))))), ((AD (tN top nr) 5), .inl (Z 0, 10, .inl (fun j => nI ((Ssn (ST (tN top nr))) j)))), ((AD (tN top nr) 6), .inl (Z 0, 40, .inl (fun j => nI ((Ssp (ST (tN top nr))) j)))), ((AD (tN top nr) 7), .inl (Z 0, 40, .inl (fun j => nI ((Ssy (ST (tN top nr))) j))))] : va_W) ++ (poolX Z AD ST nr (tN top nr)))) (pool_out (Z := Z) (AD := AD) (ST := ST) (nr := nr) (j := (tN top nr)) (tN_lt (by omega)) _) ?_
    refine G_aload_n (q := 56) dX3_push_55 rfl 2 rfl rfl ?_
    refine G_aload_n (q := 57) dX3_push_56 rfl 1 rfl rfl ?_
    refine G_callVX (As := [.ref (A0 0)]) (rest := []) (st2 := []) (ws2 := (([(p, .inr (3, [.ref r, .int (nI (tN top nr)), .int (nI (min (held + 1) nr))])), (r, .inl (Z 3, nr, .inr (.inr (.inr (.inr (fun j => some (AD j 0))))))), (A0 0, .inr (1, [.ref (A0 1), .ref (A0 3), .ref (A0 4), .ref (A0 5), .ref (A0 6), .ref (A0 7), .int (nI (Sse S0)), .int (nI (Sde S0))])), ((A0 1), .inr (6, [.ref (A0 2), .int (nI (Sn S0)), .int (nI (Sdy S0)), .int (bI (Sak S0)), .int (Sow S0)])), ((A0 2), .inl (Z 0, 6, .inl (Sf S0))), ((A0 3), .inl (Z 0, 60, .inl (She S0))), ((A0 4), .inl (Z 0, 6, .inl (Sti S0))), ((A0 5), .inl (Z 0, 10, .inl (fun j => nI ((Ssn S0) j)))), ((A0 6), .inl (Z 0, 40, .inl (fun j => nI ((Ssp S0) j)))), ((A0 7), .inl (Z 0, 40, .inl (fun j => nI ((Ssy S0) j)))), (AD (tN top nr) 0, .inr (1, [.ref (AD (tN top nr) 1), .ref (AD (tN top nr) 3), .ref (AD (tN top nr) 4), .ref (AD (tN top nr) 5), .ref (AD (tN top nr) 6), .ref (AD (tN top nr) 7), .int (nI (Sse S0)), .int (nI (Sde S0))])), ((AD (tN top nr) 1), .inr (6, [.ref (AD (tN top nr) 2), .int (nI (Sn S0)), .int (nI (Sdy S0)), .int (bI (Sak S0)), .int (Sow S0)])), ((AD (tN top nr) 2), .inl (Z 0, 6, .inl (Sf S0))), ((AD (tN top nr) 3), .inl (Z 0, 60, .inl (She S0))), ((AD (tN top nr) 4), .inl (Z 0, 6, .inl (Sti S0))), ((AD (tN top nr) 5), .inl (Z 0, 10, .inl (fun j => nI ((Ssn S0) j)))), ((AD (tN top nr) 6), .inl (Z 0, 40, .inl (fun j => nI ((Ssp S0) j)))), ((AD (tN top nr) 7), .inl (Z 0, 40, .inl (fun j => nI ((Ssy S0) j))))] : va_W) ++ (poolX Z AD ST nr (tN top nr)))) (q := 60) dX3_push_57 [10, 11, 12, 13, 14, 15, 16, 17, 2, 3, 4, 5, 6, 7, 8, 9] (ct_X1_copy Z (AD (tN top nr) 0) (AD (tN top nr) 1) (AD (tN top nr) 2) (AD (tN top nr) 3) (AD (tN top nr) 4) (AD (tN top nr) 5) (AD (tN top nr) 6) (AD (tN top nr) 7) (Sf (ST (tN top nr))) (She (ST (tN top nr))) (Sti (ST (tN top nr))) (Ssn (ST (tN top nr))) (Ssp (ST (tN top nr))) (Ssy (ST (tN top nr))) (Sn (ST (tN top nr))) (Sdy (ST (tN top nr))) (Sse (ST (tN top nr))) (Sde (ST (tN top nr))) (Sak (ST (tN top nr))) (Sow (ST (tN top nr))) (A0 0) (A0 1) (A0 2) (A0 3) (A0 4) (A0 5) (A0 6) (A0 7) (Sf S0) (She S0) (Sti S0) (Ssn S0) (Ssp S0) (Ssy S0) (Sn S0) (Sdy S0) (Sse S0) (Sde S0) (Sak S0) (Sow S0)) (fun h => h) cs_X1_copy gX3_push_X1_copy rfl ⟨Nat.le_of_ble_eq_true rfl, Nat.le_of_ble_eq_true rfl⟩ ⟨rfl, rfl⟩ 10 rfl (show vwCl[1]? = some (RX1, TX1, 8) from rfl) rfl (by decide) rfl rfl (Nat.le_of_ble_eq_true rfl) ⟨by decide, by decide⟩ rfl rfl rfl rfl ?_
    refine GG.perm (ws2 := (([(p, .inr (3, [.ref r, .int (nI (tN top nr)), .int (nI (min (held + 1) nr))])), (r, .inl (Z 3, nr, .inr (.inr (.inr (.inr (fun j => some (AD j 0))))))), (A0 0, .inr (1, [.ref (A0 1), .ref (A0 3), .ref (A0 4), .ref (A0 5), .ref (A0 6), .ref (A0 7), .int (nI (Sse S0)), .int (nI (Sde S0))])), ((A0 1), .inr (6, [.ref (A0 2), .int (nI (Sn S0)), .int (nI (Sdy S0)), .int (bI (Sak S0)), .int (Sow S0)])), ((A0 2), .inl (Z 0, 6, .inl (Sf S0))), ((A0 3), .inl (Z 0, 60, .inl (She S0))), ((A0 4), .inl (Z 0, 6, .inl (Sti S0))), ((A0 5), .inl (Z 0, 10, .inl (fun j => nI ((Ssn S0) j)))), ((A0 6), .inl (Z 0, 40, .inl (fun j => nI ((Ssp S0) j)))), ((A0 7), .inl (Z 0, 40, .inl (fun j => nI ((Ssy S0) j))))] : va_W) ++ (poolW Z AD (va_up ST (tN top nr) S0) nr))) (pool_in (Z := Z) (AD := AD) (ST := ST) (nr := nr) (j := (tN top nr)) (S := S0) (tN_lt (by omega)) [(p, .inr (3, [.ref r, .int (nI (tN top nr)), .int (nI (min (held + 1) nr))])), (r, .inl (Z 3, nr, .inr (.inr (.inr (.inr (fun j => some (AD j 0))))))), ((A0 0), .inr (1, [.ref (A0 1), .ref (A0 3), .ref (A0 4), .ref (A0 5), .ref (A0 6), .ref (A0 7), .int (nI (Sse S0)), .int (nI (Sde S0))])), ((A0 1), .inr (6, [.ref (A0 2), .int (nI (Sn S0)), .int (nI (Sdy S0)), .int (bI (Sak S0)), .int (Sow S0)])), ((A0 2), .inl (Z 0, 6, .inl (Sf S0))), ((A0 3), .inl (Z 0, 60, .inl (She S0))), ((A0 4), .inl (Z 0, 6, .inl (Sti S0))), ((A0 5), .inl (Z 0, 10, .inl (fun j => nI ((Ssn S0) j)))), ((A0 6), .inl (Z 0, 40, .inl (fun j => nI ((Ssp S0) j)))), ((A0 7), .inl (Z 0, 40, .inl (fun j => nI ((Ssy S0) j))))]) ?_
    refine GG.of (ws2 := (([(p, .inr (3, [.ref r, .int (nI (tN top nr)), .int (nI (min (held + 1) nr))])), (r, .inl (Z 3, nr, .inr (.inr (.inr (.inr (fun j => some (AD j 0))))))), ((A0 0), .inr (1, [.ref (A0 1), .ref (A0 3), .ref (A0 4), .ref (A0 5), .ref (A0 6), .ref (A0 7), .int (nI (Sse S0)), .int (nI (Sde S0))])), ((A0 1), .inr (6, [.ref (A0 2), .int (nI (Sn S0)), .int (nI (Sdy S0)), .int (bI (Sak S0)), .int (Sow S0)])), ((A0 2), .inl (Z 0, 6, .inl (Sf S0))), ((A0 3), .inl (Z 0, 60, .inl (She S0))), ((A0 4), .inl (Z 0, 6, .inl (Sti S0))), ((A0 5), .inl (Z 0, 10, .inl (fun j => nI ((Ssn S0) j)))), ((A0 6), .inl (Z 0, 40, .inl (fun j => nI ((Ssp S0) j)))), ((A0 7), .inl (Z 0, 40, .inl (fun j => nI ((Ssy S0) j))))] : va_W) ++ (poolW Z AD (va_up ST (tN top nr) S0) nr))) (lv2 := [(0, .ref p), (1, .ref (A0 0)), (2, .ref (AD (tN top nr) 0))]) (st2 := []) (ws_a (ws_c (rfl) (ws_c (rfl) (ws_c (rfl) (ws_c (rfl) (ws_c (rfl) (ws_c (rfl) (ws_c (rfl) (ws_c (rfl) (ws_c (rfl) (ws_c (rfl) (rfl))))))))))) (rfl)) (rfl) (rfl) ?_
    exact G_ret dX3_push_60 rfl rfl ⟨rfl, rfl⟩
  refine G_icmp_geN (tgt := 24) (q := 15) dX3_push_12 (by decide) rfl (by omega) (by omega) (fun c12 => ?_) (fun c12 => ?_)
  · refine G_iconst (v := nI 0) (q := 25) dX3_push_24 (by decide) rfl ?_
    refine GG.of (ws2 := (([(p, .inr (3, [.ref r, .int (nI top), .int (nI held)])), (r, .inl (Z 3, nr, .inr (.inr (.inr (.inr (fun j => some (AD j 0))))))), ((A0 0), .inr (1, [.ref (A0 1), .ref (A0 3), .ref (A0 4), .ref (A0 5), .ref (A0 6), .ref (A0 7), .int (nI (Sse S0)), .int (nI (Sde S0))])), ((A0 1), .inr (6, [.ref (A0 2), .int (nI (Sn S0)), .int (nI (Sdy S0)), .int (bI (Sak S0)), .int (Sow S0)])), ((A0 2), .inl (Z 0, 6, .inl (Sf S0))), ((A0 3), .inl (Z 0, 60, .inl (She S0))), ((A0 4), .inl (Z 0, 6, .inl (Sti S0))), ((A0 5), .inl (Z 0, 10, .inl (fun j => nI ((Ssn S0) j)))), ((A0 6), .inl (Z 0, 40, .inl (fun j => nI ((Ssp S0) j)))), ((A0 7), .inl (Z 0, 40, .inl (fun j => nI ((Ssy S0) j))))] : va_W) ++ (poolW Z AD ST nr))) (lv2 := [(0, .ref p), (1, .ref (A0 0))]) (st2 := [.int (nI (tN top nr)), .ref p]) (rfl) (rfl) (st_c (vi_c (show nI 0 = nI (tN top nr) from by first | (rw [tN, if_pos c12]) | (rw [tN, if_neg (by omega)]))) (st_c rfl (rfl))) ?_
    exact J25_1
  · refine G_aload_n (q := 16) dX3_push_15 rfl 0 rfl rfl ?_
    refine G_get (q := 19) dX3_push_16 0 rfl (show vwCl[3]? = some (RX3, TX3, 3) from rfl) 1 (by decide) in_X3_push_X3 fl_X3_push_26 rfl rfl ?_
    refine G_iconst (v := nI 1) (q := 20) dX3_push_19 (by decide) rfl ?_
    refine G_iaddN (a := top) (b := 1) (q := 21) dX3_push_20 rfl ?_
    refine G_goto (q := 25) dX3_push_21 (by decide) ?_
    refine GG.of (ws2 := (([(p, .inr (3, [.ref r, .int (nI top), .int (nI held)])), (r, .inl (Z 3, nr, .inr (.inr (.inr (.inr (fun j => some (AD j 0))))))), ((A0 0), .inr (1, [.ref (A0 1), .ref (A0 3), .ref (A0 4), .ref (A0 5), .ref (A0 6), .ref (A0 7), .int (nI (Sse S0)), .int (nI (Sde S0))])), ((A0 1), .inr (6, [.ref (A0 2), .int (nI (Sn S0)), .int (nI (Sdy S0)), .int (bI (Sak S0)), .int (Sow S0)])), ((A0 2), .inl (Z 0, 6, .inl (Sf S0))), ((A0 3), .inl (Z 0, 60, .inl (She S0))), ((A0 4), .inl (Z 0, 6, .inl (Sti S0))), ((A0 5), .inl (Z 0, 10, .inl (fun j => nI ((Ssn S0) j)))), ((A0 6), .inl (Z 0, 40, .inl (fun j => nI ((Ssp S0) j)))), ((A0 7), .inl (Z 0, 40, .inl (fun j => nI ((Ssy S0) j))))] : va_W) ++ (poolW Z AD ST nr))) (lv2 := [(0, .ref p), (1, .ref (A0 0))]) (st2 := [.int (nI (tN top nr)), .ref p]) (rfl) (rfl) (st_c (vi_c (show nI (top + 1) = nI (tN top nr) from by first | (rw [tN, if_pos c12]) | (rw [tN, if_neg (by omega)]))) (st_c rfl (rfl))) ?_
    exact J25_1
theorem cs_X3_pop : CS yX3_pop wsX3_pop cX3_pop 3 none 1 := ⟨⟨_, rfl⟩, by decide +kernel, by decide +kernel, by decide +kernel⟩
theorem fl_X3_pop_15 : Cond.fieldLink RX3 15 (TX3 0).1 (TX3 0).2.1 (TX3 0).2.2.1 ∈ wsX3_pop := by decide +kernel
theorem fl_X3_pop_22 : Cond.fieldLink RX3 22 (TX3 2).1 (TX3 2).2.1 (TX3 2).2.2.1 ∈ wsX3_pop := by decide +kernel
theorem fl_X3_pop_26 : Cond.fieldLink RX3 26 (TX3 1).1 (TX3 1).2.1 (TX3 1).2.2.1 ∈ wsX3_pop := by decide +kernel
theorem in_X3_pop_X3 : ∀ w ∈ u_ws RX3 TX3 3, w ∈ wsX3_pop := by decide +kernel
set_option maxHeartbeats 4000000 in
set_option maxRecDepth 100000 in
theorem ct_X3_pop (Z : Nat → ClassId) (p : Nat) (r : Nat) (top : Nat) (held : Nat) (nr : Nat) (AD : Nat → Nat → Nat) (A0 : Nat → Nat) (S0 : DS) (ST : Nat → DS) (hnr : nr ≤ 100) (ht : top < nr) (hh : held ≤ nr) (h0 : held ≠ 0): Ct false yX3_pop wsX3_pop ({ frames := 3, cells := 0, slots := 0, locals := 82 }) [.ref p, .ref (A0 0)] Z (([(p, .inr (3, [.ref r, .int (nI top), .int (nI held)])), (r, .inl (Z 3, nr, .inr (.inr (.inr (.inr (fun j => some (AD j 0))))))), ((A0 0), .inr (1, [.ref (A0 1), .ref (A0 3), .ref (A0 4), .ref (A0 5), .ref (A0 6), .ref (A0 7), .int (nI (Sse S0)), .int (nI (Sde S0))])), ((A0 1), .inr (6, [.ref (A0 2), .int (nI (Sn S0)), .int (nI (Sdy S0)), .int (bI (Sak S0)), .int (Sow S0)])), ((A0 2), .inl (Z 0, 6, .inl (Sf S0))), ((A0 3), .inl (Z 0, 60, .inl (She S0))), ((A0 4), .inl (Z 0, 6, .inl (Sti S0))), ((A0 5), .inl (Z 0, 10, .inl (fun j => nI ((Ssn S0) j)))), ((A0 6), .inl (Z 0, 40, .inl (fun j => nI ((Ssp S0) j)))), ((A0 7), .inl (Z 0, 40, .inl (fun j => nI ((Ssy S0) j))))] : va_W) ++ (poolW Z AD ST nr)) (rV (([(p, .inr (3, [.ref r, .int (nI (tP top nr)), .int (nI (held - 1))])), (r, .inl (Z 3, nr, .inr (.inr (.inr (.inr (fun j => some (AD j 0))))))), ((A0 0), .inr (1, [.ref (A0 1), .ref (A0 3), .ref (A0 4), .ref (A0 5), .ref (A0 6), .ref (A0 7), .int (nI (Sse (ST top))), .int (nI (Sde (ST top)))])), ((A0 1), .inr (6, [.ref (A0 2), .int (nI (Sn (ST top))), .int (nI (Sdy (ST top))), .int (bI (Sak (ST top))), .int (Sow (ST top))])), ((A0 2), .inl (Z 0, 6, .inl (Sf (ST top)))), ((A0 3), .inl (Z 0, 60, .inl (She (ST top)))), ((A0 4), .inl (Z 0, 6, .inl (Sti (ST top)))), ((A0 5), .inl (Z 0, 10, .inl (fun j => nI ((Ssn (ST top)) j)))), ((A0 6), .inl (Z 0, 40, .inl (fun j => nI ((Ssp (ST top)) j)))), ((A0 7), .inl (Z 0, 40, .inl (fun j => nI ((Ssy (ST top)) j))))] : va_W) ++ (poolW Z AD ST nr))) 0 0 := by
  refine Ct_of (cc := cX3_pop) (maxL := 3) (ret := none) (own := RX3) false false (by decide +kernel) rfl rfl (by decide) (fun v w h => by rw [h.1]; rfl) (Nat.le_of_ble_eq_true rfl) (fun X => ?_)
  show GG X _ _ _ _ _ _ _ _ _ _ _ _ _ _ [(0, .ref p), (1, .ref (A0 0))] _ _
  refine G_aload_n (q := 1) dX3_pop_0 rfl 0 rfl rfl ?_
  refine G_callVP (As := []) (rest := []) (st2 := [.ref (AD top 0)]) (q := 4) dX3_pop_1 [0, 1] (ct_X3_topRow Z p r top held nr AD (by omega) (by omega)) (fun h => h) cs_X3_topRow gX3_pop_X3_topRow rfl ⟨Nat.le_of_ble_eq_true rfl, Nat.le_of_ble_eq_true rfl⟩ ⟨rfl, rfl⟩ 0 rfl (show vwCl[3]? = some (RX3, TX3, 3) from rfl) rfl (by decide) rfl rfl (Nat.le_of_ble_eq_true rfl) ⟨by decide, by decide⟩ rfl rfl ?_
  refine G_astore_n (lv2 := [(0, .ref p), (1, .ref (A0 0)), (2, .ref (AD top 0))]) (q := 5) dX3_pop_4 rfl (by decide) rfl rfl ?_
  refine G_aload_n (q := 6) dX3_pop_5 rfl 0 rfl rfl ?_
  refine G_get (q := 9) dX3_pop_6 0 rfl (show vwCl[3]? = some (RX3, TX3, 3) from rfl) 2 (by decide) in_X3_pop_X3 fl_X3_pop_22 rfl rfl ?_
  refine G_if_leN (tgt := 58) (q := 12) dX3_pop_9 (by decide) rfl (by omega) (fun c9 => ?_) (fun c9 => ?_)
  · exact absurd c9 h0
  · refine G_aload_n (q := 13) dX3_pop_12 rfl 2 rfl rfl ?_
    refine G_ifnull (q := 16) dX3_pop_13 rfl ?_
    refine GG.perm (ws2 := (([(p, .inr (3, [.ref r, .int (nI top), .int (nI held)])), (r, .inl (Z 3, nr, .inr (.inr (.inr (.inr (fun j => some (AD j 0))))))), ((A0 0), .inr (1, [.ref (A0 1), .ref (A0 3), .ref (A0 4), .ref (A0 5), .ref (A0 6), .ref (A0 7), .int (nI (Sse S0)), .int (nI (Sde S0))])), ((A0 1), .inr (6, [.ref (A0 2), .int (nI (Sn S0)), .int (nI (Sdy S0)), .int (bI (Sak S0)), .int (Sow S0)])), ((A0 2), .inl (Z 0, 6, .inl (Sf S0))), ((A0 3), .inl (Z 0, 60, .inl (She S0))), ((A0 4), .inl (Z 0, 6, .inl (Sti S0))), ((A0 5), .inl (Z 0, 10, .inl (fun j => nI ((Ssn S0) j)))), ((A0 6), .inl (Z 0, 40, .inl (fun j => nI ((Ssp S0) j)))), ((A0 7), .inl (Z 0, 40, .inl (fun j => nI ((Ssy S0) j)))), ((AD top 0), .inr (1, [.ref (AD top 1), .ref (AD top 3), .ref (AD top 4), .ref (AD top 5), .ref (AD top 6), .ref (AD top 7), .int (nI (Sse (ST top))), .int (nI (Sde (ST top)))])), ((AD top 1), .inr (6, [.ref (AD top 2), .int (nI (Sn (ST top))), .int (nI (Sdy (ST top))), .int (bI (Sak (ST top))), .int (Sow (ST top))])), ((AD top 2), .inl (Z 0, 6, .inl (Sf (ST top)))), ((AD top 3), .inl (Z 0, 60, .inl (She (ST top)))), ((AD top 4), .inl (Z 0, 6, .inl (Sti (ST top)))), ((AD top 5), .inl (Z 0, 10, .inl (fun j => nI ((Ssn (ST top)) j)))), ((AD top 6), .inl (Z 0, 40, .inl (fun j => nI ((Ssp (ST top)) j)))), ((AD top 7), .inl (Z 0, 40, .inl (fun j => nI ((Ssy (ST top)) j))))] : va_W) ++ (poolX Z AD ST nr top))) (pool_out (Z := Z) (AD := AD) (ST := ST) (nr := nr) (j := top) ht _) ?_
    refine G_aload_n (q := 17) dX3_pop_16 rfl 1 rfl rfl ?_
    refine G_aload_n (q := 18) dX3_pop_17 rfl 2 rfl rfl ?_
    refine G_callVX (As := [.ref (AD top 0)]) (rest := []) (st2 := []) (ws2 := (([(p, .inr (3, [.ref r, .int (nI top), .int (nI held)])), (r, .inl (Z 3, nr, .inr (.inr (.inr (.inr (fun j => some (AD j 0))))))), (A0 0, .inr (1, [.ref (A0 1), .ref (A0 3), .ref (A0 4), .ref (A0 5), .ref (A0 6), .ref (A0 7), .int (nI (Sse (ST top))), .int (nI (Sde (ST top)))])), ((A0 1), .inr (6, [.ref (A0 2), .int (nI (Sn (ST top))), .int (nI (Sdy (ST top))), .int (bI (Sak (ST top))), .int (Sow (ST top))])), ((A0 2), .inl (Z 0, 6, .inl (Sf (ST top)))), ((A0 3), .inl (Z 0, 60, .inl (She (ST top)))), ((A0 4), .inl (Z 0, 6, .inl (Sti (ST top)))), ((A0 5), .inl (Z 0, 10, .inl (fun j => nI ((Ssn (ST top)) j)))), ((A0 6), .inl (Z 0, 40, .inl (fun j => nI ((Ssp (ST top)) j)))), ((A0 7), .inl (Z 0, 40, .inl (fun j => nI ((Ssy (ST top)) j)))), (AD top 0, .inr (1, [.ref (AD top 1), .ref (AD top 3), .ref (AD top 4), .ref (AD top 5), .ref (AD top 6), .ref (AD top 7), .int (nI (Sse (ST top))), .int (nI (Sde (ST top)))])), ((AD top 1), .inr (6, [.ref (AD top 2), .int (nI (Sn (ST top))), .int (nI (Sdy (ST top))), .int (bI (Sak (ST top))), .int (Sow (ST top))])), ((AD top 2), .inl (Z 0, 6, .inl (Sf (ST top)))), ((AD top 3), .inl (Z 0, 60, .inl (She (ST top)))), ((AD top 4), .inl (Z 0, 6, .inl (Sti (ST top)))), ((AD top 5), .inl (Z 0, 10, .inl (fun j => nI ((Ssn (ST top)) j)))), ((AD top 6), .inl (Z 0, 40, .inl (fun j => nI ((Ssp (ST top)) j)))), ((AD top 7), .inl (Z 0, 40, .inl (fun j => nI ((Ssy (ST top)) j))))] : va_W) ++ (poolX Z AD ST nr top))) (q := 21) dX3_pop_18 [2, 3, 4, 5, 6, 7, 8, 9, 10, 11, 12, 13, 14, 15, 16, 17] (ct_X1_copy Z (A0 0) (A0 1) (A0 2) (A0 3) (A0 4) (A0 5) (A0 6) (A0 7) (Sf S0) (She S0) (Sti S0) (Ssn S0) (Ssp S0) (Ssy S0) (Sn S0) (Sdy S0) (Sse S0) (Sde S0) (Sak S0) (Sow S0) (AD top 0) (AD top 1) (AD top 2) (AD top 3) (AD top 4) (AD top 5) (AD top 6) (AD top 7) (Sf (ST top)) (She (ST top)) (Sti (ST top)) (Ssn (ST top)) (Ssp (ST top)) (Ssy (ST top)) (Sn (ST top)) (Sdy (ST top)) (Sse (ST top)) (Sde (ST top)) (Sak (ST top)) (Sow (ST top))) (fun h => h) cs_X1_copy gX3_pop_X1_copy rfl ⟨Nat.le_of_ble_eq_true rfl, Nat.le_of_ble_eq_true rfl⟩ ⟨rfl, rfl⟩ 2 rfl (show vwCl[1]? = some (RX1, TX1, 8) from rfl) rfl (by decide) rfl rfl (Nat.le_of_ble_eq_true rfl) ⟨by decide, by decide⟩ rfl rfl rfl rfl ?_
    refine GG.perm (ws2 := (([(p, .inr (3, [.ref r, .int (nI top), .int (nI held)])), (r, .inl (Z 3, nr, .inr (.inr (.inr (.inr (fun j => some (AD j 0))))))), (A0 0, .inr (1, [.ref (A0 1), .ref (A0 3), .ref (A0 4), .ref (A0 5), .ref (A0 6), .ref (A0 7), .int (nI (Sse (ST top))), .int (nI (Sde (ST top)))])), ((A0 1), .inr (6, [.ref (A0 2), .int (nI (Sn (ST top))), .int (nI (Sdy (ST top))), .int (bI (Sak (ST top))), .int (Sow (ST top))])), ((A0 2), .inl (Z 0, 6, .inl (Sf (ST top)))), ((A0 3), .inl (Z 0, 60, .inl (She (ST top)))), ((A0 4), .inl (Z 0, 6, .inl (Sti (ST top)))), ((A0 5), .inl (Z 0, 10, .inl (fun j => nI ((Ssn (ST top)) j)))), ((A0 6), .inl (Z 0, 40, .inl (fun j => nI ((Ssp (ST top)) j)))), ((A0 7), .inl (Z 0, 40, .inl (fun j => nI ((Ssy (ST top)) j))))] : va_W) ++ (poolW Z AD (va_up ST top (ST top)) nr))) (pool_in (Z := Z) (AD := AD) (ST := ST) (nr := nr) (j := top) (S := ST top) ht [(p, .inr (3, [.ref r, .int (nI top), .int (nI held)])), (r, .inl (Z 3, nr, .inr (.inr (.inr (.inr (fun j => some (AD j 0))))))), ((A0 0), .inr (1, [.ref (A0 1), .ref (A0 3), .ref (A0 4), .ref (A0 5), .ref (A0 6), .ref (A0 7), .int (nI (Sse (ST top))), .int (nI (Sde (ST top)))])), ((A0 1), .inr (6, [.ref (A0 2), .int (nI (Sn (ST top))), .int (nI (Sdy (ST top))), .int (bI (Sak (ST top))), .int (Sow (ST top))])), ((A0 2), .inl (Z 0, 6, .inl (Sf (ST top)))), ((A0 3), .inl (Z 0, 60, .inl (She (ST top)))), ((A0 4), .inl (Z 0, 6, .inl (Sti (ST top)))), ((A0 5), .inl (Z 0, 10, .inl (fun j => nI ((Ssn (ST top)) j)))), ((A0 6), .inl (Z 0, 40, .inl (fun j => nI ((Ssp (ST top)) j)))), ((A0 7), .inl (Z 0, 40, .inl (fun j => nI ((Ssy (ST top)) j))))]) ?_
    rw [up_same]
    refine G_aload_n (q := 22) dX3_pop_21 rfl 0 rfl rfl ?_
    refine G_dup (q := 23) dX3_pop_22 rfl rfl ?_
    refine G_get (q := 26) dX3_pop_23 0 rfl (show vwCl[3]? = some (RX3, TX3, 3) from rfl) 2 (by decide) in_X3_pop_X3 fl_X3_pop_22 rfl rfl ?_
    refine G_iconst (v := nI 1) (q := 27) dX3_pop_26 (by decide) rfl ?_
    refine G_isubN (a := held) (b := 1) (q := 28) dX3_pop_27 (by omega) rfl ?_
    refine G_put (ws2 := (([(p, .inr (3, [.ref r, .int (nI top), .int (nI (held - 1))])), (r, .inl (Z 3, nr, .inr (.inr (.inr (.inr (fun j => some (AD j 0))))))), (A0 0, .inr (1, [.ref (A0 1), .ref (A0 3), .ref (A0 4), .ref (A0 5), .ref (A0 6), .ref (A0 7), .int (nI (Sse (ST top))), .int (nI (Sde (ST top)))])), ((A0 1), .inr (6, [.ref (A0 2), .int (nI (Sn (ST top))), .int (nI (Sdy (ST top))), .int (bI (Sak (ST top))), .int (Sow (ST top))])), ((A0 2), .inl (Z 0, 6, .inl (Sf (ST top)))), ((A0 3), .inl (Z 0, 60, .inl (She (ST top)))), ((A0 4), .inl (Z 0, 6, .inl (Sti (ST top)))), ((A0 5), .inl (Z 0, 10, .inl (fun j => nI ((Ssn (ST top)) j)))), ((A0 6), .inl (Z 0, 40, .inl (fun j => nI ((Ssp (ST top)) j)))), ((A0 7), .inl (Z 0, 40, .inl (fun j => nI ((Ssy (ST top)) j))))] : va_W) ++ (poolW Z AD ST nr))) (q := 31) dX3_pop_28 0 rfl (show vwCl[3]? = some (RX3, TX3, 3) from rfl) cf_X3 2 (by decide) in_X3_pop_X3 fl_X3_pop_22 rfl (rfl) rfl (by simp only [List.length_cons, List.length_nil]; decide) rfl rfl ?_
    refine G_aload_n (q := 32) dX3_pop_31 rfl 0 rfl rfl ?_
    refine G_aload_n (q := 33) dX3_pop_32 rfl 0 rfl rfl ?_
    refine G_get (q := 36) dX3_pop_33 0 rfl (show vwCl[3]? = some (RX3, TX3, 3) from rfl) 1 (by decide) in_X3_pop_X3 fl_X3_pop_26 rfl rfl ?_
    have J55_1 : GG X ({ frames := 3, cells := 0, slots := 0, locals := 82 }) cX3_pop 3 wsX3_pop RX3 false false Z (rV (([(p, .inr (3, [.ref r, .int (nI (tP top nr)), .int (nI (held - 1))])), (r, .inl (Z 3, nr, .inr (.inr (.inr (.inr (fun j => some (AD j 0))))))), ((A0 0), .inr (1, [.ref (A0 1), .ref (A0 3), .ref (A0 4), .ref (A0 5), .ref (A0 6), .ref (A0 7), .int (nI (Sse (ST top))), .int (nI (Sde (ST top)))])), ((A0 1), .inr (6, [.ref (A0 2), .int (nI (Sn (ST top))), .int (nI (Sdy (ST top))), .int (bI (Sak (ST top))), .int (Sow (ST top))])), ((A0 2), .inl (Z 0, 6, .inl (Sf (ST top)))), ((A0 3), .inl (Z 0, 60, .inl (She (ST top)))), ((A0 4), .inl (Z 0, 6, .inl (Sti (ST top)))), ((A0 5), .inl (Z 0, 10, .inl (fun j => nI ((Ssn (ST top)) j)))), ((A0 6), .inl (Z 0, 40, .inl (fun j => nI ((Ssp (ST top)) j)))), ((A0 7), .inl (Z 0, 40, .inl (fun j => nI ((Ssy (ST top)) j))))] : va_W) ++ (poolW Z AD ST nr))) 0 0 0 0 (([(p, .inr (3, [.ref r, .int (nI top), .int (nI (held - 1))])), (r, .inl (Z 3, nr, .inr (.inr (.inr (.inr (fun j => some (AD j 0))))))), (A0 0, .inr (1, [.ref (A0 1), .ref (A0 3), .ref (A0 4), .ref (A0 5), .ref (A0 6), .ref (A0 7), .int (nI (Sse (ST top))), .int (nI (Sde (ST top)))])), ((A0 1), .inr (6, [.ref (A0 2), .int (nI (Sn (ST top))), .int (nI (Sdy (ST top))), .int (bI (Sak (ST top))), .int (Sow (ST top))])), ((A0 2), .inl (Z 0, 6, .inl (Sf (ST top)))), ((A0 3), .inl (Z 0, 60, .inl (She (ST top)))), ((A0 4), .inl (Z 0, 6, .inl (Sti (ST top)))), ((A0 5), .inl (Z 0, 10, .inl (fun j => nI ((Ssn (ST top)) j)))), ((A0 6), .inl (Z 0, 40, .inl (fun j => nI ((Ssp (ST top)) j)))), ((A0 7), .inl (Z 0, 40, .inl (fun j => nI ((Ssy (ST top)) j))))] : va_W) ++ (poolW Z AD ST nr)) [(0, .ref p), (1, .ref (A0 0)), (2, .ref (AD top 0))] [.int (nI (tP top nr)), .ref p] 55 := by
      refine G_put (ws2 := (([(p, .inr (3, [.ref r, .int (nI (tP top nr)), .int (nI (held - 1))])), (r, .inl (Z 3, nr, .inr (.inr (.inr (.inr (fun j => some (AD j 0))))))), (A0 0, .inr (1, [.ref (A0 1), .ref (A0 3), .ref (A0 4), .ref (A0 5), .ref (A0 6), .ref (A0 7), .int (nI (Sse (ST top))), .int (nI (Sde (ST top)))])), ((A0 1), .inr (6, [.ref (A0 2), .int (nI (Sn (ST top))), .int (nI (Sdy (ST top))), .int (bI (Sak (ST top))), .int (Sow (ST top))])), ((A0 2), .inl (Z 0, 6, .inl (Sf (ST top)))), ((A0 3), .inl (Z 0, 60, .inl (She (ST top)))), ((A0 4), .inl (Z 0, 6, .inl (Sti (ST top)))), ((A0 5), .inl (Z 0, 10, .inl (fun j => nI ((Ssn (ST top)) j)))), ((A0 6), .inl (Z 0, 40, .inl (fun j => nI ((Ssp (ST top)) j)))), ((A0 7), .inl (Z 0, 40, .inl (fun j => nI ((Ssy (ST top)) j))))] : va_W) ++ (poolW Z AD ST nr))) (q := 58) dX3_pop_55 0 rfl (show vwCl[3]? = some (RX3, TX3, 3) from rfl) cf_X3 1 (by decide) in_X3_pop_X3 fl_X3_pop_26 rfl (rfl) rfl (by simp only [List.length_cons, List.length_nil]; decide) rfl rfl ?_
      refine GG.of (ws2 := (([(p, .inr (3, [.ref r, .int (nI (tP top nr)), .int (nI (held - 1))])), (r, .inl (Z 3, nr, .inr (.inr (.inr (.inr (fun j => some (AD j 0))))))), ((A0 0), .inr (1, [.ref (A0 1), .ref (A0 3), .ref (A0 4), .ref (A0 5), .ref (A0 6), .ref (A0 7), .int (nI (Sse (ST top))), .int (nI (Sde (ST top)))])), ((A0 1), .inr (6, [.ref (A0 2), .int (nI (Sn (ST top))), .int (nI (Sdy (ST top))), .int (bI (Sak (ST top))), .int (Sow (ST top))])), ((A0 2), .inl (Z 0, 6, .inl (Sf (ST top)))), ((A0 3), .inl (Z 0, 60, .inl (She (ST top)))), ((A0 4), .inl (Z 0, 6, .inl (Sti (ST top)))), ((A0 5), .inl (Z 0, 10, .inl (fun j => nI ((Ssn (ST top)) j)))), ((A0 6), .inl (Z 0, 40, .inl (fun j => nI ((Ssp (ST top)) j)))), ((A0 7), .inl (Z 0, 40, .inl (fun j => nI ((Ssy (ST top)) j))))] : va_W) ++ (poolW Z AD ST nr))) (lv2 := [(0, .ref p), (1, .ref (A0 0)), (2, .ref (AD top 0))]) (st2 := []) (ws_a (ws_c (rfl) (ws_c (rfl) (ws_c (rfl) (ws_c (rfl) (ws_c (rfl) (ws_c (rfl) (ws_c (rfl) (ws_c (rfl) (ws_c (rfl) (ws_c (rfl) (rfl))))))))))) (rfl)) (rfl) (rfl) ?_
      exact G_ret dX3_pop_58 rfl rfl ⟨rfl, rfl⟩
    refine G_if_leN (tgt := 48) (q := 39) dX3_pop_36 (by decide) rfl (by omega) (fun c36 => ?_) (fun c36 => ?_)
    · refine G_aload_n (q := 49) dX3_pop_48 rfl 0 rfl rfl ?_
      refine G_get (q := 52) dX3_pop_49 0 rfl (show vwCl[3]? = some (RX3, TX3, 3) from rfl) 0 (by decide) in_X3_pop_X3 fl_X3_pop_15 rfl rfl ?_
      refine G_alen (q := 53) dX3_pop_52 1 rfl (show (tz Z)[3]? = _ from rfl) rfl ?_
      refine G_iconst (v := nI 1) (q := 54) dX3_pop_53 (by decide) rfl ?_
      refine G_isubN (a := nr) (b := 1) (q := 55) dX3_pop_54 (by omega) rfl ?_
      refine GG.of (ws2 := (([(p, .inr (3, [.ref r, .int (nI top), .int (nI (held - 1))])), (r, .inl (Z 3, nr, .inr (.inr (.inr (.inr (fun j => some (AD j 0))))))), (A0 0, .inr (1, [.ref (A0 1), .ref (A0 3), .ref (A0 4), .ref (A0 5), .ref (A0 6), .ref (A0 7), .int (nI (Sse (ST top))), .int (nI (Sde (ST top)))])), ((A0 1), .inr (6, [.ref (A0 2), .int (nI (Sn (ST top))), .int (nI (Sdy (ST top))), .int (bI (Sak (ST top))), .int (Sow (ST top))])), ((A0 2), .inl (Z 0, 6, .inl (Sf (ST top)))), ((A0 3), .inl (Z 0, 60, .inl (She (ST top)))), ((A0 4), .inl (Z 0, 6, .inl (Sti (ST top)))), ((A0 5), .inl (Z 0, 10, .inl (fun j => nI ((Ssn (ST top)) j)))), ((A0 6), .inl (Z 0, 40, .inl (fun j => nI ((Ssp (ST top)) j)))), ((A0 7), .inl (Z 0, 40, .inl (fun j => nI ((Ssy (ST top)) j))))] : va_W) ++ (poolW Z AD ST nr))) (lv2 := [(0, .ref p), (1, .ref (A0 0)), (2, .ref (AD top 0))]) (st2 := [.int (nI (tP top nr)), .ref p]) (rfl) (rfl) (st_c (vi_c (show nI (nr - 1) = nI (tP top nr) from by first | (rw [tP, if_pos c36]) | (rw [tP, if_neg c36]))) (st_c rfl (rfl))) ?_
      exact J55_1
    · refine G_aload_n (q := 40) dX3_pop_39 rfl 0 rfl rfl ?_
      refine G_get (q := 43) dX3_pop_40 0 rfl (show vwCl[3]? = some (RX3, TX3, 3) from rfl) 1 (by decide) in_X3_pop_X3 fl_X3_pop_26 rfl rfl ?_
      refine G_iconst (v := nI 1) (q := 44) dX3_pop_43 (by decide) rfl ?_
      refine G_isubN (a := top) (b := 1) (q := 45) dX3_pop_44 (by omega) rfl ?_
      refine G_goto (q := 55) dX3_pop_45 (by decide) ?_
      refine GG.of (ws2 := (([(p, .inr (3, [.ref r, .int (nI top), .int (nI (held - 1))])), (r, .inl (Z 3, nr, .inr (.inr (.inr (.inr (fun j => some (AD j 0))))))), (A0 0, .inr (1, [.ref (A0 1), .ref (A0 3), .ref (A0 4), .ref (A0 5), .ref (A0 6), .ref (A0 7), .int (nI (Sse (ST top))), .int (nI (Sde (ST top)))])), ((A0 1), .inr (6, [.ref (A0 2), .int (nI (Sn (ST top))), .int (nI (Sdy (ST top))), .int (bI (Sak (ST top))), .int (Sow (ST top))])), ((A0 2), .inl (Z 0, 6, .inl (Sf (ST top)))), ((A0 3), .inl (Z 0, 60, .inl (She (ST top)))), ((A0 4), .inl (Z 0, 6, .inl (Sti (ST top)))), ((A0 5), .inl (Z 0, 10, .inl (fun j => nI ((Ssn (ST top)) j)))), ((A0 6), .inl (Z 0, 40, .inl (fun j => nI ((Ssp (ST top)) j)))), ((A0 7), .inl (Z 0, 40, .inl (fun j => nI ((Ssy (ST top)) j))))] : va_W) ++ (poolW Z AD ST nr))) (lv2 := [(0, .ref p), (1, .ref (A0 0)), (2, .ref (AD top 0))]) (st2 := [.int (nI (tP top nr)), .ref p]) (rfl) (rfl) (st_c (vi_c (show nI (top - 1) = nI (tP top nr) from by first | (rw [tP, if_pos c36]) | (rw [tP, if_neg c36]))) (st_c rfl (rfl))) ?_
      exact J55_1
