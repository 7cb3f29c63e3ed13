
/-! PART 09: the text -/
def ltr (L : Nat → Nat) (ln p : Nat) : Nat := if p < ln then L p else 0
theorem ltr_lt {L : Nat → Nat} {ln : Nat} (h : ∀ j, L j < 128) (p : Nat) : ltr L ln p < 128 := by
  unfold ltr; split
  · exact h p
  · decide
def figN (L : Nat → Nat) (ln p : Nat) : Option Nat := if 48 ≤ ltr L ln p ∧ ltr L ln p ≤ 57 then some (ltr L ln p - 48) else none
theorem figN_lt {L : Nat → Nat} {ln p a : Nat} (h : figN L ln p = some a) : a ≤ 9 ∧ p < ln := by
  unfold figN at h
  split at h
  · next hc =>
    have e : ltr L ln p - 48 = a := Option.some.inj h
    refine ⟨by omega, ?_⟩
    rcases Nat.lt_or_ge p ln with h1 | h1
    · exact h1
    · have h2 : ltr L ln p = 0 := if_neg (by omega)
      omega
  · cases h
/-- -1, or a number -/
def oM : Option Nat → Int32
  | none => -1
  | some v => nI v
def numN (L : Nat → Nat) (ln p : Nat) : Option (Nat × Nat) := match figN L ln p with
  | none => none
  | some a => match figN L ln (p + 1) with
    | none => some (a, p + 1)
    | some b => some (10 * a + b, p + 2)
theorem numN_0 {L : Nat → Nat} {ln p : Nat} (h : figN L ln p = none) : numN L ln p = none := by rw [numN, h]
theorem numN_1 {L : Nat → Nat} {ln p a : Nat} (h : figN L ln p = some a) (h2 : figN L ln (p + 1) = none) : numN L ln p = some (a, p + 1) := by rw [numN, h]; simp [h2]
theorem numN_2 {L : Nat → Nat} {ln p a b : Nat} (h : figN L ln p = some a) (h2 : figN L ln (p + 1) = some b) : numN L ln p = some (10 * a + b, p + 1 + 1) := by rw [numN, h]; simp [h2]
theorem numN_bd {L : Nat → Nat} {ln p v q : Nat} (h : numN L ln p = some (v, q)) : v < 100 ∧ p < q := by
  rcases on_cases (figN L ln p) with h1 | ⟨a, h1⟩
  · rw [numN_0 h1] at h; cases h
  · rcases on_cases (figN L ln (p + 1)) with h2 | ⟨b, h2⟩
    · rw [numN_1 h1 h2] at h
      have := (figN_lt h1).1
      cases h
      omega
    · rw [numN_2 h1 h2] at h
      have := (figN_lt h1).1
      have := (figN_lt h2).1
      cases h
      omega
def sepN (many k : Nat) : Nat := if k + 1 < many then 44 else 59
theorem sepN_b (many k : Nat) : 44 ≤ sepN many k ∧ sepN many k ≤ 59 := by unfold sepN; split <;> omega
/-- so many numbers read from p0: the place behind, the numbers -/
def pnN (L : Nat → Nat) (ln many p0 : Nat) : Nat → Option (Nat × (Nat → Nat))
  | 0 => some (p0, fun _ => 0)
  | k + 1 => match pnN L ln many p0 k with
    | none => none
    | some (p, g) => match numN L ln p with
      | none => none
      | some (v, q) => if ltr L ln q = sepN many k then some (q + 1, updN g k v) else none
theorem pnN_f1 {L : Nat → Nat} {ln many p0 k p : Nat} {g : Nat → Nat} (h : pnN L ln many p0 k = some (p, g)) (h2 : numN L ln p = none) : pnN L ln many p0 (k + 1) = none := by rw [pnN, h]; simp [h2]
theorem pnN_f2 {L : Nat → Nat} {ln many p0 k p v q : Nat} {g : Nat → Nat} (h : pnN L ln many p0 k = some (p, g)) (h2 : numN L ln p = some (v, q)) (h3 : ¬ ltr L ln q = sepN many k) : pnN L ln many p0 (k + 1) = none := by rw [pnN, h]; simp [h2, h3]
theorem pnN_s {L : Nat → Nat} {ln many p0 k p v q : Nat} {g : Nat → Nat} (h : pnN L ln many p0 k = some (p, g)) (h2 : numN L ln p = some (v, q)) (h3 : ltr L ln q = sepN many k) : pnN L ln many p0 (k + 1) = some (q + 1, updN g k v) := by rw [pnN, h]; simp [h2, h3]
theorem pnN_up {L : Nat → Nat} {ln many p0 k : Nat} (h : pnN L ln many p0 k = none) : ∀ j, pnN L ln many p0 (k + j) = none
  | 0 => h
  | j + 1 => by rw [show k + (j + 1) = (k + j) + 1 by omega, pnN, pnN_up h j]
theorem pnN_no {L : Nat → Nat} {ln many p0 k m : Nat} (h : pnN L ln many p0 k = none) (hk : k ≤ m) : pnN L ln many p0 m = none := by
  have := pnN_up h (m - k)
  rwa [Nat.add_sub_cancel' hk] at this
theorem pn_cases {L : Nat → Nat} {ln many p0 : Nat} (k : Nat) : pnN L ln many p0 k = none ∨ ∃ p g, pnN L ln many p0 k = some (p, g) := by
  cases h : pnN L ln many p0 k with
  | none => exact Or.inl rfl
  | some x => exact Or.inr ⟨x.1, x.2, rfl⟩
theorem pnN_bd {L : Nat → Nat} {ln many p0 : Nat} (hp : p0 ≤ ln) : ∀ {k p : Nat} {g : Nat → Nat}, pnN L ln many p0 k = some (p, g) → (∀ j, g j < 100) ∧ p ≤ ln ∧ p0 ≤ p
  | 0, p, g, h => by
    have e : (p0, fun _ => 0) = (p, g) := Option.some.inj h
    cases e
    exact ⟨fun _ => Nat.zero_lt_succ _, hp, Nat.le_refl _⟩
  | k + 1, p, g, h => by
    rcases pn_cases (L := L) (ln := ln) (many := many) (p0 := p0) k with h0 | ⟨p1, g1, h0⟩
    · rw [pnN_no h0 (Nat.le_succ k)] at h; cases h
    · cases h2 : numN L ln p1 with
      | none => rw [pnN_f1 h0 h2] at h; cases h
      | some x =>
        obtain ⟨v, q⟩ := x
        by_cases h3 : ltr L ln q = sepN many k
        · rw [pnN_s h0 h2 h3] at h
          cases h
          obtain ⟨b1, b2, b3⟩ := pnN_bd hp h0
          obtain ⟨b4, b5⟩ := numN_bd h2
          refine ⟨fun j => ?_, ?_, by omega⟩
          · unfold updN; split
            · exact b4
            · exact b1 j
          · rcases Nat.lt_or_ge q ln with h5 | h5
            · exact h5
            · have h6 : ltr L ln q = 0 := if_neg (by omega)
              have := (sepN_b many k).1
              omega
        · rw [pnN_f2 h0 h2 h3] at h; cases h
theorem updN_ag {n8 g : Nat → Nat} {k v : Nat} (h : ∀ j, j < k → n8 j = g j) {j : Nat} (hj : j < k + 1) : updN n8 k v j = updN g k v j := by
  unfold updN
  by_cases e : j = k
  · rw [if_pos e, if_pos e]
  · rw [if_neg e, if_neg e]; exact h j (by omega)
theorem lt_updN {g : Nat → Nat} {i v m : Nat} (h : ∀ j, g j < m) (hv : v < m) (j : Nat) : updN g i v j < m := by
  unfold updN; split
  · exact hv
  · exact h j
theorem nI_m1 {q : Nat} (h : q < 2147483648) : ¬ nI q = -1 := fun e => by
  have h1 := nI_toInt h
  rw [e] at h1
  have h2 : (-1 : Int32).toInt = -1 := by decide
  omega
def pnR (L : Nat → Nat) (ln many p0 : Nat) : Option Nat := (pnN L ln many p0 many).map (fun x => x.1)
/-- a family: kinds, agos, mails, topics, questions; how many relatives, sayings; the deed, the hint -/
abbrev FS : Type := (Nat → Nat) × (Nat → Nat) × (Nat → Nat) × (Nat → Nat) × (Nat → Bool) × Nat × Nat × Nat × Nat
def Fkd (F : FS) : Nat → Nat := F.1
def Fag (F : FS) : Nat → Nat := F.2.1
def Fml (F : FS) : Nat → Nat := F.2.2.1
def Ftp (F : FS) : Nat → Nat := F.2.2.2.1
def Fqu (F : FS) : Nat → Bool := F.2.2.2.2.1
def Fn (F : FS) : Nat := F.2.2.2.2.2.1
def Fk (F : FS) : Nat := F.2.2.2.2.2.2.1
def Fdd (F : FS) : Nat := F.2.2.2.2.2.2.2.1
def Fh (F : FS) : Nat := F.2.2.2.2.2.2.2.2
def mkF (kd ag ml tp : Nat → Nat) (qu : Nat → Bool) (n k d h : Nat) : FS := (kd, ag, ml, tp, qu, n, k, d, h)
def okF (F : FS) : Prop := Fn F ≤ 6 ∧ Fk F ≤ 8 ∧ (∀ j, Fkd F j ≤ 4) ∧ (∀ j, Fag F j ≤ 99) ∧ (∀ j, Fml F j ≤ 9) ∧ (∀ j, Ftp F j < 64) ∧ Fdd F < 64 ∧ Fh F < 64
def clrF (F : FS) : FS := mkF (Fkd F) (Fag F) (Fml F) (Ftp F) (Fqu F) 0 0 1 3
theorem okF_clr {F : FS} (h : okF F) : okF (clrF F) := by
  obtain ⟨h1, h2, h3, h4, h5, h6, h7, h8⟩ := h
  exact ⟨Nat.zero_le _, Nat.zero_le _, h3, h4, h5, h6, (show 1 < 64 by decide), (show 3 < 64 by decide)⟩
def cR (F : FS) (g : Nat → Nat) : Prop := Fn F < 6 ∧ g 0 ≤ 4 ∧ g 1 ≤ 99 ∧ g 2 ≤ 9
def cS (F : FS) (g : Nat → Nat) : Prop := Fk F < 8 ∧ g 0 < 64 ∧ g 1 ≤ 1
def addR (F : FS) (g : Nat → Nat) : FS := mkF (updN (Fkd F) (Fn F) (g 0)) (updN (Fag F) (Fn F) (g 1)) (updN (Fml F) (Fn F) (g 2)) (Ftp F) (Fqu F) (Fn F + 1) (Fk F) (Fdd F) (Fh F)
def addS (F : FS) (g : Nat → Nat) : FS := mkF (Fkd F) (Fag F) (Fml F) (updN (Ftp F) (Fk F) (g 0)) (updB (Fqu F) (Fk F) (decide (g 1 = 1))) (Fn F) (Fk F + 1) (Fdd F) (Fh F)
def addD (F : FS) (g : Nat → Nat) : FS := mkF (Fkd F) (Fag F) (Fml F) (Ftp F) (Fqu F) (Fn F) (Fk F) (g 0) (Fh F)
def addH (F : FS) (g : Nat → Nat) : FS := mkF (Fkd F) (Fag F) (Fml F) (Ftp F) (Fqu F) (Fn F) (Fk F) (Fdd F) (g 0)
def addF (F : FS) (c : Nat) (g : Nat → Nat) : Option FS :=
  if c = 114 then (if Fn F < 6 ∧ g 0 ≤ 4 ∧ g 1 ≤ 99 ∧ g 2 ≤ 9 then some (addR F g) else none)
  else if c = 115 then (if Fk F < 8 ∧ g 0 < 64 ∧ g 1 ≤ 1 then some (addS F g) else none)
  else if c = 100 then (if g 0 < 64 then some (addD F g) else none)
  else if c = 104 then (if 1 ≤ g 0 ∧ g 0 ≤ 6 then some (addH F g) else none)
  else none
theorem le_updN {g : Nat → Nat} {i v m : Nat} (h : ∀ j, g j ≤ m) (hv : v ≤ m) (j : Nat) : updN g i v j ≤ m := by
  unfold updN; split
  · exact hv
  · exact h j
theorem okF_add {F F2 : FS} {c : Nat} {g : Nat → Nat} (h : okF F) (ha : addF F c g = some F2) : okF F2 := by
  obtain ⟨h1, h2, h3, h4, h5, h6, h7, h8⟩ := h
  unfold addF at ha
  split at ha
  · split at ha
    · next hc =>
      cases ha
      exact ⟨hc.1, h2, le_updN h3 hc.2.1, le_updN h4 hc.2.2.1, le_updN h5 hc.2.2.2, h6, h7, h8⟩
    · cases ha
  · split at ha
    · split at ha
      · next hc =>
        cases ha
        exact ⟨h1, hc.1, h3, h4, h5, fun j => Nat.lt_succ_of_le (le_updN (fun j => Nat.le_of_lt_succ (h6 j)) (Nat.le_of_lt_succ hc.2.1) j), h7, h8⟩
      · cases ha
    · split at ha
      · split at ha
        · next hc => cases ha; exact ⟨h1, h2, h3, h4, h5, h6, hc, h8⟩
        · cases ha
      · split at ha
        · split at ha
          · next hc => cases ha; exact ⟨h1, h2, h3, h4, h5, h6, h7, Nat.lt_of_le_of_lt hc.2 (by decide)⟩
          · cases ha
        · cases ha
def nbN (c : Nat) : Nat := if c = 114 then 3 else if c = 115 then 2 else if c = 100 ∨ c = 104 then 1 else 0
theorem nbN_le (c : Nat) : nbN c ≤ 3 := by
  unfold nbN
  split
  · omega
  · split
    · omega
    · split <;> omega
/-- only the numbers that are read count -/
theorem addF_cong {F : FS} {c : Nat} {g g2 : Nat → Nat} (h : ∀ j, j < nbN c → g j = g2 j) : addF F c g = addF F c g2 := by
  unfold addF
  by_cases c1 : c = 114
  · have e : nbN c = 3 := by rw [nbN, if_pos c1]
    have h0 := h 0 (by omega)
    have h1 := h 1 (by omega)
    have h2 := h 2 (by omega)
    simp only [if_pos c1, addR, h0, h1, h2]
  · by_cases c2 : c = 115
    · have e : nbN c = 2 := by rw [nbN, if_neg c1, if_pos c2]
      have h0 := h 0 (by omega)
      have h1 := h 1 (by omega)
      simp only [if_neg c1, if_pos c2, addS, h0, h1]
    · by_cases c3 : c = 100
      · have e : nbN c = 1 := by rw [nbN, if_neg c1, if_neg c2, if_pos (Or.inl c3)]
        have h0 := h 0 (by omega)
        simp only [if_neg c1, if_neg c2, if_pos c3, addD, h0]
      · by_cases c4 : c = 104
        · have e : nbN c = 1 := by rw [nbN, if_neg c1, if_neg c2, if_pos (Or.inr c4)]
          have h0 := h 0 (by omega)
          simp only [if_neg c1, if_neg c2, if_neg c3, if_pos c4, addH, h0]
        · simp only [if_neg c1, if_neg c2, if_neg c3, if_neg c4]
/-- an item from p on: the family with it, the place behind -/
def itN (L : Nat → Nat) (ln p : Nat) (F : FS) : Option (FS × Nat) := match pnN L ln (nbN (ltr L ln p)) (p + 1) (nbN (ltr L ln p)) with
  | none => none
  | some (q, g) => match addF F (ltr L ln p) g with
    | none => none
    | some F2 => some (F2, q)
theorem itN_0 {L : Nat → Nat} {ln p : Nat} {F : FS} (h : pnN L ln (nbN (ltr L ln p)) (p + 1) (nbN (ltr L ln p)) = none) : itN L ln p F = none := by rw [itN, h]
theorem itN_1 {L : Nat → Nat} {ln p q : Nat} {F : FS} {g : Nat → Nat} (h : pnN L ln (nbN (ltr L ln p)) (p + 1) (nbN (ltr L ln p)) = some (q, g)) (h2 : addF F (ltr L ln p) g = none) : itN L ln p F = none := by rw [itN, h]; simp [h2]
theorem itN_2 {L : Nat → Nat} {ln p q : Nat} {F F2 : FS} {g : Nat → Nat} (h : pnN L ln (nbN (ltr L ln p)) (p + 1) (nbN (ltr L ln p)) = some (q, g)) (h2 : addF F (ltr L ln p) g = some F2) : itN L ln p F = some (F2, q) := by rw [itN, h]; simp [h2]
theorem it_cases (L : Nat → Nat) (ln p : Nat) (F : FS) : itN L ln p F = none ∨ ∃ F2 q, itN L ln p F = some (F2, q) := by
  cases h : itN L ln p F with
  | none => exact Or.inl rfl
  | some x => exact Or.inr ⟨x.1, x.2, rfl⟩
theorem of_cases (o : Option FS) : o = none ∨ ∃ F, o = some F := by
  cases o with
  | none => exact Or.inl rfl
  | some x => exact Or.inr ⟨x, rfl⟩
theorem itN_bd {L : Nat → Nat} {ln p q : Nat} {F F2 : FS} (hp : p < ln) (hF : okF F) (h : itN L ln p F = some (F2, q)) : okF F2 ∧ p < q ∧ q ≤ ln := by
  rcases pn_cases (L := L) (ln := ln) (many := nbN (ltr L ln p)) (p0 := p + 1) (nbN (ltr L ln p)) with h0 | ⟨p1, g1, h0⟩
  · rw [itN_0 h0] at h; cases h
  · rcases of_cases (addF F (ltr L ln p) g1) with h2 | ⟨F3, h2⟩
    · rw [itN_1 h0 h2] at h; cases h
    · rw [itN_2 h0 h2] at h
      cases h
      obtain ⟨-, b2, b3⟩ := pnN_bd hp h0
      exact ⟨okF_add hF h2, by omega, b2⟩
/-- the text read item by item: a fault met, the family, the place -/
def prS (L : Nat → Nat) (ln : Nat) (F : FS) : Nat → Bool × FS × Nat
  | 0 => (false, clrF F, 0)
  | m + 1 => if (prS L ln F m).1 = true then prS L ln F m else if (prS L ln F m).2.2 < ln then
      (match itN L ln (prS L ln F m).2.2 (prS L ln F m).2.1 with
        | none => (true, (prS L ln F m).2.1, (prS L ln F m).2.2)
        | some x => (false, x.1, x.2)) else prS L ln F m
theorem prS_stop {L : Nat → Nat} {ln : Nat} {F : FS} {m : Nat} (h : (prS L ln F m).1 = true ∨ ¬ (prS L ln F m).2.2 < ln) : ∀ j, prS L ln F (m + j) = prS L ln F m
  | 0 => rfl
  | j + 1 => by
    rw [show m + (j + 1) = (m + j) + 1 by omega, prS, prS_stop h j]
    rcases h with h | h
    · rw [if_pos h]
    · by_cases h2 : (prS L ln F m).1 = true
      · rw [if_pos h2]
      · rw [if_neg h2, if_neg h]
theorem prS_at {L : Nat → Nat} {ln : Nat} {F : FS} {m M : Nat} (h : (prS L ln F m).1 = true ∨ ¬ (prS L ln F m).2.2 < ln) (hm : m ≤ M) : prS L ln F M = prS L ln F m := by
  have := prS_stop h (M - m)
  rwa [Nat.add_sub_cancel' hm] at this
theorem prS_n {L : Nat → Nat} {ln : Nat} {F : FS} {m : Nat} (h1 : (prS L ln F m).1 = false) (h2 : (prS L ln F m).2.2 < ln) (h3 : itN L ln (prS L ln F m).2.2 (prS L ln F m).2.1 = none) : prS L ln F (m + 1) = (true, (prS L ln F m).2.1, (prS L ln F m).2.2) := by
  rw [prS, if_neg (by rw [h1]; decide), if_pos h2, h3]
theorem prS_y {L : Nat → Nat} {ln : Nat} {F : FS} {m : Nat} {x : FS × Nat} (h1 : (prS L ln F m).1 = false) (h2 : (prS L ln F m).2.2 < ln) (h3 : itN L ln (prS L ln F m).2.2 (prS L ln F m).2.1 = some x) : prS L ln F (m + 1) = (false, x.1, x.2) := by
  rw [prS, if_neg (by rw [h1]; decide), if_pos h2, h3]
theorem prS_ok {L : Nat → Nat} {ln : Nat} {F : FS} (hF : okF F) : ∀ m, okF (prS L ln F m).2.1 ∧ (prS L ln F m).2.2 ≤ ln ∧ ((prS L ln F m).1 = false → (prS L ln F m).2.2 < ln → m ≤ (prS L ln F m).2.2)
  | 0 => ⟨okF_clr hF, Nat.zero_le _, fun _ _ => Nat.zero_le _⟩
  | m + 1 => by
    obtain ⟨i1, i2, i3⟩ := prS_ok (L := L) (ln := ln) hF m
    cases h1 : (prS L ln F m).1 with
    | true =>
      rw [prS_at (Or.inl h1) (Nat.le_succ m)]
      exact ⟨i1, i2, fun z => by rw [h1] at z; cases z⟩
    | false =>
      by_cases h2 : (prS L ln F m).2.2 < ln
      · rcases it_cases L ln (prS L ln F m).2.2 (prS L ln F m).2.1 with h3 | ⟨F2, q, h3⟩
        · rw [prS_n h1 h2 h3]
          exact ⟨i1, i2, fun z => by cases z⟩
        · rw [prS_y h1 h2 h3]
          obtain ⟨b1, b2, b3⟩ := itN_bd h2 i1 h3
          exact ⟨b1, b3, fun _ _ => by have := i3 h1 h2; show m + 1 ≤ q; omega⟩
      · rw [prS_at (Or.inr h2) (Nat.le_succ m)]
        exact ⟨i1, i2, fun _ z => absurd z h2⟩
/-- what reading the whole text answers -/
def rdV (L : Nat → Nat) (ln : Nat) (F : FS) : Int32 := if (prS L ln F 200).1 = true then nI (prS L ln F 200).2.2 else -4
def rdF (L : Nat → Nat) (ln : Nat) (F : FS) : FS := (prS L ln F 200).2.1

theorem cs_X4_length : CS yX4_length wsX4_length cX4_length 1 (some .int) 0 := ⟨⟨_, rfl⟩, by decide +kernel, by decide +kernel, by decide +kernel⟩
theorem fl_X4_length_19 : Cond.fieldLink RX4 19 (TX4 2).1 (TX4 2).2.1 (TX4 2).2.2.1 ∈ wsX4_length := by decide +kernel
theorem in_X4_length_X4 : ∀ w ∈ u_ws RX4 TX4 3, w ∈ wsX4_length := by decide +kernel
set_option maxHeartbeats 4000000 in
set_option maxRecDepth 100000 in
theorem ct_X4_length (Z : Nat → ClassId) (t : Nat) (lt : Nat) (nu : Nat) (L : Nat → Nat) (nm : Nat → Nat) (ln : Nat) : Ct false yX4_length wsX4_length ({ frames := 0, cells := 0, slots := 0, locals := 0 }) [.ref t] Z [(t, .inr (4, [.ref lt, .ref nu, .int (nI ln)])), (lt, .inl (Z 1, 200, .inl (fun j => nI (L j)))), (nu, .inl (Z 0, 3, .inl (fun j => nI (nm j))))] (rI (nI ln) [(t, .inr (4, [.ref lt, .ref nu, .int (nI ln)])), (lt, .inl (Z 1, 200, .inl (fun j => nI (L j)))), (nu, .inl (Z 0, 3, .inl (fun j => nI (nm j))))]) 0 0 := by
  refine Ct_of (cc := cX4_length) (maxL := 1) (ret := (some .int)) (own := RX4) false false (by decide +kernel) rfl rfl (by decide) (fun v w h => by rw [h.1]; exact ⟨_, rfl, rfl⟩) (Nat.le_of_ble_eq_true rfl) (fun X => ?_)
  show GG X _ _ _ _ _ _ _ _ _ _ _ _ _ _ [(0, .ref t)] _ _
  refine G_aload_n (q := 1) dX4_length_0 rfl 0 rfl rfl ?_
  refine G_get (q := 4) dX4_length_1 0 rfl (show vwCl[4]? = some (RX4, TX4, 3) from rfl) 2 (by decide) in_X4_length_X4 fl_X4_length_19 rfl rfl ?_
  exact G_iret dX4_length_4 rfl rfl ⟨rfl, rfl⟩
theorem cs_X4_clear : CS yX4_clear wsX4_clear cX4_clear 1 none 0 := ⟨⟨_, rfl⟩, by decide +kernel, by decide +kernel, by decide +kernel⟩
theorem fl_X4_clear_19 : Cond.fieldLink RX4 19 (TX4 2).1 (TX4 2).2.1 (TX4 2).2.2.1 ∈ wsX4_clear := by decide +kernel
theorem in_X4_clear_X4 : ∀ w ∈ u_ws RX4 TX4 3, w ∈ wsX4_clear := by decide +kernel
set_option maxHeartbeats 4000000 in
set_option maxRecDepth 100000 in
theorem ct_X4_clear (Z : Nat → ClassId) (t : Nat) (lt : Nat) (nu : Nat) (L : Nat → Nat) (nm : Nat → Nat) (ln : Nat) : Ct false yX4_clear wsX4_clear ({ frames := 0, cells := 0, slots := 0, locals := 0 }) [.ref t] Z [(t, .inr (4, [.ref lt, .ref nu, .int (nI ln)])), (lt, .inl (Z 1, 200, .inl (fun j => nI (L j)))), (nu, .inl (Z 0, 3, .inl (fun j => nI (nm j))))] (rV [(t, .inr (4, [.ref lt, .ref nu, .int (nI 0)])), (lt, .inl (Z 1, 200, .inl (fun j => nI (L j)))), (nu, .inl (Z 0, 3, .inl (fun j => nI (nm j))))]) 0 0 := by
  refine Ct_of (cc := cX4_clear) (maxL := 1) (ret := none) (own := RX4) false false (by decide +kernel) rfl rfl (by decide) (fun v w h => by rw [h.1]; rfl) (Nat.le_of_ble_eq_true rfl) (fun X => ?_)
  show GG X _ _ _ _ _ _ _ _ _ _ _ _ _ _ [(0, .ref t)] _ _
  refine G_aload_n (q := 1) dX4_clear_0 rfl 0 rfl rfl ?_
  refine G_iconst (v := nI 0) (q := 2) dX4_clear_1 (by decide) rfl ?_
  refine G_put (ws2 := [(t, .inr (4, [.ref lt, .ref nu, .int (nI 0)])), (lt, .inl (Z 1, 200, .inl (fun j => nI (L j)))), (nu, .inl (Z 0, 3, .inl (fun j => nI (nm j))))]) (q := 5) dX4_clear_2 0 rfl (show vwCl[4]? = some (RX4, TX4, 3) from rfl) cf_X4 2 (by decide) in_X4_clear_X4 fl_X4_clear_19 rfl (rfl) rfl (by simp only [List.length_cons, List.length_nil]; decide) rfl rfl ?_
  exact G_ret dX4_clear_5 rfl rfl ⟨rfl, rfl⟩
theorem cs_X4_append : CS yX4_append wsX4_append cX4_append 2 (some .boolean) 1 := ⟨⟨_, rfl⟩, by decide +kernel, by decide +kernel, by decide +kernel⟩
theorem fl_X4_append_19 : Cond.fieldLink RX4 19 (TX4 2).1 (TX4 2).2.1 (TX4 2).2.2.1 ∈ wsX4_append := by decide +kernel
theorem fl_X4_append_9 : Cond.fieldLink RX4 9 (TX4 0).1 (TX4 0).2.1 (TX4 0).2.2.1 ∈ wsX4_append := by decide +kernel
theorem in_X4_append_X4 : ∀ w ∈ u_ws RX4 TX4 3, w ∈ wsX4_append := by decide +kernel
set_option maxHeartbeats 4000000 in
set_option maxRecDepth 100000 in
theorem ct_X4_append_ok (Z : Nat → ClassId) (t : Nat) (lt : Nat) (nu : Nat) (L : Nat → Nat) (nm : Nat → Nat) (ln : Nat) (c : Nat) (hl : ln < 200) (hc : c < 128): Ct false yX4_append wsX4_append ({ frames := 0, cells := 0, slots := 0, locals := 0 }) [.ref t, .int (nI c)] Z [(t, .inr (4, [.ref lt, .ref nu, .int (nI ln)])), (lt, .inl (Z 1, 200, .inl (fun j => nI (L j)))), (nu, .inl (Z 0, 3, .inl (fun j => nI (nm j))))] (rI (bI true) [(t, .inr (4, [.ref lt, .ref nu, .int (nI (ln + 1))])), (lt, .inl (Z 1, 200, .inl (fun j => nI ((updN L ln c) j)))), (nu, .inl (Z 0, 3, .inl (fun j => nI (nm j))))]) 0 0 := by
  refine Ct_of (cc := cX4_append) (maxL := 2) (ret := (some .boolean)) (own := RX4) false false (by decide +kernel) rfl rfl (by decide) (fun v w h => by rw [h.1]; exact ⟨_, rfl, bI_01 _⟩) (Nat.le_of_ble_eq_true rfl) (fun X => ?_)
  show GG X _ _ _ _ _ _ _ _ _ _ _ _ _ _ [(0, .ref t), (1, .int (nI c))] _ _
  refine G_aload_n (q := 1) dX4_append_0 rfl 0 rfl rfl ?_
  refine G_get (q := 4) dX4_append_1 0 rfl (show vwCl[4]? = some (RX4, TX4, 3) from rfl) 2 (by decide) in_X4_append_X4 fl_X4_append_19 rfl rfl ?_
  refine G_sipush (v := nI 200) (q := 7) dX4_append_4 (by decide) rfl ?_
  refine G_icmp_ltN (tgt := 12) (q := 10) dX4_append_7 (by decide) rfl (by omega) (by omega) (fun c7 => ?_) (fun c7 => ?_)
  · refine G_aload_n (q := 13) dX4_append_12 rfl 0 rfl rfl ?_
    refine G_get (q := 16) dX4_append_13 0 rfl (show vwCl[4]? = some (RX4, TX4, 3) from rfl) 0 (by decide) in_X4_append_X4 fl_X4_append_9 rfl rfl ?_
    refine G_aload_n (q := 17) dX4_append_16 rfl 0 rfl rfl ?_
    refine G_get (q := 20) dX4_append_17 0 rfl (show vwCl[4]? = some (RX4, TX4, 3) from rfl) 2 (by decide) in_X4_append_X4 fl_X4_append_19 rfl rfl ?_
    refine G_iload_n (q := 21) dX4_append_20 rfl 1 rfl rfl ?_
    refine G_cast (ws2 := [(t, .inr (4, [.ref lt, .ref nu, .int (nI ln)])), (lt, .inl (Z 1, 200, .inl (upd (fun j => nI (L j)) ln (nI c)))), (nu, .inl (Z 0, 3, .inl (fun j => nI (nm j))))]) (q := 22) dX4_append_21 1 rfl ln (rfl) (by omega) (by omega) ((c7_all c hc).2.2) rfl rfl ?_
    refine GG.of (ws2 := [(t, .inr (4, [.ref lt, .ref nu, .int (nI ln)])), (lt, .inl (Z 1, 200, .inl (fun j => nI ((updN L ln c) j)))), (nu, .inl (Z 0, 3, .inl (fun j => nI (nm j))))]) (ws_c (rfl) (ws_c (cell_i (updN_eq _ _ _)) (ws_c (rfl) (rfl)))) rfl rfl ?_
    refine G_aload_n (q := 23) dX4_append_22 rfl 0 rfl rfl ?_
    refine G_dup (q := 24) dX4_append_23 rfl rfl ?_
    refine G_get (q := 27) dX4_append_24 0 rfl (show vwCl[4]? = some (RX4, TX4, 3) from rfl) 2 (by decide) in_X4_append_X4 fl_X4_append_19 rfl rfl ?_
    refine G_iconst (v := nI 1) (q := 28) dX4_append_27 (by decide) rfl ?_
    refine G_iaddN (a := ln) (b := 1) (q := 29) dX4_append_28 rfl ?_
    refine G_put (ws2 := [(t, .inr (4, [.ref lt, .ref nu, .int (nI (ln + 1))])), (lt, .inl (Z 1, 200, .inl (fun j => nI ((updN L ln c) j)))), (nu, .inl (Z 0, 3, .inl (fun j => nI (nm j))))]) (q := 32) dX4_append_29 0 rfl (show vwCl[4]? = some (RX4, TX4, 3) from rfl) cf_X4 2 (by decide) in_X4_append_X4 fl_X4_append_19 rfl (rfl) rfl (by simp only [List.length_cons, List.length_nil]; decide) rfl rfl ?_
    refine G_iconst (v := nI 1) (q := 33) dX4_append_32 (by decide) rfl ?_
    refine GG.of (ws2 := [(t, .inr (4, [.ref lt, .ref nu, .int (nI (ln + 1))])), (lt, .inl (Z 1, 200, .inl (fun j => nI ((updN L ln c) j)))), (nu, .inl (Z 0, 3, .inl (fun j => nI (nm j))))]) (lv2 := [(0, .ref t), (1, .int (nI c))]) (st2 := [.int (bI true)]) (rfl) (rfl) (st_c (vi_c (show nI 1 = bI true from rfl)) (rfl)) ?_
    exact G_iret dX4_append_33 rfl rfl ⟨rfl, rfl⟩
  · exfalso; omega
set_option maxHeartbeats 4000000 in
set_option maxRecDepth 100000 in
theorem ct_X4_append_full (Z : Nat → ClassId) (t : Nat) (lt : Nat) (nu : Nat) (L : Nat → Nat) (nm : Nat → Nat) (ln : Nat) (c : Nat) (hl : ln = 200): Ct false yX4_append wsX4_append ({ frames := 0, cells := 0, slots := 0, locals := 0 }) [.ref t, .int (nI c)] Z [(t, .inr (4, [.ref lt, .ref nu, .int (nI ln)])), (lt, .inl (Z 1, 200, .inl (fun j => nI (L j)))), (nu, .inl (Z 0, 3, .inl (fun j => nI (nm j))))] (rI (bI false) [(t, .inr (4, [.ref lt, .ref nu, .int (nI ln)])), (lt, .inl (Z 1, 200, .inl (fun j => nI (L j)))), (nu, .inl (Z 0, 3, .inl (fun j => nI (nm j))))]) 0 0 := by
  refine Ct_of (cc := cX4_append) (maxL := 2) (ret := (some .boolean)) (own := RX4) false false (by decide +kernel) rfl rfl (by decide) (fun v w h => by rw [h.1]; exact ⟨_, rfl, bI_01 _⟩) (Nat.le_of_ble_eq_true rfl) (fun X => ?_)
  show GG X _ _ _ _ _ _ _ _ _ _ _ _ _ _ [(0, .ref t), (1, .int (nI c))] _ _
  refine G_aload_n (q := 1) dX4_append_0 rfl 0 rfl rfl ?_
  refine G_get (q := 4) dX4_append_1 0 rfl (show vwCl[4]? = some (RX4, TX4, 3) from rfl) 2 (by decide) in_X4_append_X4 fl_X4_append_19 rfl rfl ?_
  refine G_sipush (v := nI 200) (q := 7) dX4_append_4 (by decide) rfl ?_
  refine G_icmp_ltN (tgt := 12) (q := 10) dX4_append_7 (by decide) rfl (by omega) (by omega) (fun c7 => ?_) (fun c7 => ?_)
  · exfalso; omega
  · refine G_iconst (v := nI 0) (q := 11) dX4_append_10 (by decide) rfl ?_
    refine GG.of (ws2 := [(t, .inr (4, [.ref lt, .ref nu, .int (nI ln)])), (lt, .inl (Z 1, 200, .inl (fun j => nI (L j)))), (nu, .inl (Z 0, 3, .inl (fun j => nI (nm j))))]) (lv2 := [(0, .ref t), (1, .int (nI c))]) (st2 := [.int (bI false)]) (rfl) (rfl) (st_c (vi_c (show nI 0 = bI false from rfl)) (rfl)) ?_
    exact G_iret dX4_append_11 rfl rfl ⟨rfl, rfl⟩
theorem cs_X4_letterAt : CS yX4_letterAt wsX4_letterAt cX4_letterAt 2 (some .char) 1 := ⟨⟨_, rfl⟩, by decide +kernel, by decide +kernel, by decide +kernel⟩
theorem fl_X4_letterAt_19 : Cond.fieldLink RX4 19 (TX4 2).1 (TX4 2).2.1 (TX4 2).2.2.1 ∈ wsX4_letterAt := by decide +kernel
theorem fl_X4_letterAt_9 : Cond.fieldLink RX4 9 (TX4 0).1 (TX4 0).2.1 (TX4 0).2.2.1 ∈ wsX4_letterAt := by decide +kernel
theorem in_X4_letterAt_X4 : ∀ w ∈ u_ws RX4 TX4 3, w ∈ wsX4_letterAt := by decide +kernel
set_option maxHeartbeats 4000000 in
set_option maxRecDepth 100000 in
theorem ct_X4_letterAt (Z : Nat → ClassId) (t : Nat) (lt : Nat) (nu : Nat) (L : Nat → Nat) (nm : Nat → Nat) (ln : Nat) (p : Nat) (hln : ln ≤ 200) (hL : ∀ j, L j < 128) (hp : p < 1000): Ct false yX4_letterAt wsX4_letterAt ({ frames := 0, cells := 0, slots := 0, locals := 0 }) [.ref t, .int (nI p)] Z [(t, .inr (4, [.ref lt, .ref nu, .int (nI ln)])), (lt, .inl (Z 1, 200, .inl (fun j => nI (L j)))), (nu, .inl (Z 0, 3, .inl (fun j => nI (nm j))))] (rI (nI (ltr L ln p)) [(t, .inr (4, [.ref lt, .ref nu, .int (nI ln)])), (lt, .inl (Z 1, 200, .inl (fun j => nI (L j)))), (nu, .inl (Z 0, 3, .inl (fun j => nI (nm j))))]) 0 0 := by
  refine Ct_of (cc := cX4_letterAt) (maxL := 2) (ret := (some .char)) (own := RX4) false false (by decide +kernel) rfl rfl (by decide) (fun v w h => by rw [h.1]; exact ⟨_, rfl, (c7_all _ (ltr_lt hL p)).2.1⟩) (Nat.le_of_ble_eq_true rfl) (fun X => ?_)
  show GG X _ _ _ _ _ _ _ _ _ _ _ _ _ _ [(0, .ref t), (1, .int (nI p))] _ _
  refine G_iload_n (q := 1) dX4_letterAt_0 rfl 1 rfl rfl ?_
  refine G_if_ltN (tgt := 28) (q := 4) dX4_letterAt_1 (by decide) rfl (by omega) (fun c1 => ?_) (fun c1 => ?_)
  · exact c1.elim
  · refine G_iload_n (q := 5) dX4_letterAt_4 rfl 1 rfl rfl ?_
    refine G_aload_n (q := 6) dX4_letterAt_5 rfl 0 rfl rfl ?_
    refine G_get (q := 9) dX4_letterAt_6 0 rfl (show vwCl[4]? = some (RX4, TX4, 3) from rfl) 2 (by decide) in_X4_letterAt_X4 fl_X4_letterAt_19 rfl rfl ?_
    refine G_icmp_geN (tgt := 28) (q := 12) dX4_letterAt_9 (by decide) rfl (by omega) (by omega) (fun c9 => ?_) (fun c9 => ?_)
    · refine G_iconst (v := nI 0) (q := 29) dX4_letterAt_28 (by decide) rfl ?_
      refine GG.of (ws2 := [(t, .inr (4, [.ref lt, .ref nu, .int (nI ln)])), (lt, .inl (Z 1, 200, .inl (fun j => nI (L j)))), (nu, .inl (Z 0, 3, .inl (fun j => nI (nm j))))]) (lv2 := [(0, .ref t), (1, .int (nI p))]) (st2 := [.int (nI (ltr L ln p))]) (rfl) (rfl) (st_c (vi_c (show nI 0 = nI (ltr L ln p) from by first | (rw [ltr, if_pos c9]) | (rw [ltr, if_neg (by omega)]))) (rfl)) ?_
      exact G_iret dX4_letterAt_29 rfl rfl ⟨rfl, rfl⟩
    · refine G_iload_n (q := 13) dX4_letterAt_12 rfl 1 rfl rfl ?_
      refine G_sipush (v := nI 200) (q := 16) dX4_letterAt_13 (by decide) rfl ?_
      refine G_icmp_geN (tgt := 28) (q := 19) dX4_letterAt_16 (by decide) rfl (by omega) (by omega) (fun c16 => ?_) (fun c16 => ?_)
      · exfalso; omega
      · refine G_aload_n (q := 20) dX4_letterAt_19 rfl 0 rfl rfl ?_
        refine G_get (q := 23) dX4_letterAt_20 0 rfl (show vwCl[4]? = some (RX4, TX4, 3) from rfl) 0 (by decide) in_X4_letterAt_X4 fl_X4_letterAt_9 rfl rfl ?_
        refine G_iload_n (q := 24) dX4_letterAt_23 rfl 1 rfl rfl ?_
        refine G_cald (q := 25) dX4_letterAt_24 1 rfl p (rfl) (by omega) (by omega) rfl ?_
        refine G_goto (q := 29) dX4_letterAt_25 (by decide) ?_
        refine GG.of (ws2 := [(t, .inr (4, [.ref lt, .ref nu, .int (nI ln)])), (lt, .inl (Z 1, 200, .inl (fun j => nI (L j)))), (nu, .inl (Z 0, 3, .inl (fun j => nI (nm j))))]) (lv2 := [(0, .ref t), (1, .int (nI p))]) (st2 := [.int (nI (ltr L ln p))]) (rfl) (rfl) (st_c (vi_c (show nI (L p) = nI (ltr L ln p) from by first | (rw [ltr, if_pos c9]) | (rw [ltr, if_neg (by omega)]))) (rfl)) ?_
        exact G_iret dX4_letterAt_29 rfl rfl ⟨rfl, rfl⟩
theorem cs_X4_figureAt : CS yX4_figureAt wsX4_figureAt cX4_figureAt 3 (some .int) 1 := ⟨⟨_, rfl⟩, by decide +kernel, by decide +kernel, by decide +kernel⟩
set_option maxHeartbeats 4000000 in
set_option maxRecDepth 100000 in
theorem ct_X4_figureAt (Z : Nat → ClassId) (t : Nat) (lt : Nat) (nu : Nat) (L : Nat → Nat) (nm : Nat → Nat) (ln : Nat) (p : Nat) (hln : ln ≤ 200) (hL : ∀ j, L j < 128) (hp : p < 1000): Ct false yX4_figureAt wsX4_figureAt ({ frames := 1, cells := 0, slots := 0, locals := 21 }) [.ref t, .int (nI p)] Z [(t, .inr (4, [.ref lt, .ref nu, .int (nI ln)])), (lt, .inl (Z 1, 200, .inl (fun j => nI (L j)))), (nu, .inl (Z 0, 3, .inl (fun j => nI (nm j))))] (rI (oM (figN L ln p)) [(t, .inr (4, [.ref lt, .ref nu, .int (nI ln)])), (lt, .inl (Z 1, 200, .inl (fun j => nI (L j)))), (nu, .inl (Z 0, 3, .inl (fun j => nI (nm j))))]) 0 0 := by
  refine Ct_of (cc := cX4_figureAt) (maxL := 3) (ret := (some .int)) (own := RX4) false false (by decide +kernel) rfl rfl (by decide) (fun v w h => by rw [h.1]; exact ⟨_, rfl, rfl⟩) (Nat.le_of_ble_eq_true rfl) (fun X => ?_)
  show GG X _ _ _ _ _ _ _ _ _ _ _ _ _ _ [(0, .ref t), (1, .int (nI p))] _ _
  refine G_aload_n (q := 1) dX4_figureAt_0 rfl 0 rfl rfl ?_
  refine G_iload_n (q := 2) dX4_figureAt_1 rfl 1 rfl rfl ?_
  refine G_callVP (As := [.int (nI p)]) (rest := []) (st2 := [.int (nI (ltr L ln p))]) (q := 5) dX4_figureAt_2 [0, 1, 2] (ct_X4_letterAt Z t lt nu L nm ln p (by omega) (by omega) (by omega)) (fun h => h) cs_X4_letterAt gX4_figureAt_X4_letterAt rfl ⟨Nat.le_of_ble_eq_true rfl, Nat.le_of_ble_eq_true rfl⟩ ⟨rfl, rfl⟩ 0 rfl (show vwCl[4]? = some (RX4, TX4, 3) from rfl) rfl (by decide) rfl rfl (Nat.le_of_ble_eq_true rfl) ⟨by decide, by decide⟩ rfl rfl ?_
  refine G_istore_n (lv2 := [(0, .ref t), (1, .int (nI p)), (2, .int (nI (ltr L ln p)))]) (q := 6) dX4_figureAt_5 rfl (by decide) rfl rfl ?_
  refine G_iload_n (q := 7) dX4_figureAt_6 rfl 2 rfl rfl ?_
  refine G_bipush (v := nI 48) (q := 9) dX4_figureAt_7 (by decide) rfl ?_
  refine G_icmp_ltN (tgt := 25) (q := 12) dX4_figureAt_9 (by decide) rfl (by have := ltr_lt (ln := ln) hL p; omega) (by omega) (fun c9 => ?_) (fun c9 => ?_)
  · refine G_iconst (v := -1) (q := 26) dX4_figureAt_25 (by decide) rfl ?_
    refine GG.of (ws2 := [(t, .inr (4, [.ref lt, .ref nu, .int (nI ln)])), (lt, .inl (Z 1, 200, .inl (fun j => nI (L j)))), (nu, .inl (Z 0, 3, .inl (fun j => nI (nm j))))]) (lv2 := [(0, .ref t), (1, .int (nI p)), (2, .int (nI (ltr L ln p)))]) (st2 := [.int (oM (figN L ln p))]) (rfl) (rfl) (st_c (vi_c (show -1 = oM (figN L ln p) from by first | (rw [figN, if_pos ⟨c9, c15⟩]; rfl) | (rw [figN, if_neg (by omega)]; rfl))) (rfl)) ?_
    exact G_iret dX4_figureAt_26 rfl rfl ⟨rfl, rfl⟩
  · refine G_iload_n (q := 13) dX4_figureAt_12 rfl 2 rfl rfl ?_
    refine G_bipush (v := nI 57) (q := 15) dX4_figureAt_13 (by decide) rfl ?_
    refine G_icmp_gtN (tgt := 25) (q := 18) dX4_figureAt_15 (by decide) rfl (by have := ltr_lt (ln := ln) hL p; omega) (by omega) (fun c15 => ?_) (fun c15 => ?_)
    · refine G_iconst (v := -1) (q := 26) dX4_figureAt_25 (by decide) rfl ?_
      refine GG.of (ws2 := [(t, .inr (4, [.ref lt, .ref nu, .int (nI ln)])), (lt, .inl (Z 1, 200, .inl (fun j => nI (L j)))), (nu, .inl (Z 0, 3, .inl (fun j => nI (nm j))))]) (lv2 := [(0, .ref t), (1, .int (nI p)), (2, .int (nI (ltr L ln p)))]) (st2 := [.int (oM (figN L ln p))]) (rfl) (rfl) (st_c (vi_c (show -1 = oM (figN L ln p) from by first | (rw [figN, if_pos ⟨c9, c15⟩]; rfl) | (rw [figN, if_neg (by omega)]; rfl))) (rfl)) ?_
      exact G_iret dX4_figureAt_26 rfl rfl ⟨rfl, rfl⟩
    · refine G_iload_n (q := 19) dX4_figureAt_18 rfl 2 rfl rfl ?_
      refine G_bipush (v := nI 48) (q := 21) dX4_figureAt_19 (by decide) rfl ?_
      refine G_isubN (a := (ltr L ln p)) (b := 48) (q := 22) dX4_figureAt_21 (by omega) rfl ?_
      refine G_goto (q := 26) dX4_figureAt_22 (by decide) ?_
      refine GG.of (ws2 := [(t, .inr (4, [.ref lt, .ref nu, .int (nI ln)])), (lt, .inl (Z 1, 200, .inl (fun j => nI (L j)))), (nu, .inl (Z 0, 3, .inl (fun j => nI (nm j))))]) (lv2 := [(0, .ref t), (1, .int (nI p)), (2, .int (nI (ltr L ln p)))]) (st2 := [.int (oM (figN L ln p))]) (rfl) (rfl) (st_c (vi_c (show nI ((ltr L ln p) - 48) = oM (figN L ln p) from by first | (rw [figN, if_pos ⟨c9, c15⟩]; rfl) | (rw [figN, if_neg (by omega)]; rfl))) (rfl)) ?_
      exact G_iret dX4_figureAt_26 rfl rfl ⟨rfl, rfl⟩
theorem cs_X4_numbersBehind : CS yX4_numbersBehind wsX4_numbersBehind cX4_numbersBehind 2 (some .int) 1 := ⟨⟨_, rfl⟩, by decide +kernel, by decide +kernel, by decide +kernel⟩
set_option maxHeartbeats 4000000 in
set_option maxRecDepth 100000 in
theorem ct_X4_numbersBehind (Z : Nat → ClassId) (t : Nat) (lt : Nat) (nu : Nat) (L : Nat → Nat) (nm : Nat → Nat) (ln : Nat) (c : Nat) (hc : c < 128): Ct false yX4_numbersBehind wsX4_numbersBehind ({ frames := 0, cells := 0, slots := 0, locals := 0 }) [.ref t, .int (nI c)] Z [(t, .inr (4, [.ref lt, .ref nu, .int (nI ln)])), (lt, .inl (Z 1, 200, .inl (fun j => nI (L j)))), (nu, .inl (Z 0, 3, .inl (fun j => nI (nm j))))] (rI (nI (nbN c)) [(t, .inr (4, [.ref lt, .ref nu, .int (nI ln)])), (lt, .inl (Z 1, 200, .inl (fun j => nI (L j)))), (nu, .inl (Z 0, 3, .inl (fun j => nI (nm j))))]) 0 0 := by
  refine Ct_of (cc := cX4_numbersBehind) (maxL := 2) (ret := (some .int)) (own := RX4) false false (by decide +kernel) rfl rfl (by decide) (fun v w h => by rw [h.1]; exact ⟨_, rfl, rfl⟩) (Nat.le_of_ble_eq_true rfl) (fun X => ?_)
  show GG X _ _ _ _ _ _ _ _ _ _ _ _ _ _ [(0, .ref t), (1, .int (nI c))] _ _
  refine G_iload_n (q := 1) dX4_numbersBehind_0 rfl 1 rfl rfl ?_
  refine G_bipush (v := nI 114) (q := 3) dX4_numbersBehind_1 (by decide) rfl ?_
  refine G_icmp_neN (tgt := 8) (q := 6) dX4_numbersBehind_3 (by decide) rfl (by omega) (by omega) (fun c3 => ?_) (fun c3 => ?_)
  · refine G_iload_n (q := 9) dX4_numbersBehind_8 rfl 1 rfl rfl ?_
    refine G_bipush (v := nI 115) (q := 11) dX4_numbersBehind_9 (by decide) rfl ?_
    refine G_icmp_neN (tgt := 16) (q := 14) dX4_numbersBehind_11 (by decide) rfl (by omega) (by omega) (fun c11 => ?_) (fun c11 => ?_)
    · refine G_iload_n (q := 17) dX4_numbersBehind_16 rfl 1 rfl rfl ?_
      refine G_bipush (v := nI 100) (q := 19) dX4_numbersBehind_17 (by decide) rfl ?_
      refine G_icmp_eqN (tgt := 28) (q := 22) dX4_numbersBehind_19 (by decide) rfl (by omega) (by omega) (fun c19 => ?_) (fun c19 => ?_)
      · refine G_iconst (v := nI 1) (q := 29) dX4_numbersBehind_28 (by decide) rfl ?_
        refine G_goto (q := 33) dX4_numbersBehind_29 (by decide) ?_
        refine GG.of (ws2 := [(t, .inr (4, [.ref lt, .ref nu, .int (nI ln)])), (lt, .inl (Z 1, 200, .inl (fun j => nI (L j)))), (nu, .inl (Z 0, 3, .inl (fun j => nI (nm j))))]) (lv2 := [(0, .ref t), (1, .int (nI c))]) (st2 := [.int (nI (nbN c))]) (rfl) (rfl) (st_c (vi_c (show nI 1 = nI (nbN c) from by first | (rw [nbN, if_pos c3]) | (rw [nbN, if_neg c3, if_pos c11]) | (rw [nbN, if_neg c3, if_neg c11, if_pos (by omega)]) | (rw [nbN, if_neg c3, if_neg c11, if_neg (by omega)]))) (rfl)) ?_
        exact G_iret dX4_numbersBehind_33 rfl rfl ⟨rfl, rfl⟩
      · refine G_iload_n (q := 23) dX4_numbersBehind_22 rfl 1 rfl rfl ?_
        refine G_bipush (v := nI 104) (q := 25) dX4_numbersBehind_23 (by decide) rfl ?_
        refine G_icmp_neN (tgt := 32) (q := 28) dX4_numbersBehind_25 (by decide) rfl (by omega) (by omega) (fun c25 => ?_) (fun c25 => ?_)
        · refine G_iconst (v := nI 0) (q := 33) dX4_numbersBehind_32 (by decide) rfl ?_
          refine GG.of (ws2 := [(t, .inr (4, [.ref lt, .ref nu, .int (nI ln)])), (lt, .inl (Z 1, 200, .inl (fun j => nI (L j)))), (nu, .inl (Z 0, 3, .inl (fun j => nI (nm j))))]) (lv2 := [(0, .ref t), (1, .int (nI c))]) (st2 := [.int (nI (nbN c))]) (rfl) (rfl) (st_c (vi_c (show nI 0 = nI (nbN c) from by first | (rw [nbN, if_pos c3]) | (rw [nbN, if_neg c3, if_pos c11]) | (rw [nbN, if_neg c3, if_neg c11, if_pos (by omega)]) | (rw [nbN, if_neg c3, if_neg c11, if_neg (by omega)]))) (rfl)) ?_
          exact G_iret dX4_numbersBehind_33 rfl rfl ⟨rfl, rfl⟩
        · refine G_iconst (v := nI 1) (q := 29) dX4_numbersBehind_28 (by decide) rfl ?_
          refine G_goto (q := 33) dX4_numbersBehind_29 (by decide) ?_
          refine GG.of (ws2 := [(t, .inr (4, [.ref lt, .ref nu, .int (nI ln)])), (lt, .inl (Z 1, 200, .inl (fun j => nI (L j)))), (nu, .inl (Z 0, 3, .inl (fun j => nI (nm j))))]) (lv2 := [(0, .ref t), (1, .int (nI c))]) (st2 := [.int (nI (nbN c))]) (rfl) (rfl) (st_c (vi_c (show nI 1 = nI (nbN c) from by first | (rw [nbN, if_pos c3]) | (rw [nbN, if_neg c3, if_pos c11]) | (rw [nbN, if_neg c3, if_neg c11, if_pos (by omega)]) | (rw [nbN, if_neg c3, if_neg c11, if_neg (by omega)]))) (rfl)) ?_
          exact G_iret dX4_numbersBehind_33 rfl rfl ⟨rfl, rfl⟩
    · refine G_iconst (v := nI 2) (q := 15) dX4_numbersBehind_14 (by decide) rfl ?_
      refine GG.of (ws2 := [(t, .inr (4, [.ref lt, .ref nu, .int (nI ln)])), (lt, .inl (Z 1, 200, .inl (fun j => nI (L j)))), (nu, .inl (Z 0, 3, .inl (fun j => nI (nm j))))]) (lv2 := [(0, .ref t), (1, .int (nI c))]) (st2 := [.int (nI (nbN c))]) (rfl) (rfl) (st_c (vi_c (show nI 2 = nI (nbN c) from by first | (rw [nbN, if_pos c3]) | (rw [nbN, if_neg c3, if_pos c11]) | (rw [nbN, if_neg c3, if_neg c11, if_pos (by omega)]) | (rw [nbN, if_neg c3, if_neg c11, if_neg (by omega)]))) (rfl)) ?_
      exact G_iret dX4_numbersBehind_15 rfl rfl ⟨rfl, rfl⟩
  · refine G_iconst (v := nI 3) (q := 7) dX4_numbersBehind_6 (by decide) rfl ?_
    refine GG.of (ws2 := [(t, .inr (4, [.ref lt, .ref nu, .int (nI ln)])), (lt, .inl (Z 1, 200, .inl (fun j => nI (L j)))), (nu, .inl (Z 0, 3, .inl (fun j => nI (nm j))))]) (lv2 := [(0, .ref t), (1, .int (nI c))]) (st2 := [.int (nI (nbN c))]) (rfl) (rfl) (st_c (vi_c (show nI 3 = nI (nbN c) from by first | (rw [nbN, if_pos c3]) | (rw [nbN, if_neg c3, if_pos c11]) | (rw [nbN, if_neg c3, if_neg c11, if_pos (by omega)]) | (rw [nbN, if_neg c3, if_neg c11, if_neg (by omega)]))) (rfl)) ?_
    exact G_iret dX4_numbersBehind_7 rfl rfl ⟨rfl, rfl⟩
theorem cs_X4_readNumbers : CS yX4_readNumbers wsX4_readNumbers cX4_readNumbers 8 (some .int) 2 := ⟨⟨_, rfl⟩, by decide +kernel, by decide +kernel, by decide +kernel⟩
theorem fl_X4_readNumbers_15 : Cond.fieldLink RX4 15 (TX4 1).1 (TX4 1).2.1 (TX4 1).2.2.1 ∈ wsX4_readNumbers := by decide +kernel
theorem in_X4_readNumbers_X4 : ∀ w ∈ u_ws RX4 TX4 3, w ∈ wsX4_readNumbers := by decide +kernel
set_option maxHeartbeats 4000000 in
set_option maxRecDepth 100000 in
theorem ct_X4_readNumbers (Z : Nat → ClassId) (t : Nat) (lt : Nat) (nu : Nat) (L : Nat → Nat) (nm : Nat → Nat) (ln : Nat) (p0 : Nat) (many : Nat) (hln : ln ≤ 200) (hL : ∀ j, L j < 128) (hp0 : p0 ≤ ln) (hm : many ≤ 3) (hnm : ∀ j, nm j < 100): Ct false yX4_readNumbers wsX4_readNumbers ({ frames := 2, cells := 0, slots := 0, locals := 43 }) [.ref t, .int (nI p0), .int (nI many)] Z [(t, .inr (4, [.ref lt, .ref nu, .int (nI ln)])), (lt, .inl (Z 1, 200, .inl (fun j => nI (L j)))), (nu, .inl (Z 0, 3, .inl (fun j => nI (nm j))))] (fun v w => ∃ n9 : Nat → Nat, v = some (.int (oM (pnR L ln many p0))) ∧ w = [(t, .inr (4, [.ref lt, .ref nu, .int (nI ln)])), (lt, .inl (Z 1, 200, .inl (fun j => nI (L j)))), (nu, .inl (Z 0, 3, .inl (fun j => nI (n9 j))))] ∧ (∀ j, n9 j < 100) ∧ ∀ p g, pnN L ln many p0 many = some (p, g) → ∀ j, j < many → n9 j = g j) 0 0 := by
  refine Ct_of (cc := cX4_readNumbers) (maxL := 8) (ret := (some .int)) (own := RX4) false false (by decide +kernel) rfl rfl (by decide) (fun v w h9 => by obtain ⟨n9, rfl, -⟩ := h9; exact ⟨_, rfl, rfl⟩) (Nat.le_of_ble_eq_true rfl) (fun X => ?_)
  show GG X _ _ _ _ _ _ _ _ _ _ _ _ _ _ [(0, .ref t), (1, .int (nI p0)), (2, .int (nI many))] _ _
  refine G_iload_n (q := 1) dX4_readNumbers_0 rfl 1 rfl rfl ?_
  refine G_istore_n (lv2 := [(0, .ref t), (1, .int (nI p0)), (2, .int (nI many)), (3, .int (nI p0))]) (q := 2) dX4_readNumbers_1 rfl (by decide) rfl rfl ?_
  refine G_iconst (v := nI 0) (q := 3) dX4_readNumbers_2 (by decide) rfl ?_
  refine G_istore (lv2 := [(0, .ref t), (1, .int (nI p0)), (2, .int (nI many)), (3, .int (nI p0)), (4, .int (nI 0))]) (q := 5) dX4_readNumbers_3 (by decide) rfl rfl ?_
  have L5_1 : ∀ fu1 kk : Nat, kk ≤ many → many + 1 ≤ kk + fu1 → ∀ (p : Nat), ∀ (n8 : Nat → Nat), ∀ (g : Nat → Nat), (pnN L ln many p0 kk = some (p, g)) → (∀ j, j < kk → n8 j = g j) → (∀ j, n8 j < 100) → GG X ({ frames := 2, cells := 0, slots := 0, locals := 43 }) cX4_readNumbers 8 wsX4_readNumbers RX4 false false Z (fun v w => ∃ n9 : Nat → Nat, v = some (.int (oM (pnR L ln many p0))) ∧ w = [(t, .inr (4, [.ref lt, .ref nu, .int (nI ln)])), (lt, .inl (Z 1, 200, .inl (fun j => nI (L j)))), (nu, .inl (Z 0, 3, .inl (fun j => nI (n9 j))))] ∧ (∀ j, n9 j < 100) ∧ ∀ p g, pnN L ln many p0 many = some (p, g) → ∀ j, j < many → n9 j = g j) 0 0 0 0 [(t, .inr (4, [.ref lt, .ref nu, .int (nI ln)])), (lt, .inl (Z 1, 200, .inl (fun j => nI (L j)))), (nu, .inl (Z 0, 3, .inl (fun j => nI (n8 j))))] [(0, .ref t), (1, .int (nI p0)), (2, .int (nI many)), (3, .int (nI p)), (4, .int (nI kk))] [] 5 := by
    intro fu1
    induction fu1 with
    | zero => intro kk q1 q2; exact absurd q2 (by omega)
    | succ fu1 ih1 =>
      intro kk hi1 hf1 p n8 g hp hg hb
      refine G_iload (q := 7) dX4_readNumbers_5 4 rfl rfl ?_
      refine G_iload_n (q := 8) dX4_readNumbers_7 rfl 2 rfl rfl ?_
      refine G_icmp_geN (tgt := 106) (q := 11) dX4_readNumbers_8 (by decide) rfl (by omega) (by omega) (fun c8 => ?_) (fun c8 => ?_)
      · have e9 : many = kk := by omega
        subst e9
        refine G_iload_n (q := 107) dX4_readNumbers_106 rfl 3 rfl rfl ?_
        exact G_iret dX4_readNumbers_107 rfl rfl (⟨_, congrArg (fun z => some (Value.int z)) (by rw [pnR, hp]; rfl), rfl, hb, fun p9 g9 h9 => by rw [hp] at h9; cases h9; exact hg⟩)
      · have hpb := (pnN_bd hp0 hp).2.1
        refine G_iload (q := 13) dX4_readNumbers_11 4 rfl rfl ?_
        refine G_iconst (v := nI 3) (q := 14) dX4_readNumbers_13 (by decide) rfl ?_
        refine G_icmp_geN (tgt := 106) (q := 17) dX4_readNumbers_14 (by decide) rfl (by omega) (by omega) (fun c14 => ?_) (fun c14 => ?_)
        · exfalso; omega
        · refine G_aload_n (q := 18) dX4_readNumbers_17 rfl 0 rfl rfl ?_
          refine G_iload_n (q := 19) dX4_readNumbers_18 rfl 3 rfl rfl ?_
          refine G_callVP (As := [.int (nI p)]) (rest := []) (st2 := [.int (oM (figN L ln p))]) (q := 22) dX4_readNumbers_19 [0, 1, 2] (ct_X4_figureAt Z t lt nu L n8 ln p (by omega) (by omega) (by omega)) (fun h => h) cs_X4_figureAt gX4_readNumbers_X4_figureAt rfl ⟨Nat.le_of_ble_eq_true rfl, Nat.le_of_ble_eq_true rfl⟩ ⟨rfl, rfl⟩ 0 rfl (show vwCl[4]? = some (RX4, TX4, 3) from rfl) rfl (by decide) rfl rfl (Nat.le_of_ble_eq_true rfl) ⟨by decide, by decide⟩ rfl rfl ?_
          rcases on_cases (figN L ln p) with ho | ⟨a, ho⟩
          · refine G_top (y := -1) (by rw [ho]; rfl) ?_
            have hno := pnN_no (pnN_f1 hp (numN_0 ho)) (show kk + 1 ≤ many from c8)
            refine G_istore (lv2 := [(0, .ref t), (1, .int (nI p0)), (2, .int (nI many)), (3, .int (nI p)), (4, .int (nI kk)), (5, .int (-1))]) (q := 24) dX4_readNumbers_22 (by decide) rfl rfl ?_
            refine G_iload (q := 26) dX4_readNumbers_24 5 rfl rfl ?_
            refine G_if_geF (tgt := 31) (q := 29) dX4_readNumbers_26 (by decide) rfl (by decide) ?_
            refine G_iconst (v := -1) (q := 30) dX4_readNumbers_29 (by decide) rfl ?_
            exact G_iret dX4_readNumbers_30 rfl rfl (⟨_, congrArg (fun z => some (Value.int z)) (by rw [pnR, hno]; rfl), rfl, hb, fun p9 g9 h9 => by rw [hno] at h9; cases h9⟩)
          · have ha9 := (figN_lt ho).1
            refine G_top (y := nI a) (by rw [ho]; rfl) ?_
            refine G_istore (lv2 := [(0, .ref t), (1, .int (nI p0)), (2, .int (nI many)), (3, .int (nI p)), (4, .int (nI kk)), (5, .int (nI a))]) (q := 24) dX4_readNumbers_22 (by decide) rfl rfl ?_
            refine G_iload (q := 26) dX4_readNumbers_24 5 rfl rfl ?_
            refine G_if_geN (tgt := 31) (q := 29) dX4_readNumbers_26 (by decide) rfl (by omega) (fun c26 => ?_) (fun c26 => ?_)
            · refine G_iincN (x := p) (d := 1) (lv2 := [(0, .ref t), (1, .int (nI p0)), (2, .int (nI many)), (3, .int (nI (p + 1))), (4, .int (nI kk)), (5, .int (nI a))]) (q := 34) dX4_readNumbers_31 3 rfl (by decide) (by decide) rfl rfl ?_
              refine G_aload_n (q := 35) dX4_readNumbers_34 rfl 0 rfl rfl ?_
              refine G_iload_n (q := 36) dX4_readNumbers_35 rfl 3 rfl rfl ?_
              refine G_callVP (As := [.int (nI (p + 1))]) (rest := []) (st2 := [.int (oM (figN L ln (p + 1)))]) (q := 39) dX4_readNumbers_36 [0, 1, 2] (ct_X4_figureAt Z t lt nu L n8 ln (p + 1) (by omega) (by omega) (by omega)) (fun h => h) cs_X4_figureAt gX4_readNumbers_X4_figureAt rfl ⟨Nat.le_of_ble_eq_true rfl, Nat.le_of_ble_eq_true rfl⟩ ⟨rfl, rfl⟩ 0 rfl (show vwCl[4]? = some (RX4, TX4, 3) from rfl) rfl (by decide) rfl rfl (Nat.le_of_ble_eq_true rfl) ⟨by decide, by decide⟩ rfl rfl ?_
              rcases on_cases (figN L ln (p + 1)) with ho2 | ⟨b, ho2⟩
              · refine G_top (y := -1) (by rw [ho2]; rfl) ?_
                have hnum := numN_1 ho ho2
                refine G_istore (lv2 := [(0, .ref t), (1, .int (nI p0)), (2, .int (nI many)), (3, .int (nI (p + 1))), (4, .int (nI kk)), (5, .int (nI a)), (6, .int (-1))]) (q := 41) dX4_readNumbers_39 (by decide) rfl rfl ?_
                refine G_iload (q := 43) dX4_readNumbers_41 6 rfl rfl ?_
                refine G_if_ltT (tgt := 59) dX4_readNumbers_43 (by decide) (by decide) ?_
                refine G_iload (q := 61) dX4_readNumbers_59 4 rfl rfl ?_
                refine G_iconst (v := nI 1) (q := 62) dX4_readNumbers_61 (by decide) rfl ?_
                refine G_iaddN (a := kk) (b := 1) (q := 63) dX4_readNumbers_62 rfl ?_
                refine G_iload_n (q := 64) dX4_readNumbers_63 rfl 2 rfl rfl ?_
                have J74_2 : GG X ({ frames := 2, cells := 0, slots := 0, locals := 43 }) cX4_readNumbers 8 wsX4_readNumbers RX4 false false Z (fun v w => ∃ n9 : Nat → Nat, v = some (.int (oM (pnR L ln many p0))) ∧ w = [(t, .inr (4, [.ref lt, .ref nu, .int (nI ln)])), (lt, .inl (Z 1, 200, .inl (fun j => nI (L j)))), (nu, .inl (Z 0, 3, .inl (fun j => nI (n9 j))))] ∧ (∀ j, n9 j < 100) ∧ ∀ p g, pnN L ln many p0 many = some (p, g) → ∀ j, j < many → n9 j = g j) 0 0 0 0 [(t, .inr (4, [.ref lt, .ref nu, .int (nI ln)])), (lt, .inl (Z 1, 200, .inl (fun j => nI (L j)))), (nu, .inl (Z 0, 3, .inl (fun j => nI (n8 j))))] [(0, .ref t), (1, .int (nI p0)), (2, .int (nI many)), (3, .int (nI (p + 1))), (4, .int (nI kk)), (5, .int (nI a)), (6, .int (-1))] [.int (nI (sepN many kk))] 74 := by
                  refine G_istore (lv2 := [(0, .ref t), (1, .int (nI p0)), (2, .int (nI many)), (3, .int (nI (p + 1))), (4, .int (nI kk)), (5, .int (nI a)), (6, .int (-1)), (7, .int (nI (sepN many kk)))]) (q := 76) dX4_readNumbers_74 (by decide) rfl rfl ?_
                  refine G_aload_n (q := 77) dX4_readNumbers_76 rfl 0 rfl rfl ?_
                  refine G_iload_n (q := 78) dX4_readNumbers_77 rfl 3 rfl rfl ?_
                  refine G_callVP (As := [.int (nI (p + 1))]) (rest := []) (st2 := [.int (nI (ltr L ln (p + 1)))]) (q := 81) dX4_readNumbers_78 [0, 1, 2] (ct_X4_letterAt Z t lt nu L n8 ln (p + 1) (by omega) (by omega) (by omega)) (fun h => h) cs_X4_letterAt gX4_readNumbers_X4_letterAt rfl ⟨Nat.le_of_ble_eq_true rfl, Nat.le_of_ble_eq_true rfl⟩ ⟨rfl, rfl⟩ 0 rfl (show vwCl[4]? = some (RX4, TX4, 3) from rfl) rfl (by decide) rfl rfl (Nat.le_of_ble_eq_true rfl) ⟨by decide, by decide⟩ rfl rfl ?_
                  refine G_iload (q := 83) dX4_readNumbers_81 7 rfl rfl ?_
                  refine G_icmp_eqN (tgt := 88) (q := 86) dX4_readNumbers_83 (by decide) rfl (by have := ltr_lt (ln := ln) hL (p + 1); have := ltr_lt (ln := ln) hL (p + 1 + 1); omega) (by have := sepN_b many kk; omega) (fun c83 => ?_) (fun c83 => ?_)
                  · refine G_iincN (x := (p + 1)) (d := 1) (lv2 := [(0, .ref t), (1, .int (nI p0)), (2, .int (nI many)), (3, .int (nI (p + 1 + 1))), (4, .int (nI kk)), (5, .int (nI a)), (6, .int (-1)), (7, .int (nI (sepN many kk)))]) (q := 91) dX4_readNumbers_88 3 rfl (by decide) (by decide) rfl rfl ?_
                    refine G_aload_n (q := 92) dX4_readNumbers_91 rfl 0 rfl rfl ?_
                    refine G_get (q := 95) dX4_readNumbers_92 0 rfl (show vwCl[4]? = some (RX4, TX4, 3) from rfl) 1 (by decide) in_X4_readNumbers_X4 fl_X4_readNumbers_15 rfl rfl ?_
                    refine G_iload (q := 97) dX4_readNumbers_95 4 rfl rfl ?_
                    refine G_iload (q := 99) dX4_readNumbers_97 5 rfl rfl ?_
                    refine G_iast (ws2 := [(t, .inr (4, [.ref lt, .ref nu, .int (nI ln)])), (lt, .inl (Z 1, 200, .inl (fun j => nI (L j)))), (nu, .inl (Z 0, 3, .inl (upd (fun j => nI (n8 j)) kk (nI a))))]) (q := 100) dX4_readNumbers_99 2 rfl kk (rfl) (by omega) (by omega) rfl rfl ?_
                    refine GG.of (ws2 := [(t, .inr (4, [.ref lt, .ref nu, .int (nI ln)])), (lt, .inl (Z 1, 200, .inl (fun j => nI (L j)))), (nu, .inl (Z 0, 3, .inl (fun j => nI ((updN n8 kk a) j))))]) (ws_c (rfl) (ws_c (rfl) (ws_c (cell_i (updN_eq _ _ _)) (rfl)))) rfl rfl ?_
                    refine G_iincN (x := kk) (d := 1) (lv2 := [(0, .ref t), (1, .int (nI p0)), (2, .int (nI many)), (3, .int (nI (p + 1 + 1))), (4, .int (nI (kk + 1))), (5, .int (nI a)), (6, .int (-1)), (7, .int (nI (sepN many kk)))]) (q := 103) dX4_readNumbers_100 4 rfl (by decide) (by decide) rfl rfl ?_
                    refine G_goto (q := 5) dX4_readNumbers_103 (by decide) ?_
                    refine GG.pick (lv2 := [(0, .ref t), (1, .int (nI p0)), (2, .int (nI many)), (3, .int (nI (p + 1 + 1))), (4, .int (nI (kk + 1)))]) [0, 1, 2, 3, 4] rfl ?_
                    exact ih1 (kk + 1) (by omega) (by omega) (p + 1 + 1) (updN n8 kk a) (updN g kk a) (pnN_s hp hnum c83) (fun j hj => updN_ag hg hj) (fun j => lt_updN hb (by omega) j)
                  · have hno := pnN_no (pnN_f2 hp hnum c83) (show kk + 1 ≤ many from c8)
                    refine G_iconst (v := -1) (q := 87) dX4_readNumbers_86 (by decide) rfl ?_
                    exact G_iret dX4_readNumbers_87 rfl rfl (⟨_, congrArg (fun z => some (Value.int z)) (by rw [pnR, hno]; rfl), rfl, hb, fun p9 g9 h9 => by rw [hno] at h9; cases h9⟩)
                refine G_icmp_geN (tgt := 72) (q := 67) dX4_readNumbers_64 (by decide) rfl (by omega) (by omega) (fun c64 => ?_) (fun c64 => ?_)
                · refine G_bipush (v := nI 59) (q := 74) dX4_readNumbers_72 (by decide) rfl ?_
                  refine GG.of (ws2 := [(t, .inr (4, [.ref lt, .ref nu, .int (nI ln)])), (lt, .inl (Z 1, 200, .inl (fun j => nI (L j)))), (nu, .inl (Z 0, 3, .inl (fun j => nI (n8 j))))]) (lv2 := [(0, .ref t), (1, .int (nI p0)), (2, .int (nI many)), (3, .int (nI (p + 1))), (4, .int (nI kk)), (5, .int (nI a)), (6, .int (-1))]) (st2 := [.int (nI (sepN many kk))]) (rfl) (rfl) (st_c (vi_c (show nI 59 = nI (sepN many kk) from by first | (rw [sepN, if_pos c64]) | (rw [sepN, if_neg (by omega)]))) (rfl)) ?_
                  exact J74_2
                · refine G_bipush (v := nI 44) (q := 69) dX4_readNumbers_67 (by decide) rfl ?_
                  refine G_goto (q := 74) dX4_readNumbers_69 (by decide) ?_
                  refine GG.of (ws2 := [(t, .inr (4, [.ref lt, .ref nu, .int (nI ln)])), (lt, .inl (Z 1, 200, .inl (fun j => nI (L j)))), (nu, .inl (Z 0, 3, .inl (fun j => nI (n8 j))))]) (lv2 := [(0, .ref t), (1, .int (nI p0)), (2, .int (nI many)), (3, .int (nI (p + 1))), (4, .int (nI kk)), (5, .int (nI a)), (6, .int (-1))]) (st2 := [.int (nI (sepN many kk))]) (rfl) (rfl) (st_c (vi_c (show nI 44 = nI (sepN many kk) from by first | (rw [sepN, if_pos c64]) | (rw [sepN, if_neg (by omega)]))) (rfl)) ?_
                  exact J74_2
              · have hb9 := (figN_lt ho2).1
                have hnum := numN_2 ho ho2
                refine G_top (y := nI b) (by rw [ho2]; rfl) ?_
                refine G_istore (lv2 := [(0, .ref t), (1, .int (nI p0)), (2, .int (nI many)), (3, .int (nI (p + 1))), (4, .int (nI kk)), (5, .int (nI a)), (6, .int (nI b))]) (q := 41) dX4_readNumbers_39 (by decide) rfl rfl ?_
                refine G_iload (q := 43) dX4_readNumbers_41 6 rfl rfl ?_
                refine G_if_ltN (tgt := 59) (q := 46) dX4_readNumbers_43 (by decide) rfl (by omega) (fun c43 => ?_) (fun c43 => ?_)
                · exact c43.elim
                · refine G_bipush (v := nI 10) (q := 48) dX4_readNumbers_46 (by decide) rfl ?_
                  refine G_iload (q := 50) dX4_readNumbers_48 5 rfl rfl ?_
                  refine G_imulN (a := 10) (b := a) (q := 51) dX4_readNumbers_50 rfl ?_
                  refine G_iload (q := 53) dX4_readNumbers_51 6 rfl rfl ?_
                  refine G_iaddN (a := (10 * a)) (b := b) (q := 54) dX4_readNumbers_53 rfl ?_
                  refine G_istore (lv2 := [(0, .ref t), (1, .int (nI p0)), (2, .int (nI many)), (3, .int (nI (p + 1))), (4, .int (nI kk)), (5, .int (nI ((10 * a) + b))), (6, .int (nI b))]) (q := 56) dX4_readNumbers_54 (by decide) rfl rfl ?_
                  refine G_iincN (x := (p + 1)) (d := 1) (lv2 := [(0, .ref t), (1, .int (nI p0)), (2, .int (nI many)), (3, .int (nI (p + 1 + 1))), (4, .int (nI kk)), (5, .int (nI ((10 * a) + b))), (6, .int (nI b))]) (q := 59) dX4_readNumbers_56 3 rfl (by decide) (by decide) rfl rfl ?_
                  refine G_iload (q := 61) dX4_readNumbers_59 4 rfl rfl ?_
                  refine G_iconst (v := nI 1) (q := 62) dX4_readNumbers_61 (by decide) rfl ?_
                  refine G_iaddN (a := kk) (b := 1) (q := 63) dX4_readNumbers_62 rfl ?_
                  refine G_iload_n (q := 64) dX4_readNumbers_63 rfl 2 rfl rfl ?_
                  have J74_3 : GG X ({ frames := 2, cells := 0, slots := 0, locals := 43 }) cX4_readNumbers 8 wsX4_readNumbers RX4 false false Z (fun v w => ∃ n9 : Nat → Nat, v = some (.int (oM (pnR L ln many p0))) ∧ w = [(t, .inr (4, [.ref lt, .ref nu, .int (nI ln)])), (lt, .inl (Z 1, 200, .inl (fun j => nI (L j)))), (nu, .inl (Z 0, 3, .inl (fun j => nI (n9 j))))] ∧ (∀ j, n9 j < 100) ∧ ∀ p g, pnN L ln many p0 many = some (p, g) → ∀ j, j < many → n9 j = g j) 0 0 0 0 [(t, .inr (4, [.ref lt, .ref nu, .int (nI ln)])), (lt, .inl (Z 1, 200, .inl (fun j => nI (L j)))), (nu, .inl (Z 0, 3, .inl (fun j => nI (n8 j))))] [(0, .ref t), (1, .int (nI p0)), (2, .int (nI many)), (3, .int (nI (p + 1 + 1))), (4, .int (nI kk)), (5, .int (nI ((10 * a) + b))), (6, .int (nI b))] [.int (nI (sepN many kk))] 74 := by
                    refine G_istore (lv2 := [(0, .ref t), (1, .int (nI p0)), (2, .int (nI many)), (3, .int (nI (p + 1 + 1))), (4, .int (nI kk)), (5, .int (nI ((10 * a) + b))), (6, .int (nI b)), (7, .int (nI (sepN many kk)))]) (q := 76) dX4_readNumbers_74 (by decide) rfl rfl ?_
                    refine G_aload_n (q := 77) dX4_readNumbers_76 rfl 0 rfl rfl ?_
                    refine G_iload_n (q := 78) dX4_readNumbers_77 rfl 3 rfl rfl ?_
                    refine G_callVP (As := [.int (nI (p + 1 + 1))]) (rest := []) (st2 := [.int (nI (ltr L ln (p + 1 + 1)))]) (q := 81) dX4_readNumbers_78 [0, 1, 2] (ct_X4_letterAt Z t lt nu L n8 ln (p + 1 + 1) (by omega) (by omega) (by omega)) (fun h => h) cs_X4_letterAt gX4_readNumbers_X4_letterAt rfl ⟨Nat.le_of_ble_eq_true rfl, Nat.le_of_ble_eq_true rfl⟩ ⟨rfl, rfl⟩ 0 rfl (show vwCl[4]? = some (RX4, TX4, 3) from rfl) rfl (by decide) rfl rfl (Nat.le_of_ble_eq_true rfl) ⟨by decide, by decide⟩ rfl rfl ?_
                    refine G_iload (q := 83) dX4_readNumbers_81 7 rfl rfl ?_
                    refine G_icmp_eqN (tgt := 88) (q := 86) dX4_readNumbers_83 (by decide) rfl (by have := ltr_lt (ln := ln) hL (p + 1); have := ltr_lt (ln := ln) hL (p + 1 + 1); omega) (by have := sepN_b many kk; omega) (fun c83 => ?_) (fun c83 => ?_)
                    · refine G_iincN (x := (p + 1 + 1)) (d := 1) (lv2 := [(0, .ref t), (1, .int (nI p0)), (2, .int (nI many)), (3, .int (nI (p + 1 + 1 + 1))), (4, .int (nI kk)), (5, .int (nI ((10 * a) + b))), (6, .int (nI b)), (7, .int (nI (sepN many kk)))]) (q := 91) dX4_readNumbers_88 3 rfl (by decide) (by decide) rfl rfl ?_
                      refine G_aload_n (q := 92) dX4_readNumbers_91 rfl 0 rfl rfl ?_
                      refine G_get (q := 95) dX4_readNumbers_92 0 rfl (show vwCl[4]? = some (RX4, TX4, 3) from rfl) 1 (by decide) in_X4_readNumbers_X4 fl_X4_readNumbers_15 rfl rfl ?_
                      refine G_iload (q := 97) dX4_readNumbers_95 4 rfl rfl ?_
                      refine G_iload (q := 99) dX4_readNumbers_97 5 rfl rfl ?_
                      refine G_iast (ws2 := [(t, .inr (4, [.ref lt, .ref nu, .int (nI ln)])), (lt, .inl (Z 1, 200, .inl (fun j => nI (L j)))), (nu, .inl (Z 0, 3, .inl (upd (fun j => nI (n8 j)) kk (nI ((10 * a) + b)))))]) (q := 100) dX4_readNumbers_99 2 rfl kk (rfl) (by omega) (by omega) rfl rfl ?_
                      refine GG.of (ws2 := [(t, .inr (4, [.ref lt, .ref nu, .int (nI ln)])), (lt, .inl (Z 1, 200, .inl (fun j => nI (L j)))), (nu, .inl (Z 0, 3, .inl (fun j => nI ((updN n8 kk ((10 * a) + b)) j))))]) (ws_c (rfl) (ws_c (rfl) (ws_c (cell_i (updN_eq _ _ _)) (rfl)))) rfl rfl ?_
                      refine G_iincN (x := kk) (d := 1) (lv2 := [(0, .ref t), (1, .int (nI p0)), (2, .int (nI many)), (3, .int (nI (p + 1 + 1 + 1))), (4, .int (nI (kk + 1))), (5, .int (nI ((10 * a) + b))), (6, .int (nI b)), (7, .int (nI (sepN many kk)))]) (q := 103) dX4_readNumbers_100 4 rfl (by decide) (by decide) rfl rfl ?_
                      refine G_goto (q := 5) dX4_readNumbers_103 (by decide) ?_
                      refine GG.pick (lv2 := [(0, .ref t), (1, .int (nI p0)), (2, .int (nI many)), (3, .int (nI (p + 1 + 1 + 1))), (4, .int (nI (kk + 1)))]) [0, 1, 2, 3, 4] rfl ?_
                      refine GG.of (ws2 := [(t, .inr (4, [.ref lt, .ref nu, .int (nI ln)])), (lt, .inl (Z 1, 200, .inl (fun j => nI (L j)))), (nu, .inl (Z 0, 3, .inl (fun j => nI ((updN n8 kk (10 * a + b)) j))))]) (lv2 := [(0, .ref t), (1, .int (nI p0)), (2, .int (nI many)), (3, .int (nI (p + 1 + 1 + 1))), (4, .int (nI (kk + 1)))]) (st2 := []) (ws_c (rfl) (ws_c (rfl) (ws_c (rfl) (rfl)))) (rfl) (rfl) ?_
                      exact ih1 (kk + 1) (by omega) (by omega) (p + 1 + 1 + 1) (updN n8 kk (10 * a + b)) (updN g kk (10 * a + b)) (pnN_s hp hnum c83) (fun j hj => updN_ag hg hj) (fun j => lt_updN hb (by omega) j)
                    · have hno := pnN_no (pnN_f2 hp hnum c83) (show kk + 1 ≤ many from c8)
                      refine G_iconst (v := -1) (q := 87) dX4_readNumbers_86 (by decide) rfl ?_
                      exact G_iret dX4_readNumbers_87 rfl rfl (⟨_, congrArg (fun z => some (Value.int z)) (by rw [pnR, hno]; rfl), rfl, hb, fun p9 g9 h9 => by rw [hno] at h9; cases h9⟩)
                  refine G_icmp_geN (tgt := 72) (q := 67) dX4_readNumbers_64 (by decide) rfl (by omega) (by omega) (fun c64 => ?_) (fun c64 => ?_)
                  · refine G_bipush (v := nI 59) (q := 74) dX4_readNumbers_72 (by decide) rfl ?_
                    refine GG.of (ws2 := [(t, .inr (4, [.ref lt, .ref nu, .int (nI ln)])), (lt, .inl (Z 1, 200, .inl (fun j => nI (L j)))), (nu, .inl (Z 0, 3, .inl (fun j => nI (n8 j))))]) (lv2 := [(0, .ref t), (1, .int (nI p0)), (2, .int (nI many)), (3, .int (nI (p + 1 + 1))), (4, .int (nI kk)), (5, .int (nI ((10 * a) + b))), (6, .int (nI b))]) (st2 := [.int (nI (sepN many kk))]) (rfl) (rfl) (st_c (vi_c (show nI 59 = nI (sepN many kk) from by first | (rw [sepN, if_pos c64]) | (rw [sepN, if_neg (by omega)]))) (rfl)) ?_
                    exact J74_3
                  · refine G_bipush (v := nI 44) (q := 69) dX4_readNumbers_67 (by decide) rfl ?_
                    refine G_goto (q := 74) dX4_readNumbers_69 (by decide) ?_
                    refine GG.of (ws2 := [(t, .inr (4, [.ref lt, .ref nu, .int (nI ln)])), (lt, .inl (Z 1, 200, .inl (fun j => nI (L j)))), (nu, .inl (Z 0, 3, .inl (fun j => nI (n8 j))))]) (lv2 := [(0, .ref t), (1, .int (nI p0)), (2, .int (nI many)), (3, .int (nI (p + 1 + 1))), (4, .int (nI kk)), (5, .int (nI ((10 * a) + b))), (6, .int (nI b))]) (st2 := [.int (nI (sepN many kk))]) (rfl) (rfl) (st_c (vi_c (show nI 44 = nI (sepN many kk) from by first | (rw [sepN, if_pos c64]) | (rw [sepN, if_neg (by omega)]))) (rfl)) ?_
                    exact J74_3
            · exact c26.elim
  exact L5_1 (many + 1) (0) (Nat.zero_le _) (by omega) p0 nm (fun _ => 0) (rfl) (fun j hj => absurd hj (Nat.not_lt_zero j)) (hnm)
theorem cs_X4_addTo : CS yX4_addTo wsX4_addTo cX4_addTo 3 (some .boolean) 2 := ⟨⟨_, rfl⟩, by decide +kernel, by decide +kernel, by decide +kernel⟩
theorem fl_X4_addTo_15 : Cond.fieldLink RX4 15 (TX4 1).1 (TX4 1).2.1 (TX4 1).2.2.1 ∈ wsX4_addTo := by decide +kernel
theorem in_X4_addTo_X4 : ∀ w ∈ u_ws RX4 TX4 3, w ∈ wsX4_addTo := by decide +kernel
set_option maxHeartbeats 4000000 in
set_option maxRecDepth 100000 in
theorem ct_X4_addTo (Z : Nat → ClassId) (t : Nat) (lt : Nat) (nu : Nat) (L : Nat → Nat) (nm : Nat → Nat) (ln : Nat) (fh : Nat) (ka : Nat) (aa : Nat) (ma : Nat) (pa : Nat) (qa : Nat) (F : FS) (c : Nat) (hln : ln ≤ 200) (hL : ∀ j, L j < 128) (hc : c < 128) (hF : okF F) (hnm : ∀ j, nm j < 100): Ct false yX4_addTo wsX4_addTo ({ frames := 1, cells := 0, slots := 0, locals := 23 }) [.ref t, .ref fh, .int (nI c)] Z [(t, .inr (4, [.ref lt, .ref nu, .int (nI ln)])), (lt, .inl (Z 1, 200, .inl (fun j => nI (L j)))), (nu, .inl (Z 0, 3, .inl (fun j => nI (nm j)))), (fh, .inr (2, [.ref ka, .ref aa, .ref ma, .ref pa, .ref qa, .int (nI (Fn F)), .int (nI (Fk F)), .int (nI (Fdd F)), .int (nI (Fh F))])), (ka, .inl (Z 0, 6, .inl (fun j => nI ((Fkd F) j)))), (aa, .inl (Z 0, 6, .inl (fun j => nI ((Fag F) j)))), (ma, .inl (Z 0, 6, .inl (fun j => nI ((Fml F) j)))), (pa, .inl (Z 0, 8, .inl (fun j => nI ((Ftp F) j)))), (qa, .inl (Z 2, 8, .inl (fun j => bI ((Fqu F) j))))] (rI (bI ((addF F c nm).isSome)) [(t, .inr (4, [.ref lt, .ref nu, .int (nI ln)])), (lt, .inl (Z 1, 200, .inl (fun j => nI (L j)))), (nu, .inl (Z 0, 3, .inl (fun j => nI (nm j)))), (fh, .inr (2, [.ref ka, .ref aa, .ref ma, .ref pa, .ref qa, .int (nI (Fn ((addF F c nm).getD F))), .int (nI (Fk ((addF F c nm).getD F))), .int (nI (Fdd ((addF F c nm).getD F))), .int (nI (Fh ((addF F c nm).getD F)))])), (ka, .inl (Z 0, 6, .inl (fun j => nI ((Fkd ((addF F c nm).getD F)) j)))), (aa, .inl (Z 0, 6, .inl (fun j => nI ((Fag ((addF F c nm).getD F)) j)))), (ma, .inl (Z 0, 6, .inl (fun j => nI ((Fml ((addF F c nm).getD F)) j)))), (pa, .inl (Z 0, 8, .inl (fun j => nI ((Ftp ((addF F c nm).getD F)) j)))), (qa, .inl (Z 2, 8, .inl (fun j => bI ((Fqu ((addF F c nm).getD F)) j))))]) 0 0 := by
  refine Ct_of (cc := cX4_addTo) (maxL := 3) (ret := (some .boolean)) (own := RX4) false false (by decide +kernel) rfl rfl (by decide) (fun v w h => by rw [h.1]; exact ⟨_, rfl, bI_01 _⟩) (Nat.le_of_ble_eq_true rfl) (fun X => ?_)
  show GG X _ _ _ _ _ _ _ _ _ _ _ _ _ _ [(0, .ref t), (1, .ref fh), (2, .int (nI c))] _ _
  refine G_iload_n (q := 1) dX4_addTo_0 rfl 2 rfl rfl ?_
  refine G_bipush (v := nI 114) (q := 3) dX4_addTo_1 (by decide) rfl ?_
  refine G_icmp_neN (tgt := 29) (q := 6) dX4_addTo_3 (by decide) rfl (by omega) (by omega) (fun c3 => ?_) (fun c3 => ?_)
  · refine G_iload_n (q := 30) dX4_addTo_29 rfl 2 rfl rfl ?_
    refine G_bipush (v := nI 115) (q := 32) dX4_addTo_30 (by decide) rfl ?_
    refine G_icmp_neN (tgt := 52) (q := 35) dX4_addTo_32 (by decide) rfl (by omega) (by omega) (fun c32 => ?_) (fun c32 => ?_)
    · refine G_iload_n (q := 53) dX4_addTo_52 rfl 2 rfl rfl ?_
      refine G_bipush (v := nI 100) (q := 55) dX4_addTo_53 (by decide) rfl ?_
      refine G_icmp_neN (tgt := 69) (q := 58) dX4_addTo_55 (by decide) rfl (by omega) (by omega) (fun c55 => ?_) (fun c55 => ?_)
      · refine G_iload_n (q := 70) dX4_addTo_69 rfl 2 rfl rfl ?_
        refine G_bipush (v := nI 104) (q := 72) dX4_addTo_70 (by decide) rfl ?_
        refine G_icmp_neN (tgt := 92) (q := 75) dX4_addTo_72 (by decide) rfl (by omega) (by omega) (fun c72 => ?_) (fun c72 => ?_)
        · have hA : (addF F c nm) = none := by rw [addF, if_neg c3, if_neg c32, if_neg c55, if_neg c72]
          refine G_iconst (v := nI 0) (q := 93) dX4_addTo_92 (by decide) rfl ?_
          refine GG.of (ws2 := [(t, .inr (4, [.ref lt, .ref nu, .int (nI ln)])), (lt, .inl (Z 1, 200, .inl (fun j => nI (L j)))), (nu, .inl (Z 0, 3, .inl (fun j => nI (nm j)))), (fh, .inr (2, [.ref ka, .ref aa, .ref ma, .ref pa, .ref qa, .int (nI (Fn ((addF F c nm).getD F))), .int (nI (Fk ((addF F c nm).getD F))), .int (nI (Fdd ((addF F c nm).getD F))), .int (nI (Fh ((addF F c nm).getD F)))])), (ka, .inl (Z 0, 6, .inl (fun j => nI ((Fkd ((addF F c nm).getD F)) j)))), (aa, .inl (Z 0, 6, .inl (fun j => nI ((Fag ((addF F c nm).getD F)) j)))), (ma, .inl (Z 0, 6, .inl (fun j => nI ((Fml ((addF F c nm).getD F)) j)))), (pa, .inl (Z 0, 8, .inl (fun j => nI ((Ftp ((addF F c nm).getD F)) j)))), (qa, .inl (Z 2, 8, .inl (fun j => bI ((Fqu ((addF F c nm).getD F)) j))))]) (lv2 := [(0, .ref t), (1, .ref fh), (2, .int (nI c))]) (st2 := [.int (bI ((addF F c nm).isSome))]) (ws_c (rfl) (ws_c (rfl) (ws_c (rfl) (ws_c (by rw [hA]; rfl) (ws_c (by rw [hA]; rfl) (ws_c (by rw [hA]; rfl) (ws_c (by rw [hA]; rfl) (ws_c (by rw [hA]; rfl) (ws_c (by rw [hA]; rfl) (rfl)))))))))) (rfl) (st_c (vi_c (show nI 0 = bI ((addF F c nm).isSome) from by rw [hA]; rfl)) (rfl)) ?_
          exact G_iret dX4_addTo_93 rfl rfl ⟨rfl, rfl⟩
        · by_cases hcc : 1 ≤ nm 0 ∧ nm 0 ≤ 6
          · have hA : (addF F c nm) = some (addH F nm) := by rw [addF, if_neg c3, if_neg c32, if_neg c55, if_pos c72, if_pos hcc]
            refine G_aload_n (q := 76) dX4_addTo_75 rfl 1 rfl rfl ?_
            refine G_aload_n (q := 77) dX4_addTo_76 rfl 0 rfl rfl ?_
            refine G_get (q := 80) dX4_addTo_77 0 rfl (show vwCl[4]? = some (RX4, TX4, 3) from rfl) 1 (by decide) in_X4_addTo_X4 fl_X4_addTo_15 rfl rfl ?_
            refine G_iconst (v := nI 0) (q := 81) dX4_addTo_80 (by decide) rfl ?_
            refine G_iald (q := 82) dX4_addTo_81 2 rfl 0 (rfl) (by omega) (by omega) rfl ?_
            refine G_callVX (As := [.int (nI (nm 0))]) (rest := []) (st2 := [.int (bI true)]) (ws2 := [(t, .inr (4, [.ref lt, .ref nu, .int (nI ln)])), (lt, .inl (Z 1, 200, .inl (fun j => nI (L j)))), (nu, .inl (Z 0, 3, .inl (fun j => nI (nm j)))), (fh, .inr (2, [.ref ka, .ref aa, .ref ma, .ref pa, .ref qa, .int (nI (Fn F)), .int (nI (Fk F)), .int (nI (Fdd F)), .int (nI (nm 0))])), (ka, .inl (Z 0, 6, .inl (fun j => nI ((Fkd F) j)))), (aa, .inl (Z 0, 6, .inl (fun j => nI ((Fag F) j)))), (ma, .inl (Z 0, 6, .inl (fun j => nI ((Fml F) j)))), (pa, .inl (Z 0, 8, .inl (fun j => nI ((Ftp F) j)))), (qa, .inl (Z 2, 8, .inl (fun j => bI ((Fqu F) j))))]) (q := 85) dX4_addTo_82 [3, 4, 5, 6, 7, 8] (ct_X2_setHint_ok Z fh ka aa ma pa qa (Fkd F) (Fag F) (Fml F) (Ftp F) (Fqu F) (Fn F) (Fk F) (Fdd F) (Fh F) (nm 0) (hcc)) (fun h => h) cs_X2_setHint gX4_addTo_X2_setHint rfl ⟨Nat.le_of_ble_eq_true rfl, Nat.le_of_ble_eq_true rfl⟩ ⟨rfl, rfl⟩ 3 rfl (show vwCl[2]? = some (RX2, TX2, 9) from rfl) rfl (by decide) rfl rfl (Nat.le_of_ble_eq_true rfl) ⟨by decide, by decide⟩ rfl rfl rfl rfl ?_
            refine G_if_eqF (tgt := 92) (q := 88) dX4_addTo_85 (by decide) rfl (by decide) ?_
            refine G_iconst (v := nI 1) (q := 89) dX4_addTo_88 (by decide) rfl ?_
            refine G_goto (q := 93) dX4_addTo_89 (by decide) ?_
            refine GG.of (ws2 := [(t, .inr (4, [.ref lt, .ref nu, .int (nI ln)])), (lt, .inl (Z 1, 200, .inl (fun j => nI (L j)))), (nu, .inl (Z 0, 3, .inl (fun j => nI (nm j)))), (fh, .inr (2, [.ref ka, .ref aa, .ref ma, .ref pa, .ref qa, .int (nI (Fn ((addF F c nm).getD F))), .int (nI (Fk ((addF F c nm).getD F))), .int (nI (Fdd ((addF F c nm).getD F))), .int (nI (Fh ((addF F c nm).getD F)))])), (ka, .inl (Z 0, 6, .inl (fun j => nI ((Fkd ((addF F c nm).getD F)) j)))), (aa, .inl (Z 0, 6, .inl (fun j => nI ((Fag ((addF F c nm).getD F)) j)))), (ma, .inl (Z 0, 6, .inl (fun j => nI ((Fml ((addF F c nm).getD F)) j)))), (pa, .inl (Z 0, 8, .inl (fun j => nI ((Ftp ((addF F c nm).getD F)) j)))), (qa, .inl (Z 2, 8, .inl (fun j => bI ((Fqu ((addF F c nm).getD F)) j))))]) (lv2 := [(0, .ref t), (1, .ref fh), (2, .int (nI c))]) (st2 := [.int (bI ((addF F c nm).isSome))]) (ws_c (rfl) (ws_c (rfl) (ws_c (rfl) (ws_c (by rw [hA]; rfl) (ws_c (by rw [hA]; rfl) (ws_c (by rw [hA]; rfl) (ws_c (by rw [hA]; rfl) (ws_c (by rw [hA]; rfl) (ws_c (by rw [hA]; rfl) (rfl)))))))))) (rfl) (st_c (vi_c (show nI 1 = bI ((addF F c nm).isSome) from by rw [hA]; rfl)) (rfl)) ?_
            exact G_iret dX4_addTo_93 rfl rfl ⟨rfl, rfl⟩
          · have hA : (addF F c nm) = none := by rw [addF, if_neg c3, if_neg c32, if_neg c55, if_pos c72, if_neg hcc]
            refine G_aload_n (q := 76) dX4_addTo_75 rfl 1 rfl rfl ?_
            refine G_aload_n (q := 77) dX4_addTo_76 rfl 0 rfl rfl ?_
            refine G_get (q := 80) dX4_addTo_77 0 rfl (show vwCl[4]? = some (RX4, TX4, 3) from rfl) 1 (by decide) in_X4_addTo_X4 fl_X4_addTo_15 rfl rfl ?_
            refine G_iconst (v := nI 0) (q := 81) dX4_addTo_80 (by decide) rfl ?_
            refine G_iald (q := 82) dX4_addTo_81 2 rfl 0 (rfl) (by omega) (by omega) rfl ?_
            refine G_callVP (As := [.int (nI (nm 0))]) (rest := []) (st2 := [.int (bI false)]) (q := 85) dX4_addTo_82 [3, 4, 5, 6, 7, 8] (ct_X2_setHint_bad Z fh ka aa ma pa qa (Fkd F) (Fag F) (Fml F) (Ftp F) (Fqu F) (Fn F) (Fk F) (Fdd F) (Fh F) (nm 0) (Nat.lt_trans (hnm 0) (by decide)) (hcc)) (fun h => h) cs_X2_setHint gX4_addTo_X2_setHint rfl ⟨Nat.le_of_ble_eq_true rfl, Nat.le_of_ble_eq_true rfl⟩ ⟨rfl, rfl⟩ 3 rfl (show vwCl[2]? = some (RX2, TX2, 9) from rfl) rfl (by decide) rfl rfl (Nat.le_of_ble_eq_true rfl) ⟨by decide, by decide⟩ rfl rfl ?_
            refine G_if_eqT (tgt := 92) dX4_addTo_85 (by decide) (by decide) ?_
            refine G_iconst (v := nI 0) (q := 93) dX4_addTo_92 (by decide) rfl ?_
            refine GG.of (ws2 := [(t, .inr (4, [.ref lt, .ref nu, .int (nI ln)])), (lt, .inl (Z 1, 200, .inl (fun j => nI (L j)))), (nu, .inl (Z 0, 3, .inl (fun j => nI (nm j)))), (fh, .inr (2, [.ref ka, .ref aa, .ref ma, .ref pa, .ref qa, .int (nI (Fn ((addF F c nm).getD F))), .int (nI (Fk ((addF F c nm).getD F))), .int (nI (Fdd ((addF F c nm).getD F))), .int (nI (Fh ((addF F c nm).getD F)))])), (ka, .inl (Z 0, 6, .inl (fun j => nI ((Fkd ((addF F c nm).getD F)) j)))), (aa, .inl (Z 0, 6, .inl (fun j => nI ((Fag ((addF F c nm).getD F)) j)))), (ma, .inl (Z 0, 6, .inl (fun j => nI ((Fml ((addF F c nm).getD F)) j)))), (pa, .inl (Z 0, 8, .inl (fun j => nI ((Ftp ((addF F c nm).getD F)) j)))), (qa, .inl (Z 2, 8, .inl (fun j => bI ((Fqu ((addF F c nm).getD F)) j))))]) (lv2 := [(0, .ref t), (1, .ref fh), (2, .int (nI c))]) (st2 := [.int (bI ((addF F c nm).isSome))]) (ws_c (rfl) (ws_c (rfl) (ws_c (rfl) (ws_c (by rw [hA]; rfl) (ws_c (by rw [hA]; rfl) (ws_c (by rw [hA]; rfl) (ws_c (by rw [hA]; rfl) (ws_c (by rw [hA]; rfl) (ws_c (by rw [hA]; rfl) (rfl)))))))))) (rfl) (st_c (vi_c (show nI 0 = bI ((addF F c nm).isSome) from by rw [hA]; rfl)) (rfl)) ?_
            exact G_iret dX4_addTo_93 rfl rfl ⟨rfl, rfl⟩
      · by_cases hcc : nm 0 < 64
        · have hA : (addF F c nm) = some (addD F nm) := by rw [addF, if_neg c3, if_neg c32, if_pos c55, if_pos hcc]
          refine G_aload_n (q := 59) dX4_addTo_58 rfl 1 rfl rfl ?_
          refine G_aload_n (q := 60) dX4_addTo_59 rfl 0 rfl rfl ?_
          refine G_get (q := 63) dX4_addTo_60 0 rfl (show vwCl[4]? = some (RX4, TX4, 3) from rfl) 1 (by decide) in_X4_addTo_X4 fl_X4_addTo_15 rfl rfl ?_
          refine G_iconst (v := nI 0) (q := 64) dX4_addTo_63 (by decide) rfl ?_
          refine G_iald (q := 65) dX4_addTo_64 2 rfl 0 (rfl) (by omega) (by omega) rfl ?_
          refine G_callVX (As := [.int (nI (nm 0))]) (rest := []) (st2 := [.int (bI true)]) (ws2 := [(t, .inr (4, [.ref lt, .ref nu, .int (nI ln)])), (lt, .inl (Z 1, 200, .inl (fun j => nI (L j)))), (nu, .inl (Z 0, 3, .inl (fun j => nI (nm j)))), (fh, .inr (2, [.ref ka, .ref aa, .ref ma, .ref pa, .ref qa, .int (nI (Fn F)), .int (nI (Fk F)), .int (nI (nm 0)), .int (nI (Fh F))])), (ka, .inl (Z 0, 6, .inl (fun j => nI ((Fkd F) j)))), (aa, .inl (Z 0, 6, .inl (fun j => nI ((Fag F) j)))), (ma, .inl (Z 0, 6, .inl (fun j => nI ((Fml F) j)))), (pa, .inl (Z 0, 8, .inl (fun j => nI ((Ftp F) j)))), (qa, .inl (Z 2, 8, .inl (fun j => bI ((Fqu F) j))))]) (q := 68) dX4_addTo_65 [3, 4, 5, 6, 7, 8] (ct_X2_setDeed_ok Z fh ka aa ma pa qa (Fkd F) (Fag F) (Fml F) (Ftp F) (Fqu F) (Fn F) (Fk F) (Fdd F) (Fh F) (nm 0) (hcc)) (fun h => h) cs_X2_setDeed gX4_addTo_X2_setDeed rfl ⟨Nat.le_of_ble_eq_true rfl, Nat.le_of_ble_eq_true rfl⟩ ⟨rfl, rfl⟩ 3 rfl (show vwCl[2]? = some (RX2, TX2, 9) from rfl) rfl (by decide) rfl rfl (Nat.le_of_ble_eq_true rfl) ⟨by decide, by decide⟩ rfl rfl rfl rfl ?_
          refine GG.of (ws2 := [(t, .inr (4, [.ref lt, .ref nu, .int (nI ln)])), (lt, .inl (Z 1, 200, .inl (fun j => nI (L j)))), (nu, .inl (Z 0, 3, .inl (fun j => nI (nm j)))), (fh, .inr (2, [.ref ka, .ref aa, .ref ma, .ref pa, .ref qa, .int (nI (Fn ((addF F c nm).getD F))), .int (nI (Fk ((addF F c nm).getD F))), .int (nI (Fdd ((addF F c nm).getD F))), .int (nI (Fh ((addF F c nm).getD F)))])), (ka, .inl (Z 0, 6, .inl (fun j => nI ((Fkd ((addF F c nm).getD F)) j)))), (aa, .inl (Z 0, 6, .inl (fun j => nI ((Fag ((addF F c nm).getD F)) j)))), (ma, .inl (Z 0, 6, .inl (fun j => nI ((Fml ((addF F c nm).getD F)) j)))), (pa, .inl (Z 0, 8, .inl (fun j => nI ((Ftp ((addF F c nm).getD F)) j)))), (qa, .inl (Z 2, 8, .inl (fun j => bI ((Fqu ((addF F c nm).getD F)) j))))]) (lv2 := [(0, .ref t), (1, .ref fh), (2, .int (nI c))]) (st2 := [.int (bI ((addF F c nm).isSome))]) (ws_c (rfl) (ws_c (rfl) (ws_c (rfl) (ws_c (by rw [hA]; rfl) (ws_c (by rw [hA]; rfl) (ws_c (by rw [hA]; rfl) (ws_c (by rw [hA]; rfl) (ws_c (by rw [hA]; rfl) (ws_c (by rw [hA]; rfl) (rfl)))))))))) (rfl) (st_c (vi_c (show bI true = bI ((addF F c nm).isSome) from by rw [hA]; rfl)) (rfl)) ?_
          exact G_iret dX4_addTo_68 rfl rfl ⟨rfl, rfl⟩
        · have hA : (addF F c nm) = none := by rw [addF, if_neg c3, if_neg c32, if_pos c55, if_neg hcc]
          refine G_aload_n (q := 59) dX4_addTo_58 rfl 1 rfl rfl ?_
          refine G_aload_n (q := 60) dX4_addTo_59 rfl 0 rfl rfl ?_
          refine G_get (q := 63) dX4_addTo_60 0 rfl (show vwCl[4]? = some (RX4, TX4, 3) from rfl) 1 (by decide) in_X4_addTo_X4 fl_X4_addTo_15 rfl rfl ?_
          refine G_iconst (v := nI 0) (q := 64) dX4_addTo_63 (by decide) rfl ?_
          refine G_iald (q := 65) dX4_addTo_64 2 rfl 0 (rfl) (by omega) (by omega) rfl ?_
          refine G_callVP (As := [.int (nI (nm 0))]) (rest := []) (st2 := [.int (bI false)]) (q := 68) dX4_addTo_65 [3, 4, 5, 6, 7, 8] (ct_X2_setDeed_bad Z fh ka aa ma pa qa (Fkd F) (Fag F) (Fml F) (Ftp F) (Fqu F) (Fn F) (Fk F) (Fdd F) (Fh F) (nm 0) (Nat.lt_trans (hnm 0) (by decide)) (hcc)) (fun h => h) cs_X2_setDeed gX4_addTo_X2_setDeed rfl ⟨Nat.le_of_ble_eq_true rfl, Nat.le_of_ble_eq_true rfl⟩ ⟨rfl, rfl⟩ 3 rfl (show vwCl[2]? = some (RX2, TX2, 9) from rfl) rfl (by decide) rfl rfl (Nat.le_of_ble_eq_true rfl) ⟨by decide, by decide⟩ rfl rfl ?_
          refine GG.of (ws2 := [(t, .inr (4, [.ref lt, .ref nu, .int (nI ln)])), (lt, .inl (Z 1, 200, .inl (fun j => nI (L j)))), (nu, .inl (Z 0, 3, .inl (fun j => nI (nm j)))), (fh, .inr (2, [.ref ka, .ref aa, .ref ma, .ref pa, .ref qa, .int (nI (Fn ((addF F c nm).getD F))), .int (nI (Fk ((addF F c nm).getD F))), .int (nI (Fdd ((addF F c nm).getD F))), .int (nI (Fh ((addF F c nm).getD F)))])), (ka, .inl (Z 0, 6, .inl (fun j => nI ((Fkd ((addF F c nm).getD F)) j)))), (aa, .inl (Z 0, 6, .inl (fun j => nI ((Fag ((addF F c nm).getD F)) j)))), (ma, .inl (Z 0, 6, .inl (fun j => nI ((Fml ((addF F c nm).getD F)) j)))), (pa, .inl (Z 0, 8, .inl (fun j => nI ((Ftp ((addF F c nm).getD F)) j)))), (qa, .inl (Z 2, 8, .inl (fun j => bI ((Fqu ((addF F c nm).getD F)) j))))]) (lv2 := [(0, .ref t), (1, .ref fh), (2, .int (nI c))]) (st2 := [.int (bI ((addF F c nm).isSome))]) (ws_c (rfl) (ws_c (rfl) (ws_c (rfl) (ws_c (by rw [hA]; rfl) (ws_c (by rw [hA]; rfl) (ws_c (by rw [hA]; rfl) (ws_c (by rw [hA]; rfl) (ws_c (by rw [hA]; rfl) (ws_c (by rw [hA]; rfl) (rfl)))))))))) (rfl) (st_c (vi_c (show bI false = bI ((addF F c nm).isSome) from by rw [hA]; rfl)) (rfl)) ?_
          exact G_iret dX4_addTo_68 rfl rfl ⟨rfl, rfl⟩
    · by_cases hcc : Fk F < 8 ∧ nm 0 < 64 ∧ nm 1 ≤ 1
      · have hA : (addF F c nm) = some (addS F nm) := by rw [addF, if_neg c3, if_pos c32, if_pos hcc]
        refine G_aload_n (q := 36) dX4_addTo_35 rfl 1 rfl rfl ?_
        refine G_aload_n (q := 37) dX4_addTo_36 rfl 0 rfl rfl ?_
        refine G_get (q := 40) dX4_addTo_37 0 rfl (show vwCl[4]? = some (RX4, TX4, 3) from rfl) 1 (by decide) in_X4_addTo_X4 fl_X4_addTo_15 rfl rfl ?_
        refine G_iconst (v := nI 0) (q := 41) dX4_addTo_40 (by decide) rfl ?_
        refine G_iald (q := 42) dX4_addTo_41 2 rfl 0 (rfl) (by omega) (by omega) rfl ?_
        refine G_aload_n (q := 43) dX4_addTo_42 rfl 0 rfl rfl ?_
        refine G_get (q := 46) dX4_addTo_43 0 rfl (show vwCl[4]? = some (RX4, TX4, 3) from rfl) 1 (by decide) in_X4_addTo_X4 fl_X4_addTo_15 rfl rfl ?_
        refine G_iconst (v := nI 1) (q := 47) dX4_addTo_46 (by decide) rfl ?_
        refine G_iald (q := 48) dX4_addTo_47 2 rfl 1 (rfl) (by omega) (by omega) rfl ?_
        refine G_callVX (As := [.int (nI (nm 0)), .int (nI (nm 1))]) (rest := []) (st2 := [.int (bI true)]) (ws2 := [(t, .inr (4, [.ref lt, .ref nu, .int (nI ln)])), (lt, .inl (Z 1, 200, .inl (fun j => nI (L j)))), (nu, .inl (Z 0, 3, .inl (fun j => nI (nm j)))), (fh, .inr (2, [.ref ka, .ref aa, .ref ma, .ref pa, .ref qa, .int (nI (Fn F)), .int (nI ((Fk F) + 1)), .int (nI (Fdd F)), .int (nI (Fh F))])), (ka, .inl (Z 0, 6, .inl (fun j => nI ((Fkd F) j)))), (aa, .inl (Z 0, 6, .inl (fun j => nI ((Fag F) j)))), (ma, .inl (Z 0, 6, .inl (fun j => nI ((Fml F) j)))), (pa, .inl (Z 0, 8, .inl (fun j => nI ((updN (Ftp F) (Fk F) (nm 0)) j)))), (qa, .inl (Z 2, 8, .inl (fun j => bI ((updB (Fqu F) (Fk F) (decide ((nm 1) = 1))) j))))]) (q := 51) dX4_addTo_48 [3, 4, 5, 6, 7, 8] (ct_X2_addSaying_ok Z fh ka aa ma pa qa (Fkd F) (Fag F) (Fml F) (Ftp F) (Fqu F) (Fn F) (Fk F) (Fdd F) (Fh F) (nm 0) (nm 1) (hF.2.1) (by omega) (by omega) (hcc)) (fun h => h) cs_X2_addSaying gX4_addTo_X2_addSaying rfl ⟨Nat.le_of_ble_eq_true rfl, Nat.le_of_ble_eq_true rfl⟩ ⟨rfl, rfl⟩ 3 rfl (show vwCl[2]? = some (RX2, TX2, 9) from rfl) rfl (by decide) rfl rfl (Nat.le_of_ble_eq_true rfl) ⟨by decide, by decide⟩ rfl rfl rfl rfl ?_
        refine GG.of (ws2 := [(t, .inr (4, [.ref lt, .ref nu, .int (nI ln)])), (lt, .inl (Z 1, 200, .inl (fun j => nI (L j)))), (nu, .inl (Z 0, 3, .inl (fun j => nI (nm j)))), (fh, .inr (2, [.ref ka, .ref aa, .ref ma, .ref pa, .ref qa, .int (nI (Fn ((addF F c nm).getD F))), .int (nI (Fk ((addF F c nm).getD F))), .int (nI (Fdd ((addF F c nm).getD F))), .int (nI (Fh ((addF F c nm).getD F)))])), (ka, .inl (Z 0, 6, .inl (fun j => nI ((Fkd ((addF F c nm).getD F)) j)))), (aa, .inl (Z 0, 6, .inl (fun j => nI ((Fag ((addF F c nm).getD F)) j)))), (ma, .inl (Z 0, 6, .inl (fun j => nI ((Fml ((addF F c nm).getD F)) j)))), (pa, .inl (Z 0, 8, .inl (fun j => nI ((Ftp ((addF F c nm).getD F)) j)))), (qa, .inl (Z 2, 8, .inl (fun j => bI ((Fqu ((addF F c nm).getD F)) j))))]) (lv2 := [(0, .ref t), (1, .ref fh), (2, .int (nI c))]) (st2 := [.int (bI ((addF F c nm).isSome))]) (ws_c (rfl) (ws_c (rfl) (ws_c (rfl) (ws_c (by rw [hA]; rfl) (ws_c (by rw [hA]; rfl) (ws_c (by rw [hA]; rfl) (ws_c (by rw [hA]; rfl) (ws_c (by rw [hA]; rfl) (ws_c (by rw [hA]; rfl) (rfl)))))))))) (rfl) (st_c (vi_c (show bI true = bI ((addF F c nm).isSome) from by rw [hA]; rfl)) (rfl)) ?_
        exact G_iret dX4_addTo_51 rfl rfl ⟨rfl, rfl⟩
      · have hA : (addF F c nm) = none := by rw [addF, if_neg c3, if_pos c32, if_neg hcc]
        refine G_aload_n (q := 36) dX4_addTo_35 rfl 1 rfl rfl ?_
        refine G_aload_n (q := 37) dX4_addTo_36 rfl 0 rfl rfl ?_
        refine G_get (q := 40) dX4_addTo_37 0 rfl (show vwCl[4]? = some (RX4, TX4, 3) from rfl) 1 (by decide) in_X4_addTo_X4 fl_X4_addTo_15 rfl rfl ?_
        refine G_iconst (v := nI 0) (q := 41) dX4_addTo_40 (by decide) rfl ?_
        refine G_iald (q := 42) dX4_addTo_41 2 rfl 0 (rfl) (by omega) (by omega) rfl ?_
        refine G_aload_n (q := 43) dX4_addTo_42 rfl 0 rfl rfl ?_
        refine G_get (q := 46) dX4_addTo_43 0 rfl (show vwCl[4]? = some (RX4, TX4, 3) from rfl) 1 (by decide) in_X4_addTo_X4 fl_X4_addTo_15 rfl rfl ?_
        refine G_iconst (v := nI 1) (q := 47) dX4_addTo_46 (by decide) rfl ?_
        refine G_iald (q := 48) dX4_addTo_47 2 rfl 1 (rfl) (by omega) (by omega) rfl ?_
        refine G_callVP (As := [.int (nI (nm 0)), .int (nI (nm 1))]) (rest := []) (st2 := [.int (bI false)]) (q := 51) dX4_addTo_48 [3, 4, 5, 6, 7, 8] (ct_X2_addSaying_bad Z fh ka aa ma pa qa (Fkd F) (Fag F) (Fml F) (Ftp F) (Fqu F) (Fn F) (Fk F) (Fdd F) (Fh F) (nm 0) (nm 1) (hF.2.1) (Nat.lt_trans (hnm 0) (by decide)) (Nat.lt_trans (hnm 1) (by decide)) (hcc)) (fun h => h) cs_X2_addSaying gX4_addTo_X2_addSaying rfl ⟨Nat.le_of_ble_eq_true rfl, Nat.le_of_ble_eq_true rfl⟩ ⟨rfl, rfl⟩ 3 rfl (show vwCl[2]? = some (RX2, TX2, 9) from rfl) rfl (by decide) rfl rfl (Nat.le_of_ble_eq_true rfl) ⟨by decide, by decide⟩ rfl rfl ?_
        refine GG.of (ws2 := [(t, .inr (4, [.ref lt, .ref nu, .int (nI ln)])), (lt, .inl (Z 1, 200, .inl (fun j => nI (L j)))), (nu, .inl (Z 0, 3, .inl (fun j => nI (nm j)))), (fh, .inr (2, [.ref ka, .ref aa, .ref ma, .ref pa, .ref qa, .int (nI (Fn ((addF F c nm).getD F))), .int (nI (Fk ((addF F c nm).getD F))), .int (nI (Fdd ((addF F c nm).getD F))), .int (nI (Fh ((addF F c nm).getD F)))])), (ka, .inl (Z 0, 6, .inl (fun j => nI ((Fkd ((addF F c nm).getD F)) j)))), (aa, .inl (Z 0, 6, .inl (fun j => nI ((Fag ((addF F c nm).getD F)) j)))), (ma, .inl (Z 0, 6, .inl (fun j => nI ((Fml ((addF F c nm).getD F)) j)))), (pa, .inl (Z 0, 8, .inl (fun j => nI ((Ftp ((addF F c nm).getD F)) j)))), (qa, .inl (Z 2, 8, .inl (fun j => bI ((Fqu ((addF F c nm).getD F)) j))))]) (lv2 := [(0, .ref t), (1, .ref fh), (2, .int (nI c))]) (st2 := [.int (bI ((addF F c nm).isSome))]) (ws_c (rfl) (ws_c (rfl) (ws_c (rfl) (ws_c (by rw [hA]; rfl) (ws_c (by rw [hA]; rfl) (ws_c (by rw [hA]; rfl) (ws_c (by rw [hA]; rfl) (ws_c (by rw [hA]; rfl) (ws_c (by rw [hA]; rfl) (rfl)))))))))) (rfl) (st_c (vi_c (show bI false = bI ((addF F c nm).isSome) from by rw [hA]; rfl)) (rfl)) ?_
        exact G_iret dX4_addTo_51 rfl rfl ⟨rfl, rfl⟩
  · by_cases hcc : Fn F < 6 ∧ nm 0 ≤ 4 ∧ nm 1 ≤ 99 ∧ nm 2 ≤ 9
    · have hA : (addF F c nm) = some (addR F nm) := by rw [addF, if_pos c3, if_pos hcc]
      refine G_aload_n (q := 7) dX4_addTo_6 rfl 1 rfl rfl ?_
      refine G_aload_n (q := 8) dX4_addTo_7 rfl 0 rfl rfl ?_
      refine G_get (q := 11) dX4_addTo_8 0 rfl (show vwCl[4]? = some (RX4, TX4, 3) from rfl) 1 (by decide) in_X4_addTo_X4 fl_X4_addTo_15 rfl rfl ?_
      refine G_iconst (v := nI 0) (q := 12) dX4_addTo_11 (by decide) rfl ?_
      refine G_iald (q := 13) dX4_addTo_12 2 rfl 0 (rfl) (by omega) (by omega) rfl ?_
      refine G_aload_n (q := 14) dX4_addTo_13 rfl 0 rfl rfl ?_
      refine G_get (q := 17) dX4_addTo_14 0 rfl (show vwCl[4]? = some (RX4, TX4, 3) from rfl) 1 (by decide) in_X4_addTo_X4 fl_X4_addTo_15 rfl rfl ?_
      refine G_iconst (v := nI 1) (q := 18) dX4_addTo_17 (by decide) rfl ?_
      refine G_iald (q := 19) dX4_addTo_18 2 rfl 1 (rfl) (by omega) (by omega) rfl ?_
      refine G_aload_n (q := 20) dX4_addTo_19 rfl 0 rfl rfl ?_
      refine G_get (q := 23) dX4_addTo_20 0 rfl (show vwCl[4]? = some (RX4, TX4, 3) from rfl) 1 (by decide) in_X4_addTo_X4 fl_X4_addTo_15 rfl rfl ?_
      refine G_iconst (v := nI 2) (q := 24) dX4_addTo_23 (by decide) rfl ?_
      refine G_iald (q := 25) dX4_addTo_24 2 rfl 2 (rfl) (by omega) (by omega) rfl ?_
      refine G_callVX (As := [.int (nI (nm 0)), .int (nI (nm 1)), .int (nI (nm 2))]) (rest := []) (st2 := [.int (bI true)]) (ws2 := [(t, .inr (4, [.ref lt, .ref nu, .int (nI ln)])), (lt, .inl (Z 1, 200, .inl (fun j => nI (L j)))), (nu, .inl (Z 0, 3, .inl (fun j => nI (nm j)))), (fh, .inr (2, [.ref ka, .ref aa, .ref ma, .ref pa, .ref qa, .int (nI ((Fn F) + 1)), .int (nI (Fk F)), .int (nI (Fdd F)), .int (nI (Fh F))])), (ka, .inl (Z 0, 6, .inl (fun j => nI ((updN (Fkd F) (Fn F) (nm 0)) j)))), (aa, .inl (Z 0, 6, .inl (fun j => nI ((updN (Fag F) (Fn F) (nm 1)) j)))), (ma, .inl (Z 0, 6, .inl (fun j => nI ((updN (Fml F) (Fn F) (nm 2)) j)))), (pa, .inl (Z 0, 8, .inl (fun j => nI ((Ftp F) j)))), (qa, .inl (Z 2, 8, .inl (fun j => bI ((Fqu F) j))))]) (q := 28) dX4_addTo_25 [3, 4, 5, 6, 7, 8] (ct_X2_addRelative_ok Z fh ka aa ma pa qa (Fkd F) (Fag F) (Fml F) (Ftp F) (Fqu F) (Fn F) (Fk F) (Fdd F) (Fh F) (nm 0) (nm 1) (nm 2) (hF.1) (by omega) (by omega) (by omega) (hcc)) (fun h => h) cs_X2_addRelative gX4_addTo_X2_addRelative rfl ⟨Nat.le_of_ble_eq_true rfl, Nat.le_of_ble_eq_true rfl⟩ ⟨rfl, rfl⟩ 3 rfl (show vwCl[2]? = some (RX2, TX2, 9) from rfl) rfl (by decide) rfl rfl (Nat.le_of_ble_eq_true rfl) ⟨by decide, by decide⟩ rfl rfl rfl rfl ?_
      refine GG.of (ws2 := [(t, .inr (4, [.ref lt, .ref nu, .int (nI ln)])), (lt, .inl (Z 1, 200, .inl (fun j => nI (L j)))), (nu, .inl (Z 0, 3, .inl (fun j => nI (nm j)))), (fh, .inr (2, [.ref ka, .ref aa, .ref ma, .ref pa, .ref qa, .int (nI (Fn ((addF F c nm).getD F))), .int (nI (Fk ((addF F c nm).getD F))), .int (nI (Fdd ((addF F c nm).getD F))), .int (nI (Fh ((addF F c nm).getD F)))])), (ka, .inl (Z 0, 6, .inl (fun j => nI ((Fkd ((addF F c nm).getD F)) j)))), (aa, .inl (Z 0, 6, .inl (fun j => nI ((Fag ((addF F c nm).getD F)) j)))), (ma, .inl (Z 0, 6, .inl (fun j => nI ((Fml ((addF F c nm).getD F)) j)))), (pa, .inl (Z 0, 8, .inl (fun j => nI ((Ftp ((addF F c nm).getD F)) j)))), (qa, .inl (Z 2, 8, .inl (fun j => bI ((Fqu ((addF F c nm).getD F)) j))))]) (lv2 := [(0, .ref t), (1, .ref fh), (2, .int (nI c))]) (st2 := [.int (bI ((addF F c nm).isSome))]) (ws_c (rfl) (ws_c (rfl) (ws_c (rfl) (ws_c (by rw [hA]; rfl) (ws_c (by rw [hA]; rfl) (ws_c (by rw [hA]; rfl) (ws_c (by rw [hA]; rfl) (ws_c (by rw [hA]; rfl) (ws_c (by rw [hA]; rfl) (rfl)))))))))) (rfl) (st_c (vi_c (show bI true = bI ((addF F c nm).isSome) from by rw [hA]; rfl)) (rfl)) ?_
      exact G_iret dX4_addTo_28 rfl rfl ⟨rfl, rfl⟩
    · have hA : (addF F c nm) = none := by rw [addF, if_pos c3, if_neg hcc]
      refine G_aload_n (q := 7) dX4_addTo_6 rfl 1 rfl rfl ?_
      refine G_aload_n (q := 8) dX4_addTo_7 rfl 0 rfl rfl ?_
      refine G_get (q := 11) dX4_addTo_8 0 rfl (show vwCl[4]? = some (RX4, TX4, 3) from rfl) 1 (by decide) in_X4_addTo_X4 fl_X4_addTo_15 rfl rfl ?_
      refine G_iconst (v := nI 0) (q := 12) dX4_addTo_11 (by decide) rfl ?_
      refine G_iald (q := 13) dX4_addTo_12 2 rfl 0 (rfl) (by omega) (by omega) rfl ?_
      refine G_aload_n (q := 14) dX4_addTo_13 rfl 0 rfl rfl ?_
      refine G_get (q := 17) dX4_addTo_14 0 rfl (show vwCl[4]? = some (RX4, TX4, 3) from rfl) 1 (by decide) in_X4_addTo_X4 fl_X4_addTo_15 rfl rfl ?_
      refine G_iconst (v := nI 1) (q := 18) dX4_addTo_17 (by decide) rfl ?_
      refine G_iald (q := 19) dX4_addTo_18 2 rfl 1 (rfl) (by omega) (by omega) rfl ?_
      refine G_aload_n (q := 20) dX4_addTo_19 rfl 0 rfl rfl ?_
      refine G_get (q := 23) dX4_addTo_20 0 rfl (show vwCl[4]? = some (RX4, TX4, 3) from rfl) 1 (by decide) in_X4_addTo_X4 fl_X4_addTo_15 rfl rfl ?_
      refine G_iconst (v := nI 2) (q := 24) dX4_addTo_23 (by decide) rfl ?_
      refine G_iald (q := 25) dX4_addTo_24 2 rfl 2 (rfl) (by omega) (by omega) rfl ?_
      refine G_callVP (As := [.int (nI (nm 0)), .int (nI (nm 1)), .int (nI (nm 2))]) (rest := []) (st2 := [.int (bI false)]) (q := 28) dX4_addTo_25 [3, 4, 5, 6, 7, 8] (ct_X2_addRelative_bad Z fh ka aa ma pa qa (Fkd F) (Fag F) (Fml F) (Ftp F) (Fqu F) (Fn F) (Fk F) (Fdd F) (Fh F) (nm 0) (nm 1) (nm 2) (hF.1) (Nat.lt_trans (hnm 0) (by decide)) (Nat.lt_trans (hnm 1) (by decide)) (Nat.lt_trans (hnm 2) (by decide)) (hcc)) (fun h => h) cs_X2_addRelative gX4_addTo_X2_addRelative rfl ⟨Nat.le_of_ble_eq_true rfl, Nat.le_of_ble_eq_true rfl⟩ ⟨rfl, rfl⟩ 3 rfl (show vwCl[2]? = some (RX2, TX2, 9) from rfl) rfl (by decide) rfl rfl (Nat.le_of_ble_eq_true rfl) ⟨by decide, by decide⟩ rfl rfl ?_
      refine GG.of (ws2 := [(t, .inr (4, [.ref lt, .ref nu, .int (nI ln)])), (lt, .inl (Z 1, 200, .inl (fun j => nI (L j)))), (nu, .inl (Z 0, 3, .inl (fun j => nI (nm j)))), (fh, .inr (2, [.ref ka, .ref aa, .ref ma, .ref pa, .ref qa, .int (nI (Fn ((addF F c nm).getD F))), .int (nI (Fk ((addF F c nm).getD F))), .int (nI (Fdd ((addF F c nm).getD F))), .int (nI (Fh ((addF F c nm).getD F)))])), (ka, .inl (Z 0, 6, .inl (fun j => nI ((Fkd ((addF F c nm).getD F)) j)))), (aa, .inl (Z 0, 6, .inl (fun j => nI ((Fag ((addF F c nm).getD F)) j)))), (ma, .inl (Z 0, 6, .inl (fun j => nI ((Fml ((addF F c nm).getD F)) j)))), (pa, .inl (Z 0, 8, .inl (fun j => nI ((Ftp ((addF F c nm).getD F)) j)))), (qa, .inl (Z 2, 8, .inl (fun j => bI ((Fqu ((addF F c nm).getD F)) j))))]) (lv2 := [(0, .ref t), (1, .ref fh), (2, .int (nI c))]) (st2 := [.int (bI ((addF F c nm).isSome))]) (ws_c (rfl) (ws_c (rfl) (ws_c (rfl) (ws_c (by rw [hA]; rfl) (ws_c (by rw [hA]; rfl) (ws_c (by rw [hA]; rfl) (ws_c (by rw [hA]; rfl) (ws_c (by rw [hA]; rfl) (ws_c (by rw [hA]; rfl) (rfl)))))))))) (rfl) (st_c (vi_c (show bI false = bI ((addF F c nm).isSome) from by rw [hA]; rfl)) (rfl)) ?_
      exact G_iret dX4_addTo_28 rfl rfl ⟨rfl, rfl⟩
theorem cs_X4_readItem : CS yX4_readItem wsX4_readItem cX4_readItem 6 (some .int) 2 := ⟨⟨_, rfl⟩, by decide +kernel, by decide +kernel, by decide +kernel⟩
set_option maxHeartbeats 4000000 in
set_option maxRecDepth 100000 in
theorem ct_X4_readItem (Z : Nat → ClassId) (t : Nat) (lt : Nat) (nu : Nat) (L : Nat → Nat) (nm : Nat → Nat) (ln : Nat) (fh : Nat) (ka : Nat) (aa : Nat) (ma : Nat) (pa : Nat) (qa : Nat) (F : FS) (p : Nat) (hln : ln ≤ 200) (hL : ∀ j, L j < 128) (hp : p < ln) (hF : okF F) (hnm : ∀ j, nm j < 100): Ct false yX4_readItem wsX4_readItem ({ frames := 3, cells := 0, slots := 0, locals := 70 }) [.ref t, .int (nI p), .ref fh] Z [(t, .inr (4, [.ref lt, .ref nu, .int (nI ln)])), (lt, .inl (Z 1, 200, .inl (fun j => nI (L j)))), (nu, .inl (Z 0, 3, .inl (fun j => nI (nm j)))), (fh, .inr (2, [.ref ka, .ref aa, .ref ma, .ref pa, .ref qa, .int (nI (Fn F)), .int (nI (Fk F)), .int (nI (Fdd F)), .int (nI (Fh F))])), (ka, .inl (Z 0, 6, .inl (fun j => nI ((Fkd F) j)))), (aa, .inl (Z 0, 6, .inl (fun j => nI ((Fag F) j)))), (ma, .inl (Z 0, 6, .inl (fun j => nI ((Fml F) j)))), (pa, .inl (Z 0, 8, .inl (fun j => nI ((Ftp F) j)))), (qa, .inl (Z 2, 8, .inl (fun j => bI ((Fqu F) j))))] (fun v w => ∃ n9 : Nat → Nat, v = some (.int (oM ((itN L ln p F).map (fun x => x.2)))) ∧ w = [(t, .inr (4, [.ref lt, .ref nu, .int (nI ln)])), (lt, .inl (Z 1, 200, .inl (fun j => nI (L j)))), (nu, .inl (Z 0, 3, .inl (fun j => nI (n9 j)))), (fh, .inr (2, [.ref ka, .ref aa, .ref ma, .ref pa, .ref qa, .int (nI (Fn (((itN L ln p F).map (fun x => x.1)).getD F))), .int (nI (Fk (((itN L ln p F).map (fun x => x.1)).getD F))), .int (nI (Fdd (((itN L ln p F).map (fun x => x.1)).getD F))), .int (nI (Fh (((itN L ln p F).map (fun x => x.1)).getD F)))])), (ka, .inl (Z 0, 6, .inl (fun j => nI ((Fkd (((itN L ln p F).map (fun x => x.1)).getD F)) j)))), (aa, .inl (Z 0, 6, .inl (fun j => nI ((Fag (((itN L ln p F).map (fun x => x.1)).getD F)) j)))), (ma, .inl (Z 0, 6, .inl (fun j => nI ((Fml (((itN L ln p F).map (fun x => x.1)).getD F)) j)))), (pa, .inl (Z 0, 8, .inl (fun j => nI ((Ftp (((itN L ln p F).map (fun x => x.1)).getD F)) j)))), (qa, .inl (Z 2, 8, .inl (fun j => bI ((Fqu (((itN L ln p F).map (fun x => x.1)).getD F)) j))))] ∧ ∀ j, n9 j < 100) 0 0 := by
  refine Ct_of (cc := cX4_readItem) (maxL := 6) (ret := (some .int)) (own := RX4) false false (by decide +kernel) rfl rfl (by decide) (fun v w h9 => by obtain ⟨n9, rfl, -⟩ := h9; exact ⟨_, rfl, rfl⟩) (Nat.le_of_ble_eq_true rfl) (fun X => ?_)
  show GG X _ _ _ _ _ _ _ _ _ _ _ _ _ _ [(0, .ref t), (1, .int (nI p)), (2, .ref fh)] _ _
  refine G_aload_n (q := 1) dX4_readItem_0 rfl 0 rfl rfl ?_
  refine G_iload_n (q := 2) dX4_readItem_1 rfl 1 rfl rfl ?_
  refine G_callVP (As := [.int (nI p)]) (rest := []) (st2 := [.int (nI (ltr L ln p))]) (q := 5) dX4_readItem_2 [0, 1, 2] (ct_X4_letterAt Z t lt nu L nm ln p (by omega) (by omega) (by omega)) (fun h => h) cs_X4_letterAt gX4_readItem_X4_letterAt rfl ⟨Nat.le_of_ble_eq_true rfl, Nat.le_of_ble_eq_true rfl⟩ ⟨rfl, rfl⟩ 0 rfl (show vwCl[4]? = some (RX4, TX4, 3) from rfl) rfl (by decide) rfl rfl (Nat.le_of_ble_eq_true rfl) ⟨by decide, by decide⟩ rfl rfl ?_
  refine G_istore_n (lv2 := [(0, .ref t), (1, .int (nI p)), (2, .ref fh), (3, .int (nI (ltr L ln p)))]) (q := 6) dX4_readItem_5 rfl (by decide) rfl rfl ?_
  refine G_aload_n (q := 7) dX4_readItem_6 rfl 0 rfl rfl ?_
  refine G_iload_n (q := 8) dX4_readItem_7 rfl 3 rfl rfl ?_
  refine G_callVP (As := [.int (nI (ltr L ln p))]) (rest := []) (st2 := [.int (nI (nbN (ltr L ln p)))]) (q := 11) dX4_readItem_8 [0, 1, 2] (ct_X4_numbersBehind Z t lt nu L nm ln (ltr L ln p) (ltr_lt hL p)) (fun h => h) cs_X4_numbersBehind gX4_readItem_X4_numbersBehind rfl ⟨Nat.le_of_ble_eq_true rfl, Nat.le_of_ble_eq_true rfl⟩ ⟨rfl, rfl⟩ 0 rfl (show vwCl[4]? = some (RX4, TX4, 3) from rfl) rfl (by decide) rfl rfl (Nat.le_of_ble_eq_true rfl) ⟨by decide, by decide⟩ rfl rfl ?_
  refine G_istore (lv2 := [(0, .ref t), (1, .int (nI p)), (2, .ref fh), (3, .int (nI (ltr L ln p))), (4, .int (nI (nbN (ltr L ln p))))]) (q := 13) dX4_readItem_11 (by decide) rfl rfl ?_
  refine G_aload_n (q := 14) dX4_readItem_13 rfl 0 rfl rfl ?_
  refine G_iload_n (q := 15) dX4_readItem_14 rfl 1 rfl rfl ?_
  refine G_iconst (v := nI 1) (q := 16) dX4_readItem_15 (by decide) rfl ?_
  refine G_iaddN (a := p) (b := 1) (q := 17) dX4_readItem_16 rfl ?_
  refine G_iload (q := 19) dX4_readItem_17 4 rfl rfl ?_
  refine G_callV (As := [.int (nI (p + 1)), .int (nI (nbN (ltr L ln p)))]) (rest := []) (q := 22) dX4_readItem_19 [0, 1, 2] (ct_X4_readNumbers Z t lt nu L nm ln (p + 1) (nbN (ltr L ln p)) (by omega) (by omega) (by omega) (nbN_le _) (hnm)) (fun h => h) cs_X4_readNumbers gX4_readItem_X4_readNumbers rfl ⟨Nat.le_of_ble_eq_true rfl, Nat.le_of_ble_eq_true rfl⟩ ⟨rfl, rfl⟩ 0 rfl (show vwCl[4]? = some (RX4, TX4, 3) from rfl) rfl (by decide) rfl rfl (Nat.le_of_ble_eq_true rfl) ⟨by decide, by decide⟩ (fun v w h9 => by obtain ⟨n8, rfl, rfl, -⟩ := h9; rfl) rfl (fun v9 w9 h9 => ?_)
  obtain ⟨n8, rfl, rfl, hb8, hn8⟩ := h9
  refine GG.of (ws2 := [(t, .inr (4, [.ref lt, .ref nu, .int (nI ln)])), (lt, .inl (Z 1, 200, .inl (fun j => nI (L j)))), (nu, .inl (Z 0, 3, .inl (fun j => nI (n8 j)))), (fh, .inr (2, [.ref ka, .ref aa, .ref ma, .ref pa, .ref qa, .int (nI (Fn F)), .int (nI (Fk F)), .int (nI (Fdd F)), .int (nI (Fh F))])), (ka, .inl (Z 0, 6, .inl (fun j => nI ((Fkd F) j)))), (aa, .inl (Z 0, 6, .inl (fun j => nI ((Fag F) j)))), (ma, .inl (Z 0, 6, .inl (fun j => nI ((Fml F) j)))), (pa, .inl (Z 0, 8, .inl (fun j => nI ((Ftp F) j)))), (qa, .inl (Z 2, 8, .inl (fun j => bI ((Fqu F) j))))]) (st2 := [.int (oM (pnR L ln (nbN (ltr L ln p)) (p + 1)))]) rfl rfl rfl ?_
  rcases pn_cases (L := L) (ln := ln) (many := (nbN (ltr L ln p))) (p0 := p + 1) (nbN (ltr L ln p)) with ho | ⟨q, g, ho⟩
  · have hI : (itN L ln p F) = none := itN_0 ho
    refine G_top (y := -1) (by rw [pnR, ho]; rfl) ?_
    refine G_istore (lv2 := [(0, .ref t), (1, .int (nI p)), (2, .ref fh), (3, .int (nI (ltr L ln p))), (4, .int (nI (nbN (ltr L ln p)))), (5, .int (-1))]) (q := 24) dX4_readItem_22 (by decide) rfl rfl ?_
    refine G_iload (q := 26) dX4_readItem_24 5 rfl rfl ?_
    refine G_iconst (v := -1) (q := 27) dX4_readItem_26 (by decide) rfl ?_
    refine G_icmp_eqT (tgt := 39) dX4_readItem_27 (by decide) (by decide) ?_
    refine G_iconst (v := -1) (q := 40) dX4_readItem_39 (by decide) rfl ?_
    exact G_iret dX4_readItem_40 rfl rfl (by first | exact ⟨n8, congrArg (fun z => some (Value.int z)) (by rw [hI]; rfl), by rw [hI]; rfl, hb8⟩ | exact ⟨n8, congrArg (fun z => some (Value.int z)) (by rw [hI]; rfl), by rw [hI, hcg, h2]; rfl, hb8⟩)
  · have hqb := pnN_bd (show p + 1 ≤ ln from hp) ho
    have hgn := hn8 q g ho
    have hcg := addF_cong (F := F) hgn
    refine G_top (y := nI q) (by rw [pnR, ho]; rfl) ?_
    refine G_istore (lv2 := [(0, .ref t), (1, .int (nI p)), (2, .ref fh), (3, .int (nI (ltr L ln p))), (4, .int (nI (nbN (ltr L ln p)))), (5, .int (nI q))]) (q := 24) dX4_readItem_22 (by decide) rfl rfl ?_
    refine G_iload (q := 26) dX4_readItem_24 5 rfl rfl ?_
    refine G_iconst (v := -1) (q := 27) dX4_readItem_26 (by decide) rfl ?_
    refine G_icmp_eqF (tgt := 39) (q := 30) dX4_readItem_27 (by decide) rfl (nI_m1 (by omega)) ?_
    refine G_aload_n (q := 31) dX4_readItem_30 rfl 0 rfl rfl ?_
    refine G_aload_n (q := 32) dX4_readItem_31 rfl 2 rfl rfl ?_
    refine G_iload_n (q := 33) dX4_readItem_32 rfl 3 rfl rfl ?_
    refine G_callVX (As := [.ref fh, .int (nI (ltr L ln p))]) (rest := []) (st2 := [.int (bI ((addF F (ltr L ln p) n8).isSome))]) (ws2 := [(t, .inr (4, [.ref lt, .ref nu, .int (nI ln)])), (lt, .inl (Z 1, 200, .inl (fun j => nI (L j)))), (nu, .inl (Z 0, 3, .inl (fun j => nI (n8 j)))), (fh, .inr (2, [.ref ka, .ref aa, .ref ma, .ref pa, .ref qa, .int (nI (Fn ((addF F (ltr L ln p) n8).getD F))), .int (nI (Fk ((addF F (ltr L ln p) n8).getD F))), .int (nI (Fdd ((addF F (ltr L ln p) n8).getD F))), .int (nI (Fh ((addF F (ltr L ln p) n8).getD F)))])), (ka, .inl (Z 0, 6, .inl (fun j => nI ((Fkd ((addF F (ltr L ln p) n8).getD F)) j)))), (aa, .inl (Z 0, 6, .inl (fun j => nI ((Fag ((addF F (ltr L ln p) n8).getD F)) j)))), (ma, .inl (Z 0, 6, .inl (fun j => nI ((Fml ((addF F (ltr L ln p) n8).getD F)) j)))), (pa, .inl (Z 0, 8, .inl (fun j => nI ((Ftp ((addF F (ltr L ln p) n8).getD F)) j)))), (qa, .inl (Z 2, 8, .inl (fun j => bI ((Fqu ((addF F (ltr L ln p) n8).getD F)) j))))]) (q := 36) dX4_readItem_33 [0, 1, 2, 3, 4, 5, 6, 7, 8] (ct_X4_addTo Z t lt nu L n8 ln fh ka aa ma pa qa F (ltr L ln p) (by omega) (by omega) (ltr_lt hL p) (hF) (hb8)) (fun h => h) cs_X4_addTo gX4_readItem_X4_addTo rfl ⟨Nat.le_of_ble_eq_true rfl, Nat.le_of_ble_eq_true rfl⟩ ⟨rfl, rfl⟩ 0 rfl (show vwCl[4]? = some (RX4, TX4, 3) from rfl) rfl (by decide) rfl rfl (Nat.le_of_ble_eq_true rfl) ⟨by decide, by decide⟩ rfl rfl rfl rfl ?_
    rcases of_cases (addF F (ltr L ln p) g) with h2 | ⟨F2, h2⟩
    · have hI : (itN L ln p F) = none := itN_1 ho h2
      refine G_top (y := bI false) (by rw [hcg, h2]; rfl) ?_
      refine G_if_neF (tgt := 41) (q := 39) dX4_readItem_36 (by decide) rfl (by decide) ?_
      refine G_iconst (v := -1) (q := 40) dX4_readItem_39 (by decide) rfl ?_
      exact G_iret dX4_readItem_40 rfl rfl (by first | exact ⟨n8, congrArg (fun z => some (Value.int z)) (by rw [hI]; rfl), by rw [hI]; rfl, hb8⟩ | exact ⟨n8, congrArg (fun z => some (Value.int z)) (by rw [hI]; rfl), by rw [hI, hcg, h2]; rfl, hb8⟩)
    · have hI : (itN L ln p F) = some (F2, q) := itN_2 ho h2
      refine G_top (y := bI true) (by rw [hcg, h2]; rfl) ?_
      refine G_if_neT (tgt := 41) dX4_readItem_36 (by decide) (by decide) ?_
      refine G_iload (q := 43) dX4_readItem_41 5 rfl rfl ?_
      exact G_iret dX4_readItem_43 rfl rfl (by first | exact ⟨n8, congrArg (fun z => some (Value.int z)) (by rw [hI]; rfl), by rw [hI]; rfl, hb8⟩ | exact ⟨n8, congrArg (fun z => some (Value.int z)) (by rw [hI]; rfl), by rw [hI, hcg, h2]; rfl, hb8⟩)
theorem cs_X4_readInto : CS yX4_readInto wsX4_readInto cX4_readInto 5 (some .int) 1 := ⟨⟨_, rfl⟩, by decide +kernel, by decide +kernel, by decide +kernel⟩
theorem fl_X4_readInto_19 : Cond.fieldLink RX4 19 (TX4 2).1 (TX4 2).2.1 (TX4 2).2.2.1 ∈ wsX4_readInto := by decide +kernel
theorem in_X4_readInto_X4 : ∀ w ∈ u_ws RX4 TX4 3, w ∈ wsX4_readInto := by decide +kernel
set_option maxHeartbeats 4000000 in
set_option maxRecDepth 100000 in
theorem ct_X4_readInto (Z : Nat → ClassId) (t : Nat) (lt : Nat) (nu : Nat) (L : Nat → Nat) (nm : Nat → Nat) (ln : Nat) (fh : Nat) (ka : Nat) (aa : Nat) (ma : Nat) (pa : Nat) (qa : Nat) (F : FS) (hln : ln ≤ 200) (hL : ∀ j, L j < 128) (hF : okF F) (hnm : ∀ j, nm j < 100): Ct false yX4_readInto wsX4_readInto ({ frames := 4, cells := 0, slots := 0, locals := 95 }) [.ref t, .ref fh] Z [(t, .inr (4, [.ref lt, .ref nu, .int (nI ln)])), (lt, .inl (Z 1, 200, .inl (fun j => nI (L j)))), (nu, .inl (Z 0, 3, .inl (fun j => nI (nm j)))), (fh, .inr (2, [.ref ka, .ref aa, .ref ma, .ref pa, .ref qa, .int (nI (Fn F)), .int (nI (Fk F)), .int (nI (Fdd F)), .int (nI (Fh F))])), (ka, .inl (Z 0, 6, .inl (fun j => nI ((Fkd F) j)))), (aa, .inl (Z 0, 6, .inl (fun j => nI ((Fag F) j)))), (ma, .inl (Z 0, 6, .inl (fun j => nI ((Fml F) j)))), (pa, .inl (Z 0, 8, .inl (fun j => nI ((Ftp F) j)))), (qa, .inl (Z 2, 8, .inl (fun j => bI ((Fqu F) j))))] (fun v w => ∃ n9 : Nat → Nat, v = some (.int (rdV L ln F)) ∧ w = [(t, .inr (4, [.ref lt, .ref nu, .int (nI ln)])), (lt, .inl (Z 1, 200, .inl (fun j => nI (L j)))), (nu, .inl (Z 0, 3, .inl (fun j => nI (n9 j)))), (fh, .inr (2, [.ref ka, .ref aa, .ref ma, .ref pa, .ref qa, .int (nI (Fn (rdF L ln F))), .int (nI (Fk (rdF L ln F))), .int (nI (Fdd (rdF L ln F))), .int (nI (Fh (rdF L ln F)))])), (ka, .inl (Z 0, 6, .inl (fun j => nI ((Fkd (rdF L ln F)) j)))), (aa, .inl (Z 0, 6, .inl (fun j => nI ((Fag (rdF L ln F)) j)))), (ma, .inl (Z 0, 6, .inl (fun j => nI ((Fml (rdF L ln F)) j)))), (pa, .inl (Z 0, 8, .inl (fun j => nI ((Ftp (rdF L ln F)) j)))), (qa, .inl (Z 2, 8, .inl (fun j => bI ((Fqu (rdF L ln F)) j))))] ∧ ∀ j, n9 j < 100) 0 0 := by
  refine Ct_of (cc := cX4_readInto) (maxL := 5) (ret := (some .int)) (own := RX4) false false (by decide +kernel) rfl rfl (by decide) (fun v w h9 => by obtain ⟨n9, rfl, -⟩ := h9; exact ⟨_, rfl, rfl⟩) (Nat.le_of_ble_eq_true rfl) (fun X => ?_)
  show GG X _ _ _ _ _ _ _ _ _ _ _ _ _ _ [(0, .ref t), (1, .ref fh)] _ _
  refine G_aload_n (q := 1) dX4_readInto_0 rfl 1 rfl rfl ?_
  refine G_callVX (As := []) (rest := []) (st2 := []) (ws2 := [(t, .inr (4, [.ref lt, .ref nu, .int (nI ln)])), (lt, .inl (Z 1, 200, .inl (fun j => nI (L j)))), (nu, .inl (Z 0, 3, .inl (fun j => nI (nm j)))), (fh, .inr (2, [.ref ka, .ref aa, .ref ma, .ref pa, .ref qa, .int (nI 0), .int (nI 0), .int (nI 1), .int (nI 3)])), (ka, .inl (Z 0, 6, .inl (fun j => nI ((Fkd F) j)))), (aa, .inl (Z 0, 6, .inl (fun j => nI ((Fag F) j)))), (ma, .inl (Z 0, 6, .inl (fun j => nI ((Fml F) j)))), (pa, .inl (Z 0, 8, .inl (fun j => nI ((Ftp F) j)))), (qa, .inl (Z 2, 8, .inl (fun j => bI ((Fqu F) j))))]) (q := 4) dX4_readInto_1 [3, 4, 5, 6, 7, 8] (ct_X2_clear Z fh ka aa ma pa qa (Fkd F) (Fag F) (Fml F) (Ftp F) (Fqu F) (Fn F) (Fk F) (Fdd F) (Fh F)) (fun h => h) cs_X2_clear gX4_readInto_X2_clear rfl ⟨Nat.le_of_ble_eq_true rfl, Nat.le_of_ble_eq_true rfl⟩ ⟨rfl, rfl⟩ 3 rfl (show vwCl[2]? = some (RX2, TX2, 9) from rfl) rfl (by decide) rfl rfl (Nat.le_of_ble_eq_true rfl) ⟨by decide, by decide⟩ rfl rfl rfl rfl ?_
  refine G_iconst (v := nI 0) (q := 5) dX4_readInto_4 (by decide) rfl ?_
  refine G_istore_n (lv2 := [(0, .ref t), (1, .ref fh), (2, .int (nI 0))]) (q := 6) dX4_readInto_5 rfl (by decide) rfl rfl ?_
  refine G_iconst (v := nI 0) (q := 7) dX4_readInto_6 (by decide) rfl ?_
  refine G_istore_n (lv2 := [(0, .ref t), (1, .ref fh), (2, .int (nI 0)), (3, .int (nI 0))]) (q := 8) dX4_readInto_7 rfl (by decide) rfl rfl ?_
  have L8_1 : ∀ fu1 m : Nat, m ≤ 200 → 200 + 1 ≤ m + fu1 → ∀ (n8 : Nat → Nat), ((prS L ln F m).1 = false) → (∀ j, n8 j < 100) → GG X ({ frames := 4, cells := 0, slots := 0, locals := 95 }) cX4_readInto 5 wsX4_readInto RX4 false false Z (fun v w => ∃ n9 : Nat → Nat, v = some (.int (rdV L ln F)) ∧ w = [(t, .inr (4, [.ref lt, .ref nu, .int (nI ln)])), (lt, .inl (Z 1, 200, .inl (fun j => nI (L j)))), (nu, .inl (Z 0, 3, .inl (fun j => nI (n9 j)))), (fh, .inr (2, [.ref ka, .ref aa, .ref ma, .ref pa, .ref qa, .int (nI (Fn (rdF L ln F))), .int (nI (Fk (rdF L ln F))), .int (nI (Fdd (rdF L ln F))), .int (nI (Fh (rdF L ln F)))])), (ka, .inl (Z 0, 6, .inl (fun j => nI ((Fkd (rdF L ln F)) j)))), (aa, .inl (Z 0, 6, .inl (fun j => nI ((Fag (rdF L ln F)) j)))), (ma, .inl (Z 0, 6, .inl (fun j => nI ((Fml (rdF L ln F)) j)))), (pa, .inl (Z 0, 8, .inl (fun j => nI ((Ftp (rdF L ln F)) j)))), (qa, .inl (Z 2, 8, .inl (fun j => bI ((Fqu (rdF L ln F)) j))))] ∧ ∀ j, n9 j < 100) 0 0 0 0 [(t, .inr (4, [.ref lt, .ref nu, .int (nI ln)])), (lt, .inl (Z 1, 200, .inl (fun j => nI (L j)))), (nu, .inl (Z 0, 3, .inl (fun j => nI (n8 j)))), (fh, .inr (2, [.ref ka, .ref aa, .ref ma, .ref pa, .ref qa, .int (nI (Fn (prS L ln F m).2.1)), .int (nI (Fk (prS L ln F m).2.1)), .int (nI (Fdd (prS L ln F m).2.1)), .int (nI (Fh (prS L ln F m).2.1))])), (ka, .inl (Z 0, 6, .inl (fun j => nI ((Fkd (prS L ln F m).2.1) j)))), (aa, .inl (Z 0, 6, .inl (fun j => nI ((Fag (prS L ln F m).2.1) j)))), (ma, .inl (Z 0, 6, .inl (fun j => nI ((Fml (prS L ln F m).2.1) j)))), (pa, .inl (Z 0, 8, .inl (fun j => nI ((Ftp (prS L ln F m).2.1) j)))), (qa, .inl (Z 2, 8, .inl (fun j => bI ((Fqu (prS L ln F m).2.1) j))))] [(0, .ref t), (1, .ref fh), (2, .int (nI ((prS L ln F m).2.2))), (3, .int (nI m))] [] 8 := by
    intro fu1
    induction fu1 with
    | zero => intro m q1 q2; exact absurd q2 (by omega)
    | succ fu1 ih1 =>
      intro m hi1 hf1 n8 hf hb
      have hok := prS_ok (L := L) (ln := ln) hF m
      refine G_iload_n (q := 9) dX4_readInto_8 rfl 3 rfl rfl ?_
      refine G_sipush (v := nI 200) (q := 12) dX4_readInto_9 (by decide) rfl ?_
      refine G_icmp_geN (tgt := 48) (q := 15) dX4_readInto_12 (by decide) rfl (by omega) (by omega) (fun c12 => ?_) (fun c12 => ?_)
      · have hz : prS L ln F 200 = prS L ln F m := by rw [show m = 200 by omega]
        refine G_bipush (v := -4) (q := 50) dX4_readInto_48 (by decide) rfl ?_
        exact G_iret dX4_readInto_50 rfl rfl (⟨n8, congrArg (fun z => some (Value.int z)) (by rw [rdV, hz, hf]; rfl), by rw [rdF, hz], hb⟩)
      · refine G_iload_n (q := 16) dX4_readInto_15 rfl 2 rfl rfl ?_
        refine G_aload_n (q := 17) dX4_readInto_16 rfl 0 rfl rfl ?_
        refine G_get (q := 20) dX4_readInto_17 0 rfl (show vwCl[4]? = some (RX4, TX4, 3) from rfl) 2 (by decide) in_X4_readInto_X4 fl_X4_readInto_19 rfl rfl ?_
        refine G_icmp_geN (tgt := 48) (q := 23) dX4_readInto_20 (by decide) rfl (by omega) (by omega) (fun c20 => ?_) (fun c20 => ?_)
        · have hz : prS L ln F 200 = prS L ln F m := prS_at (Or.inr (by omega)) (by omega)
          refine G_bipush (v := -4) (q := 50) dX4_readInto_48 (by decide) rfl ?_
          exact G_iret dX4_readInto_50 rfl rfl (⟨n8, congrArg (fun z => some (Value.int z)) (by rw [rdV, hz, hf]; rfl), by rw [rdF, hz], hb⟩)
        · refine G_aload_n (q := 24) dX4_readInto_23 rfl 0 rfl rfl ?_
          refine G_iload_n (q := 25) dX4_readInto_24 rfl 2 rfl rfl ?_
          refine G_aload_n (q := 26) dX4_readInto_25 rfl 1 rfl rfl ?_
          refine G_callV (As := [.int (nI ((prS L ln F m).2.2)), .ref fh]) (rest := []) (q := 29) dX4_readInto_26 [0, 1, 2, 3, 4, 5, 6, 7, 8] (ct_X4_readItem Z t lt nu L n8 ln fh ka aa ma pa qa ((prS L ln F m).2.1) ((prS L ln F m).2.2) (by omega) (by omega) (by omega) (hok.1) (hb)) (fun h => h) cs_X4_readItem gX4_readInto_X4_readItem rfl ⟨Nat.le_of_ble_eq_true rfl, Nat.le_of_ble_eq_true rfl⟩ ⟨rfl, rfl⟩ 0 rfl (show vwCl[4]? = some (RX4, TX4, 3) from rfl) rfl (by decide) rfl rfl (Nat.le_of_ble_eq_true rfl) ⟨by decide, by decide⟩ (fun v w h9 => by obtain ⟨n7, rfl, rfl, -⟩ := h9; rfl) rfl (fun v9 w9 h9 => ?_)
          obtain ⟨n7, rfl, rfl, hb7⟩ := h9
          refine GG.of (ws2 := [(t, .inr (4, [.ref lt, .ref nu, .int (nI ln)])), (lt, .inl (Z 1, 200, .inl (fun j => nI (L j)))), (nu, .inl (Z 0, 3, .inl (fun j => nI (n7 j)))), (fh, .inr (2, [.ref ka, .ref aa, .ref ma, .ref pa, .ref qa, .int (nI (Fn (((itN L ln (prS L ln F m).2.2 (prS L ln F m).2.1).map (fun x => x.1)).getD (prS L ln F m).2.1))), .int (nI (Fk (((itN L ln (prS L ln F m).2.2 (prS L ln F m).2.1).map (fun x => x.1)).getD (prS L ln F m).2.1))), .int (nI (Fdd (((itN L ln (prS L ln F m).2.2 (prS L ln F m).2.1).map (fun x => x.1)).getD (prS L ln F m).2.1))), .int (nI (Fh (((itN L ln (prS L ln F m).2.2 (prS L ln F m).2.1).map (fun x => x.1)).getD (prS L ln F m).2.1)))])), (ka, .inl (Z 0, 6, .inl (fun j => nI ((Fkd (((itN L ln (prS L ln F m).2.2 (prS L ln F m).2.1).map (fun x => x.1)).getD (prS L ln F m).2.1)) j)))), (aa, .inl (Z 0, 6, .inl (fun j => nI ((Fag (((itN L ln (prS L ln F m).2.2 (prS L ln F m).2.1).map (fun x => x.1)).getD (prS L ln F m).2.1)) j)))), (ma, .inl (Z 0, 6, .inl (fun j => nI ((Fml (((itN L ln (prS L ln F m).2.2 (prS L ln F m).2.1).map (fun x => x.1)).getD (prS L ln F m).2.1)) j)))), (pa, .inl (Z 0, 8, .inl (fun j => nI ((Ftp (((itN L ln (prS L ln F m).2.2 (prS L ln F m).2.1).map (fun x => x.1)).getD (prS L ln F m).2.1)) j)))), (qa, .inl (Z 2, 8, .inl (fun j => bI ((Fqu (((itN L ln (prS L ln F m).2.2 (prS L ln F m).2.1).map (fun x => x.1)).getD (prS L ln F m).2.1)) j))))]) (st2 := [.int (oM ((itN L ln (prS L ln F m).2.2 (prS L ln F m).2.1).map (fun x => x.2)))]) rfl rfl rfl ?_
          rcases it_cases L ln (prS L ln F m).2.2 (prS L ln F m).2.1 with hit | ⟨F2, q, hit⟩
          · have hy := prS_n hf c20 hit
            have hz : prS L ln F 200 = prS L ln F (m + 1) := prS_at (Or.inl (by rw [hy])) (by omega)
            refine G_top (y := -1) (by rw [hit]; rfl) ?_
            refine G_istore (lv2 := [(0, .ref t), (1, .ref fh), (2, .int (nI ((prS L ln F m).2.2))), (3, .int (nI m)), (4, .int (-1))]) (q := 31) dX4_readInto_29 (by decide) rfl rfl ?_
            refine G_iload (q := 33) dX4_readInto_31 4 rfl rfl ?_
            refine G_iconst (v := -1) (q := 34) dX4_readInto_33 (by decide) rfl ?_
            refine G_icmp_neF (tgt := 39) (q := 37) dX4_readInto_34 (by decide) rfl (by decide) ?_
            refine G_iload_n (q := 38) dX4_readInto_37 rfl 2 rfl rfl ?_
            exact G_iret dX4_readInto_38 rfl rfl (⟨n7, congrArg (fun z => some (Value.int z)) (by rw [rdV, hz, hy]; rfl), by rw [rdF, hz, hy, hit]; rfl, hb7⟩)
          · have hy := prS_y hf c20 hit
            have hqb := itN_bd c20 hok.1 hit
            refine G_top (y := nI q) (by rw [hit]; rfl) ?_
            refine G_istore (lv2 := [(0, .ref t), (1, .ref fh), (2, .int (nI ((prS L ln F m).2.2))), (3, .int (nI m)), (4, .int (nI q))]) (q := 31) dX4_readInto_29 (by decide) rfl rfl ?_
            refine G_iload (q := 33) dX4_readInto_31 4 rfl rfl ?_
            refine G_iconst (v := -1) (q := 34) dX4_readInto_33 (by decide) rfl ?_
            refine G_icmp_neT (tgt := 39) dX4_readInto_34 (by decide) (nI_m1 (by omega)) ?_
            refine G_iload (q := 41) dX4_readInto_39 4 rfl rfl ?_
            refine G_istore_n (lv2 := [(0, .ref t), (1, .ref fh), (2, .int (nI q)), (3, .int (nI m)), (4, .int (nI q))]) (q := 42) dX4_readInto_41 rfl (by decide) rfl rfl ?_
            refine G_iincN (x := m) (d := 1) (lv2 := [(0, .ref t), (1, .ref fh), (2, .int (nI q)), (3, .int (nI (m + 1))), (4, .int (nI q))]) (q := 45) dX4_readInto_42 3 rfl (by decide) (by decide) rfl rfl ?_
            refine G_goto (q := 8) dX4_readInto_45 (by decide) ?_
            refine GG.pick (lv2 := [(0, .ref t), (1, .ref fh), (2, .int (nI q)), (3, .int (nI (m + 1)))]) [0, 1, 2, 3] rfl ?_
            refine GG.of (ws2 := [(t, .inr (4, [.ref lt, .ref nu, .int (nI ln)])), (lt, .inl (Z 1, 200, .inl (fun j => nI (L j)))), (nu, .inl (Z 0, 3, .inl (fun j => nI (n7 j)))), (fh, .inr (2, [.ref ka, .ref aa, .ref ma, .ref pa, .ref qa, .int (nI (Fn (prS L ln F (m + 1)).2.1)), .int (nI (Fk (prS L ln F (m + 1)).2.1)), .int (nI (Fdd (prS L ln F (m + 1)).2.1)), .int (nI (Fh (prS L ln F (m + 1)).2.1))])), (ka, .inl (Z 0, 6, .inl (fun j => nI ((Fkd (prS L ln F (m + 1)).2.1) j)))), (aa, .inl (Z 0, 6, .inl (fun j => nI ((Fag (prS L ln F (m + 1)).2.1) j)))), (ma, .inl (Z 0, 6, .inl (fun j => nI ((Fml (prS L ln F (m + 1)).2.1) j)))), (pa, .inl (Z 0, 8, .inl (fun j => nI ((Ftp (prS L ln F (m + 1)).2.1) j)))), (qa, .inl (Z 2, 8, .inl (fun j => bI ((Fqu (prS L ln F (m + 1)).2.1) j))))]) (lv2 := [(0, .ref t), (1, .ref fh), (2, .int (nI ((prS L ln F (m + 1)).2.2))), (3, .int (nI (m + 1)))]) (st2 := []) (ws_c (rfl) (ws_c (rfl) (ws_c (rfl) (ws_c (by rw [hy, hit]; rfl) (ws_c (by rw [hy, hit]; rfl) (ws_c (by rw [hy, hit]; rfl) (ws_c (by rw [hy, hit]; rfl) (ws_c (by rw [hy, hit]; rfl) (ws_c (by rw [hy, hit]; rfl) (rfl)))))))))) (lv_c rfl (lv_c rfl (lv_c (vi_c (show nI q = nI ((prS L ln F (m + 1)).2.2) from by rw [hy])) (lv_c rfl (rfl))))) (rfl) ?_
            exact ih1 (m + 1) (by omega) (by omega) n7 (by rw [hy]) (hb7)
  refine GG.of (ws2 := [(t, .inr (4, [.ref lt, .ref nu, .int (nI ln)])), (lt, .inl (Z 1, 200, .inl (fun j => nI (L j)))), (nu, .inl (Z 0, 3, .inl (fun j => nI (nm j)))), (fh, .inr (2, [.ref ka, .ref aa, .ref ma, .ref pa, .ref qa, .int (nI (Fn (prS L ln F 0).2.1)), .int (nI (Fk (prS L ln F 0).2.1)), .int (nI (Fdd (prS L ln F 0).2.1)), .int (nI (Fh (prS L ln F 0).2.1))])), (ka, .inl (Z 0, 6, .inl (fun j => nI ((Fkd (prS L ln F 0).2.1) j)))), (aa, .inl (Z 0, 6, .inl (fun j => nI ((Fag (prS L ln F 0).2.1) j)))), (ma, .inl (Z 0, 6, .inl (fun j => nI ((Fml (prS L ln F 0).2.1) j)))), (pa, .inl (Z 0, 8, .inl (fun j => nI ((Ftp (prS L ln F 0).2.1) j)))), (qa, .inl (Z 2, 8, .inl (fun j => bI ((Fqu (prS L ln F 0).2.1) j))))]) (lv2 := [(0, .ref t), (1, .ref fh), (2, .int (nI ((prS L ln F 0).2.2))), (3, .int (nI 0))]) (st2 := []) (ws_c (rfl) (ws_c (rfl) (ws_c (rfl) (ws_c (rfl) (ws_c (rfl) (ws_c (rfl) (ws_c (rfl) (ws_c (rfl) (ws_c (rfl) (rfl)))))))))) (lv_c rfl (lv_c rfl (lv_c (vi_c (show nI 0 = nI ((prS L ln F 0).2.2) from rfl)) (lv_c rfl (rfl))))) (rfl) ?_
  exact L8_1 (200 + 1) (0) (Nat.zero_le _) (by omega) nm (rfl) (hnm)
