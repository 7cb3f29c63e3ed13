
/-! PART 12: the reference -/
/-- a row: day, owner, deed, said, how often, bits, older, how many said on a day, what -/
abbrev QS : Type := Nat × Int32 × Nat × Nat × (Nat → Int32) × (Nat → Nat) × (Nat → Int32) × (Nat → Nat) × (Nat → Nat)
def Qdy (Q : QS) : Nat := Q.1
def Qow (Q : QS) : Int32 := Q.2.1
def Qde (Q : QS) : Nat := Q.2.2.1
def Qse (Q : QS) : Nat := Q.2.2.2.1
def Qti (Q : QS) : Nat → Int32 := Q.2.2.2.2.1
def Qbi (Q : QS) : Nat → Nat := Q.2.2.2.2.2.1
def Qol (Q : QS) : Nat → Int32 := Q.2.2.2.2.2.2.1
def Qmn (Q : QS) : Nat → Nat := Q.2.2.2.2.2.2.2.1
def Qwh (Q : QS) : Nat → Nat := Q.2.2.2.2.2.2.2.2
def mkQ (d : Nat) (o : Int32) (e s : Nat) (t : Nat → Int32) (b : Nat → Nat) (l : Nat → Int32) (m w : Nat → Nat) : QS := (d, o, e, s, t, b, l, m, w)
def rwF (Q : QS) (x : Nat) : Int32 := if x = 0 then nI (Qdy Q) else if x = 1 then Qow Q else if x = 2 then nI (Qde Q) else if x = 3 then nI (Qse Q) else if x < 10 then Qti Q (x - 4) else if x < 16 then nI (Qbi Q (x - 10)) else if x < 22 then Qol Q (x - 16) else if x < 32 then nI (Qmn Q (x - 22)) else nI (Qwh Q (x - 32))
def sQd (Q : QS) (v : Nat) : QS := mkQ v (Qow Q) (Qde Q) (Qse Q) (Qti Q) (Qbi Q) (Qol Q) (Qmn Q) (Qwh Q)
def sQo (Q : QS) (v : Int32) : QS := mkQ (Qdy Q) v (Qde Q) (Qse Q) (Qti Q) (Qbi Q) (Qol Q) (Qmn Q) (Qwh Q)
def sQe (Q : QS) (v : Nat) : QS := mkQ (Qdy Q) (Qow Q) v (Qse Q) (Qti Q) (Qbi Q) (Qol Q) (Qmn Q) (Qwh Q)
def sQs (Q : QS) (v : Nat) : QS := mkQ (Qdy Q) (Qow Q) (Qde Q) v (Qti Q) (Qbi Q) (Qol Q) (Qmn Q) (Qwh Q)
def sQt (Q : QS) (i : Nat) (v : Int32) : QS := mkQ (Qdy Q) (Qow Q) (Qde Q) (Qse Q) (upd (Qti Q) i v) (Qbi Q) (Qol Q) (Qmn Q) (Qwh Q)
def sQb (Q : QS) (i : Nat) (v : Nat) : QS := mkQ (Qdy Q) (Qow Q) (Qde Q) (Qse Q) (Qti Q) (updN (Qbi Q) i v) (Qol Q) (Qmn Q) (Qwh Q)
def sQl (Q : QS) (i : Nat) (v : Int32) : QS := mkQ (Qdy Q) (Qow Q) (Qde Q) (Qse Q) (Qti Q) (Qbi Q) (upd (Qol Q) i v) (Qmn Q) (Qwh Q)
def sQm (Q : QS) (i : Nat) (v : Nat) : QS := mkQ (Qdy Q) (Qow Q) (Qde Q) (Qse Q) (Qti Q) (Qbi Q) (Qol Q) (updN (Qmn Q) i v) (Qwh Q)
def sQw (Q : QS) (i : Nat) (v : Nat) : QS := mkQ (Qdy Q) (Qow Q) (Qde Q) (Qse Q) (Qti Q) (Qbi Q) (Qol Q) (Qmn Q) (updN (Qwh Q) i v)
theorem rw_0 {Q : QS} : rwF Q 0 = nI (Qdy Q) := rfl
theorem rw_1 {Q : QS} : rwF Q 1 = Qow Q := rfl
theorem rw_2 {Q : QS} : rwF Q 2 = nI (Qde Q) := rfl
theorem rw_3 {Q : QS} : rwF Q 3 = nI (Qse Q) := rfl
theorem rw_t {Q : QS} {i : Nat} (h : i < 6) : rwF Q (4 + i) = Qti Q i := by
  unfold rwF; rw [if_neg (show ¬ 4 + i = 0 by omega), if_neg (show ¬ 4 + i = 1 by omega), if_neg (show ¬ 4 + i = 2 by omega), if_neg (show ¬ 4 + i = 3 by omega), if_pos (show 4 + i < 10 by omega), Nat.add_sub_cancel_left]
theorem rw_b {Q : QS} {i : Nat} (h : i < 6) : rwF Q (10 + i) = nI (Qbi Q i) := by
  unfold rwF; rw [if_neg (show ¬ 10 + i = 0 by omega), if_neg (show ¬ 10 + i = 1 by omega), if_neg (show ¬ 10 + i = 2 by omega), if_neg (show ¬ 10 + i = 3 by omega), if_neg (show ¬ 10 + i < 10 by omega), if_pos (show 10 + i < 16 by omega), Nat.add_sub_cancel_left]
theorem rw_l {Q : QS} {i : Nat} (h : i < 6) : rwF Q (16 + i) = Qol Q i := by
  unfold rwF; rw [if_neg (show ¬ 16 + i = 0 by omega), if_neg (show ¬ 16 + i = 1 by omega), if_neg (show ¬ 16 + i = 2 by omega), if_neg (show ¬ 16 + i = 3 by omega), if_neg (show ¬ 16 + i < 10 by omega), if_neg (show ¬ 16 + i < 16 by omega), if_pos (show 16 + i < 22 by omega), Nat.add_sub_cancel_left]
theorem rw_m {Q : QS} {i : Nat} (h : i < 10) : rwF Q (22 + i) = nI (Qmn Q i) := by
  unfold rwF; rw [if_neg (show ¬ 22 + i = 0 by omega), if_neg (show ¬ 22 + i = 1 by omega), if_neg (show ¬ 22 + i = 2 by omega), if_neg (show ¬ 22 + i = 3 by omega), if_neg (show ¬ 22 + i < 10 by omega), if_neg (show ¬ 22 + i < 16 by omega), if_neg (show ¬ 22 + i < 22 by omega), if_pos (show 22 + i < 32 by omega), Nat.add_sub_cancel_left]
theorem rw_w {Q : QS} {i : Nat}  : rwF Q (32 + i) = nI (Qwh Q i) := by
  unfold rwF; rw [if_neg (show ¬ 32 + i = 0 by omega), if_neg (show ¬ 32 + i = 1 by omega), if_neg (show ¬ 32 + i = 2 by omega), if_neg (show ¬ 32 + i = 3 by omega), if_neg (show ¬ 32 + i < 10 by omega), if_neg (show ¬ 32 + i < 16 by omega), if_neg (show ¬ 32 + i < 22 by omega), if_neg (show ¬ 32 + i < 32 by omega), Nat.add_sub_cancel_left]
theorem up_d {Q : QS}   (v : Nat) : upd (rwF Q) (0) (nI v) = rwF (sQd Q v) := by
  funext x
  show (if x = 0 then nI v else rwF Q x) = rwF (sQd Q v) x
  unfold rwF
  by_cases c0 : x = 0
  · rw [if_pos c0, if_pos c0]
    rfl
  rw [if_neg c0, if_neg c0, if_neg c0]
  by_cases c1 : x = 1
  · rw [if_pos c1, if_pos c1]
    rfl
  rw [if_neg c1, if_neg c1]
  by_cases c2 : x = 2
  · rw [if_pos c2, if_pos c2]
    rfl
  rw [if_neg c2, if_neg c2]
  by_cases c3 : x = 3
  · rw [if_pos c3, if_pos c3]
    rfl
  rw [if_neg c3, if_neg c3]
  by_cases c4 : x < 10
  · rw [if_pos c4, if_pos c4]
    rfl
  rw [if_neg c4, if_neg c4]
  by_cases c5 : x < 16
  · rw [if_pos c5, if_pos c5]
    rfl
  rw [if_neg c5, if_neg c5]
  by_cases c6 : x < 22
  · rw [if_pos c6, if_pos c6]
    rfl
  rw [if_neg c6, if_neg c6]
  by_cases c7 : x < 32
  · rw [if_pos c7, if_pos c7]
    rfl
  rw [if_neg c7, if_neg c7]
  rfl
theorem up_o {Q : QS}   (v : Int32) : upd (rwF Q) (1) (v) = rwF (sQo Q v) := by
  funext x
  show (if x = 1 then v else rwF Q x) = rwF (sQo Q v) x
  unfold rwF
  by_cases c0 : x = 0
  · rw [if_pos c0, if_pos c0]
    rw [if_neg (show ¬ x = 1 by omega)]; rfl
  rw [if_neg c0, if_neg c0]
  by_cases c1 : x = 1
  · rw [if_pos c1, if_pos c1]
    rfl
  rw [if_neg c1, if_neg c1, if_neg c1]
  by_cases c2 : x = 2
  · rw [if_pos c2, if_pos c2]
    rfl
  rw [if_neg c2, if_neg c2]
  by_cases c3 : x = 3
  · rw [if_pos c3, if_pos c3]
    rfl
  rw [if_neg c3, if_neg c3]
  by_cases c4 : x < 10
  · rw [if_pos c4, if_pos c4]
    rfl
  rw [if_neg c4, if_neg c4]
  by_cases c5 : x < 16
  · rw [if_pos c5, if_pos c5]
    rfl
  rw [if_neg c5, if_neg c5]
  by_cases c6 : x < 22
  · rw [if_pos c6, if_pos c6]
    rfl
  rw [if_neg c6, if_neg c6]
  by_cases c7 : x < 32
  · rw [if_pos c7, if_pos c7]
    rfl
  rw [if_neg c7, if_neg c7]
  rfl
theorem up_e {Q : QS}   (v : Nat) : upd (rwF Q) (2) (nI v) = rwF (sQe Q v) := by
  funext x
  show (if x = 2 then nI v else rwF Q x) = rwF (sQe Q v) x
  unfold rwF
  by_cases c0 : x = 0
  · rw [if_pos c0, if_pos c0]
    rw [if_neg (show ¬ x = 2 by omega)]; rfl
  rw [if_neg c0, if_neg c0]
  by_cases c1 : x = 1
  · rw [if_pos c1, if_pos c1]
    rw [if_neg (show ¬ x = 2 by omega)]; rfl
  rw [if_neg c1, if_neg c1]
  by_cases c2 : x = 2
  · rw [if_pos c2, if_pos c2]
    rfl
  rw [if_neg c2, if_neg c2, if_neg c2]
  by_cases c3 : x = 3
  · rw [if_pos c3, if_pos c3]
    rfl
  rw [if_neg c3, if_neg c3]
  by_cases c4 : x < 10
  · rw [if_pos c4, if_pos c4]
    rfl
  rw [if_neg c4, if_neg c4]
  by_cases c5 : x < 16
  · rw [if_pos c5, if_pos c5]
    rfl
  rw [if_neg c5, if_neg c5]
  by_cases c6 : x < 22
  · rw [if_pos c6, if_pos c6]
    rfl
  rw [if_neg c6, if_neg c6]
  by_cases c7 : x < 32
  · rw [if_pos c7, if_pos c7]
    rfl
  rw [if_neg c7, if_neg c7]
  rfl
theorem up_s {Q : QS}   (v : Nat) : upd (rwF Q) (3) (nI v) = rwF (sQs Q v) := by
  funext x
  show (if x = 3 then nI v else rwF Q x) = rwF (sQs Q v) x
  unfold rwF
  by_cases c0 : x = 0
  · rw [if_pos c0, if_pos c0]
    rw [if_neg (show ¬ x = 3 by omega)]; rfl
  rw [if_neg c0, if_neg c0]
  by_cases c1 : x = 1
  · rw [if_pos c1, if_pos c1]
    rw [if_neg (show ¬ x = 3 by omega)]; rfl
  rw [if_neg c1, if_neg c1]
  by_cases c2 : x = 2
  · rw [if_pos c2, if_pos c2]
    rw [if_neg (show ¬ x = 3 by omega)]; rfl
  rw [if_neg c2, if_neg c2]
  by_cases c3 : x = 3
  · rw [if_pos c3, if_pos c3]
    rfl
  rw [if_neg c3, if_neg c3, if_neg c3]
  by_cases c4 : x < 10
  · rw [if_pos c4, if_pos c4]
    rfl
  rw [if_neg c4, if_neg c4]
  by_cases c5 : x < 16
  · rw [if_pos c5, if_pos c5]
    rfl
  rw [if_neg c5, if_neg c5]
  by_cases c6 : x < 22
  · rw [if_pos c6, if_pos c6]
    rfl
  rw [if_neg c6, if_neg c6]
  by_cases c7 : x < 32
  · rw [if_pos c7, if_pos c7]
    rfl
  rw [if_neg c7, if_neg c7]
  rfl
theorem up_t {Q : QS} {i : Nat} (h : i < 6) (v : Int32) : upd (rwF Q) (4 + i) (v) = rwF (sQt Q i v) := by
  funext x
  show (if x = 4 + i then v else rwF Q x) = rwF (sQt Q i v) x
  unfold rwF
  by_cases c0 : x = 0
  · rw [if_pos c0, if_pos c0]
    rw [if_neg (show ¬ x = 4 + i by omega)]; rfl
  rw [if_neg c0, if_neg c0]
  by_cases c1 : x = 1
  · rw [if_pos c1, if_pos c1]
    rw [if_neg (show ¬ x = 4 + i by omega)]; rfl
  rw [if_neg c1, if_neg c1]
  by_cases c2 : x = 2
  · rw [if_pos c2, if_pos c2]
    rw [if_neg (show ¬ x = 4 + i by omega)]; rfl
  rw [if_neg c2, if_neg c2]
  by_cases c3 : x = 3
  · rw [if_pos c3, if_pos c3]
    rw [if_neg (show ¬ x = 4 + i by omega)]; rfl
  rw [if_neg c3, if_neg c3]
  by_cases c4 : x < 10
  · rw [if_pos c4, if_pos c4]
    by_cases e : x = 4 + i
    · rw [if_pos e]; show v = upd (Qti Q) i v (x - 4); rw [show x - 4 = i by omega]; simp [upd]
    · rw [if_neg e]; show Qti Q (x - 4) = upd (Qti Q) i v (x - 4); have e2 : ¬ x - 4 = i := by omega
      simp [upd, e2]
  rw [if_neg c4, if_neg c4]
  by_cases c5 : x < 16
  · rw [if_pos c5, if_pos c5]
    rw [if_neg (show ¬ x = 4 + i by omega)]; rfl
  rw [if_neg c5, if_neg c5]
  by_cases c6 : x < 22
  · rw [if_pos c6, if_pos c6]
    rw [if_neg (show ¬ x = 4 + i by omega)]; rfl
  rw [if_neg c6, if_neg c6]
  by_cases c7 : x < 32
  · rw [if_pos c7, if_pos c7]
    rw [if_neg (show ¬ x = 4 + i by omega)]; rfl
  rw [if_neg c7, if_neg c7]
  rw [if_neg (show ¬ x = 4 + i by omega)]; rfl
theorem up_b {Q : QS} {i : Nat} (h : i < 6) (v : Nat) : upd (rwF Q) (10 + i) (nI v) = rwF (sQb Q i v) := by
  funext x
  show (if x = 10 + i then nI v else rwF Q x) = rwF (sQb Q i v) x
  unfold rwF
  by_cases c0 : x = 0
  · rw [if_pos c0, if_pos c0]
    rw [if_neg (show ¬ x = 10 + i by omega)]; rfl
  rw [if_neg c0, if_neg c0]
  by_cases c1 : x = 1
  · rw [if_pos c1, if_pos c1]
    rw [if_neg (show ¬ x = 10 + i by omega)]; rfl
  rw [if_neg c1, if_neg c1]
  by_cases c2 : x = 2
  · rw [if_pos c2, if_pos c2]
    rw [if_neg (show ¬ x = 10 + i by omega)]; rfl
  rw [if_neg c2, if_neg c2]
  by_cases c3 : x = 3
  · rw [if_pos c3, if_pos c3]
    rw [if_neg (show ¬ x = 10 + i by omega)]; rfl
  rw [if_neg c3, if_neg c3]
  by_cases c4 : x < 10
  · rw [if_pos c4, if_pos c4]
    rw [if_neg (show ¬ x = 10 + i by omega)]; rfl
  rw [if_neg c4, if_neg c4]
  by_cases c5 : x < 16
  · rw [if_pos c5, if_pos c5]
    by_cases e : x = 10 + i
    · rw [if_pos e]; show nI v = nI (updN (Qbi Q) i v (x - 10)); rw [show x - 10 = i by omega]; simp [updN]
    · rw [if_neg e]; show nI (Qbi Q (x - 10)) = nI (updN (Qbi Q) i v (x - 10)); have e2 : ¬ x - 10 = i := by omega
      simp [updN, e2]
  rw [if_neg c5, if_neg c5]
  by_cases c6 : x < 22
  · rw [if_pos c6, if_pos c6]
    rw [if_neg (show ¬ x = 10 + i by omega)]; rfl
  rw [if_neg c6, if_neg c6]
  by_cases c7 : x < 32
  · rw [if_pos c7, if_pos c7]
    rw [if_neg (show ¬ x = 10 + i by omega)]; rfl
  rw [if_neg c7, if_neg c7]
  rw [if_neg (show ¬ x = 10 + i by omega)]; rfl
theorem up_l {Q : QS} {i : Nat} (h : i < 6) (v : Int32) : upd (rwF Q) (16 + i) (v) = rwF (sQl Q i v) := by
  funext x
  show (if x = 16 + i then v else rwF Q x) = rwF (sQl Q i v) x
  unfold rwF
  by_cases c0 : x = 0
  · rw [if_pos c0, if_pos c0]
    rw [if_neg (show ¬ x = 16 + i by omega)]; rfl
  rw [if_neg c0, if_neg c0]
  by_cases c1 : x = 1
  · rw [if_pos c1, if_pos c1]
    rw [if_neg (show ¬ x = 16 + i by omega)]; rfl
  rw [if_neg c1, if_neg c1]
  by_cases c2 : x = 2
  · rw [if_pos c2, if_pos c2]
    rw [if_neg (show ¬ x = 16 + i by omega)]; rfl
  rw [if_neg c2, if_neg c2]
  by_cases c3 : x = 3
  · rw [if_pos c3, if_pos c3]
    rw [if_neg (show ¬ x = 16 + i by omega)]; rfl
  rw [if_neg c3, if_neg c3]
  by_cases c4 : x < 10
  · rw [if_pos c4, if_pos c4]
    rw [if_neg (show ¬ x = 16 + i by omega)]; rfl
  rw [if_neg c4, if_neg c4]
  by_cases c5 : x < 16
  · rw [if_pos c5, if_pos c5]
    rw [if_neg (show ¬ x = 16 + i by omega)]; rfl
  rw [if_neg c5, if_neg c5]
  by_cases c6 : x < 22
  · rw [if_pos c6, if_pos c6]
    by_cases e : x = 16 + i
    · rw [if_pos e]; show v = upd (Qol Q) i v (x - 16); rw [show x - 16 = i by omega]; simp [upd]
    · rw [if_neg e]; show Qol Q (x - 16) = upd (Qol Q) i v (x - 16); have e2 : ¬ x - 16 = i := by omega
      simp [upd, e2]
  rw [if_neg c6, if_neg c6]
  by_cases c7 : x < 32
  · rw [if_pos c7, if_pos c7]
    rw [if_neg (show ¬ x = 16 + i by omega)]; rfl
  rw [if_neg c7, if_neg c7]
  rw [if_neg (show ¬ x = 16 + i by omega)]; rfl
theorem up_m {Q : QS} {i : Nat} (h : i < 10) (v : Nat) : upd (rwF Q) (22 + i) (nI v) = rwF (sQm Q i v) := by
  funext x
  show (if x = 22 + i then nI v else rwF Q x) = rwF (sQm Q i v) x
  unfold rwF
  by_cases c0 : x = 0
  · rw [if_pos c0, if_pos c0]
    rw [if_neg (show ¬ x = 22 + i by omega)]; rfl
  rw [if_neg c0, if_neg c0]
  by_cases c1 : x = 1
  · rw [if_pos c1, if_pos c1]
    rw [if_neg (show ¬ x = 22 + i by omega)]; rfl
  rw [if_neg c1, if_neg c1]
  by_cases c2 : x = 2
  · rw [if_pos c2, if_pos c2]
    rw [if_neg (show ¬ x = 22 + i by omega)]; rfl
  rw [if_neg c2, if_neg c2]
  by_cases c3 : x = 3
  · rw [if_pos c3, if_pos c3]
    rw [if_neg (show ¬ x = 22 + i by omega)]; rfl
  rw [if_neg c3, if_neg c3]
  by_cases c4 : x < 10
  · rw [if_pos c4, if_pos c4]
    rw [if_neg (show ¬ x = 22 + i by omega)]; rfl
  rw [if_neg c4, if_neg c4]
  by_cases c5 : x < 16
  · rw [if_pos c5, if_pos c5]
    rw [if_neg (show ¬ x = 22 + i by omega)]; rfl
  rw [if_neg c5, if_neg c5]
  by_cases c6 : x < 22
  · rw [if_pos c6, if_pos c6]
    rw [if_neg (show ¬ x = 22 + i by omega)]; rfl
  rw [if_neg c6, if_neg c6]
  by_cases c7 : x < 32
  · rw [if_pos c7, if_pos c7]
    by_cases e : x = 22 + i
    · rw [if_pos e]; show nI v = nI (updN (Qmn Q) i v (x - 22)); rw [show x - 22 = i by omega]; simp [updN]
    · rw [if_neg e]; show nI (Qmn Q (x - 22)) = nI (updN (Qmn Q) i v (x - 22)); have e2 : ¬ x - 22 = i := by omega
      simp [updN, e2]
  rw [if_neg c7, if_neg c7]
  rw [if_neg (show ¬ x = 22 + i by omega)]; rfl
theorem up_w {Q : QS} (i : Nat)  (v : Nat) : upd (rwF Q) (32 + i) (nI v) = rwF (sQw Q i v) := by
  funext x
  show (if x = 32 + i then nI v else rwF Q x) = rwF (sQw Q i v) x
  unfold rwF
  by_cases c0 : x = 0
  · rw [if_pos c0, if_pos c0]
    rw [if_neg (show ¬ x = 32 + i by omega)]; rfl
  rw [if_neg c0, if_neg c0]
  by_cases c1 : x = 1
  · rw [if_pos c1, if_pos c1]
    rw [if_neg (show ¬ x = 32 + i by omega)]; rfl
  rw [if_neg c1, if_neg c1]
  by_cases c2 : x = 2
  · rw [if_pos c2, if_pos c2]
    rw [if_neg (show ¬ x = 32 + i by omega)]; rfl
  rw [if_neg c2, if_neg c2]
  by_cases c3 : x = 3
  · rw [if_pos c3, if_pos c3]
    rw [if_neg (show ¬ x = 32 + i by omega)]; rfl
  rw [if_neg c3, if_neg c3]
  by_cases c4 : x < 10
  · rw [if_pos c4, if_pos c4]
    rw [if_neg (show ¬ x = 32 + i by omega)]; rfl
  rw [if_neg c4, if_neg c4]
  by_cases c5 : x < 16
  · rw [if_pos c5, if_pos c5]
    rw [if_neg (show ¬ x = 32 + i by omega)]; rfl
  rw [if_neg c5, if_neg c5]
  by_cases c6 : x < 22
  · rw [if_pos c6, if_pos c6]
    rw [if_neg (show ¬ x = 32 + i by omega)]; rfl
  rw [if_neg c6, if_neg c6]
  by_cases c7 : x < 32
  · rw [if_pos c7, if_pos c7]
    rw [if_neg (show ¬ x = 32 + i by omega)]; rfl
  rw [if_neg c7, if_neg c7]
  by_cases e : x = 32 + i
  · rw [if_pos e]; show nI v = nI (updN (Qwh Q) i v (x - 32)); rw [show x - 32 = i by omega]; simp [updN]
  · rw [if_neg e]; show nI (Qwh Q (x - 32)) = nI (updN (Qwh Q) i v (x - 32)); have e2 : ¬ x - 32 = i := by omega
    simp [updN, e2]
def inB (x a b : Int32) : Bool := !decide (x < a) && !decide (b < x)
theorem inB_y {a j b : Nat} (hj : j < 2147483648) (hb : b < 2147483648) (h : a ≤ j ∧ j ≤ b) : inB (nI j) (nI a) (nI b) = true := by
  unfold inB
  rw [decide_eq_false (fun z => by have := (nI_ltI hj (by omega)).mp z; omega), decide_eq_false (fun z => by have := (nI_ltI hb hj).mp z; omega)]; rfl
theorem inB_n {a j b : Nat} (hj : j < 2147483648) (ha : a < 2147483648) (hb : b < 2147483648) (h : ¬ (a ≤ j ∧ j ≤ b)) : inB (nI j) (nI a) (nI b) = false := by
  unfold inB
  rcases Nat.lt_or_ge j a with h1 | h1
  · rw [decide_eq_true ((nI_ltI hj ha).mpr h1)]; rfl
  · rw [decide_eq_true ((nI_ltI hb hj).mpr (by omega)), Bool.and_comm]; rfl
theorem inB_or (x : Int32) {a b : Nat} (ha : a < 2147483648) (hb : b < 2147483647) : inB x (nI a) (nI b) = false ∨ ∃ j, a ≤ j ∧ j ≤ b ∧ x = nI j := by
  rcases pk_ix x (n := b + 1) (by omega) with h | h | ⟨j, h, e⟩
  · refine Or.inl ?_
    unfold inB
    have h2 : x < nI a := by
      rw [Int32.lt_iff_toInt_lt] at h ⊢
      rw [nI_toInt ha]
      have : (0 : Int32).toInt = 0 := by decide
      omega
    rw [decide_eq_true h2]; rfl
  · refine Or.inl ?_
    unfold inB
    have h2 : nI b < x := by
      rw [Int32.le_iff_toInt_le, nI_toInt (by omega)] at h
      rw [Int32.lt_iff_toInt_lt, nI_toInt (by omega)]
      omega
    rw [decide_eq_true h2, Bool.and_comm]; rfl
  · rcases Nat.lt_or_ge j a with h1 | h1
    · refine Or.inl ?_
      rw [e]
      exact inB_n (by omega) ha (by omega) (by omega)
    · exact Or.inr ⟨j, h1, by omega, e⟩
theorem inB_bad {x : Int32} {n : Nat} (h : bad x n) (hn : n < 2147483647) : inB x (nI 0) (nI (n - 1)) = false ∨ n = 0 := by
  rcases Nat.eq_zero_or_pos n with h0 | h0
  · exact Or.inr h0
  · rcases inB_or x (a := 0) (b := n - 1) (by decide) (by omega) with h1 | ⟨j, -, h2, e⟩
    · exact Or.inl h1
    · exact absurd e (h j (by omega))
theorem inB_b0 {x : Int32} {n : Nat} (h : bad x n) (hn : n < 2147483647) (h0 : 0 < n) : inB x (nI 0) (nI (n - 1)) = false := by
  rcases inB_bad h hn with h1 | h1
  · exact h1
  · omega
theorem inB_f1 {x : Int32} {a b : Int32} (h : inB x a b = false) : x < a ∨ b < x := by
  unfold inB at h
  by_cases h1 : x < a
  · exact Or.inl h1
  · by_cases h2 : b < x
    · exact Or.inr h2
    · rw [decide_eq_false h1, decide_eq_false h2] at h; cases h
theorem tn1 {b : Bool} (h : b.toNat = 1) : b = true := by cases b <;> simp_all
theorem tn0 {b : Bool} (h : ¬ b.toNat = 1) : b = false := by cases b <;> simp_all
def bcN (S : Nat) : Nat → Nat
  | 0 => 0
  | k + 1 => bcN S k + ((S >>> k) &&& 1)
theorem bcN_6 {S : Nat} : bcN S 6 = pc6 S := by
  simp only [bcN, pc6, Nat.and_one_is_mod, Nat.shiftRight_eq_div_pow]
  simp
theorem bcN_le (S : Nat) : ∀ k, bcN S k ≤ k
  | 0 => Nat.le_refl _
  | k + 1 => by
    have h := bcN_le S k
    have h2 : (S >>> k) &&& 1 ≤ 1 := Nat.and_le_right
    show bcN S k + ((S >>> k) &&& 1) ≤ k + 1
    omega
def puF (f g : Nat → Int32) (a k : Nat) : Nat → Int32 := fun x => if a ≤ x ∧ x < a + k then g (x - a) else f x
theorem pu_0 (f g : Nat → Int32) (a : Nat) : puF f g a 0 = f := by
  funext x; unfold puF; rw [if_neg (by omega)]
theorem pu_s (f g : Nat → Int32) (a k : Nat) : upd (puF f g a k) (a + k) (g k) = puF f g a (k + 1) := by
  funext x; unfold upd puF
  by_cases h : x = a + k
  · rw [if_pos h, if_pos (by omega), h, Nat.add_sub_cancel_left]
  · rw [if_neg h]
    by_cases h2 : a ≤ x ∧ x < a + k
    · rw [if_pos h2, if_pos (by omega)]
    · rw [if_neg h2, if_neg (by omega)]
theorem pu_all {f g : Nat → Int32} {k j : Nat} (h : j < k) : puF f g 0 k j = g j := by
  unfold puF; rw [if_pos ⟨Nat.zero_le _, by omega⟩, Nat.sub_zero]
/-- rows one behind the other -/
def wsF (W : Nat → QS) (x : Nat) : Int32 := rwF (W (x / 72)) (x % 72)
theorem pu_w {W : Nat → QS} {R : QS} {a : Nat} : puF (wsF W) (rwF R) (72 * a) 72 = wsF (va_up W a R) := by
  funext x; unfold puF wsF
  by_cases h : 72 * a ≤ x ∧ x < 72 * a + 72
  · rw [if_pos h, show x / 72 = a by omega, va_up_self, show x % 72 = x - 72 * a by omega]
  · rw [if_neg h, va_up_ne _ _ (by omega)]
theorem ws_at {W : Nat → QS} {a k : Nat} (h : k < 72) : wsF W (72 * a + k) = rwF (W a) k := by
  unfold wsF; rw [show (72 * a + k) / 72 = a by omega, show (72 * a + k) % 72 = k by omega]
def shk (f : Nat → Int32) (k : Nat) : Nat → Int32 := fun x => if x < k then f (x + 72) else f x
theorem shk_0 (f : Nat → Int32) : shk f 0 = f := by funext x; simp [shk]
theorem shk_s (f : Nat → Int32) (k : Nat) : upd (shk f k) k (shk f k (k + 72)) = shk f (k + 1) := by
  funext x; unfold upd shk
  by_cases h : x = k
  · rw [if_pos h, if_neg (by omega), if_pos (by omega), h]
  · rw [if_neg h]
    by_cases h2 : x < k
    · rw [if_pos h2, if_pos (by omega)]
    · rw [if_neg h2, if_neg (by omega)]
theorem shk_w {W : Nat → QS} {x : Nat} (h : x < 576) : shk (wsF W) 504 x = wsF (fun j => if j < 7 then W (j + 1) else W j) x := by
  unfold shk wsF
  by_cases h2 : x < 504
  · rw [if_pos h2]
    show _ = rwF (if x / 72 < 7 then W (x / 72 + 1) else W (x / 72)) (x % 72)
    rw [if_pos (by omega), show (x + 72) / 72 = x / 72 + 1 by omega, show (x + 72) % 72 = x % 72 by omega]
  · rw [if_neg h2]
    show _ = rwF (if x / 72 < 7 then W (x / 72 + 1) else W (x / 72)) (x % 72)
    rw [if_neg (by omega)]
/-- the row laid by for undoing -/
def remW (W : Nat → QS) (a : Nat) (R : QS) : Nat → QS := if a = 8 then va_up (fun j => if j < 7 then W (j + 1) else W j) 7 R else va_up W a R
def remA (a : Nat) : Nat := if a = 8 then 8 else a + 1
/-- families as the reference has them -/
def rrN (F : FS) (x : Nat) : Nat := if x % 3 = 0 then Fkd F (x / 3) else if x % 3 = 1 then Fag F (x / 3) else Fml F (x / 3)
def rsN (F : FS) (x : Nat) : Nat := if x % 2 = 0 then Ftp F (x / 2) else (Fqu F (x / 2)).toNat
theorem rr_0 {F : FS} {i : Nat} : rrN F (3 * i) = Fkd F i := by
  unfold rrN; rw [if_pos (by omega), show 3 * i / 3 = i by omega]
theorem rr_1 {F : FS} {i : Nat} : rrN F (3 * i + 1) = Fag F i := by
  unfold rrN; rw [if_neg (by omega), if_pos (by omega), show (3 * i + 1) / 3 = i by omega]
theorem rr_2 {F : FS} {i : Nat} : rrN F (3 * i + 2) = Fml F i := by
  unfold rrN; rw [if_neg (by omega), if_neg (by omega), show (3 * i + 2) / 3 = i by omega]
theorem rs_0 {F : FS} {i : Nat} : rsN F (2 * i) = Ftp F i := by
  unfold rsN; rw [if_pos (by omega), show 2 * i / 2 = i by omega]
theorem rs_1 {F : FS} {i : Nat} : rsN F (2 * i + 1) = (Fqu F i).toNat := by
  unfold rsN; rw [if_neg (by omega), show (2 * i + 1) / 2 = i by omega]
def addR3 (F : FS) (a b c : Nat) : FS := addR F (fun j => if j = 0 then a else if j = 1 then b else c)
def addS2 (F : FS) (a b : Nat) : FS := addS F (fun j => if j = 0 then a else b)
theorem addR3_eq (F : FS) (g : Nat → Nat) : addR3 F (g 0) (g 1) (g 2) = addR F g := rfl
theorem addS2_eq (F : FS) (g : Nat → Nat) : addS2 F (g 0) (g 1) = addS F g := rfl
theorem rr_add {F : FS} {a b c : Nat} : updN (updN (updN (rrN F) (3 * Fn F) a) (3 * Fn F + 1) b) (3 * Fn F + 2) c = rrN (addR3 F a b c) := by
  funext x
  show (if x = 3 * Fn F + 2 then c else if x = 3 * Fn F + 1 then b else if x = 3 * Fn F then a else rrN F x) = rrN (addR3 F a b c) x
  unfold rrN
  show _ = if x % 3 = 0 then (if x / 3 = Fn F then a else Fkd F (x / 3)) else if x % 3 = 1 then (if x / 3 = Fn F then b else Fag F (x / 3)) else (if x / 3 = Fn F then c else Fml F (x / 3))
  by_cases h : x / 3 = Fn F
  · rw [if_pos h, if_pos h, if_pos h]
    have hm : x % 3 = 0 ∨ x % 3 = 1 ∨ x % 3 = 2 := by omega
    rcases hm with h2 | h2 | h2
    · rw [if_neg (by omega), if_neg (by omega), if_pos (by omega), if_pos h2]
    · rw [if_neg (by omega), if_pos (by omega), if_neg (by omega), if_pos h2]
    · rw [if_pos (by omega), if_neg (by omega), if_neg (by omega)]
  · rw [if_neg h, if_neg h, if_neg h, if_neg (by omega), if_neg (by omega), if_neg (by omega)]
theorem rs_add {F : FS} {a b : Nat} (hb : b ≤ 1) : updN (updN (rsN F) (2 * Fk F) a) (2 * Fk F + 1) b = rsN (addS2 F a b) := by
  funext x
  show (if x = 2 * Fk F + 1 then b else if x = 2 * Fk F then a else rsN F x) = rsN (addS2 F a b) x
  unfold rsN
  show _ = if x % 2 = 0 then (if x / 2 = Fk F then a else Ftp F (x / 2)) else (if x / 2 = Fk F then decide (b = 1) else Fqu F (x / 2)).toNat
  by_cases h : x / 2 = Fk F
  · rw [if_pos h, if_pos h]
    have hm : x % 2 = 0 ∨ x % 2 = 1 := by omega
    rcases hm with h2 | h2
    · rw [if_neg (by omega), if_pos (by omega), if_pos h2]
    · rw [if_pos (by omega), if_neg (by omega)]
      have hb2 : b = 0 ∨ b = 1 := by omega
      rcases hb2 with h3 | h3 <;> subst h3 <;> rfl
  · rw [if_neg h, if_neg h, if_neg (by omega), if_neg (by omega)]
/-- the row of a family just laid -/
def begK (G : FS) (k : Nat) : QS := mkQ 0 (-1) (Fdd G) 0 (fun _ => 0) (fun _ => 0) (fun i => if i < k then -(nI (Fag G i)) else 0) (fun _ => 0) (fun _ => 0)
def begQ (G : FS) : QS := begK G (Fn G)
def zeQ : QS := mkQ 0 0 0 0 (fun _ => 0) (fun _ => 0) (fun _ => 0) (fun _ => 0) (fun _ => 0)
theorem rw_ze (x : Nat) : rwF zeQ x = nI 0 := by
  unfold rwF
  repeat (first | rfl | split)
theorem beg_0 (G : FS) : sQe (sQo zeQ (-1)) (Fdd G) = begK G 0 := rfl
theorem beg_s (G : FS) (k : Nat) : sQl (begK G k) k (-(nI (Fag G k))) = begK G (k + 1) := by
  have h : upd (fun i => if i < k then -(nI (Fag G i)) else 0) k (-(nI (Fag G k))) = fun i => if i < k + 1 then -(nI (Fag G i)) else (0 : Int32) := by
    funext j; unfold upd
    by_cases h : j = k
    · subst h; simp
    · by_cases h2 : j < k
      · simp [h, h2, Nat.lt_succ_of_lt h2]
      · have h3 : ¬ j < k + 1 := by omega
        simp [h, h2, h3]
  show mkQ _ _ _ _ _ _ (upd (fun i => if i < k then -(nI (Fag G i)) else 0) k (-(nI (Fag G k)))) _ _ = _
  rw [h]; rfl
def okQ (Q : QS) : Prop := (∀ j, Qbi Q j < 1024) ∧ Qde Q < 64
theorem okQ_beg {G : FS} (h : okF G) (k : Nat) : okQ (begK G k) := ⟨fun _ => (show 0 < 1024 by decide), h.2.2.2.2.2.2.1⟩
/-- how many days ago one asked last, m days ago or more -/
def bitP (Q : QS) (i m : Nat) : Nat → Bool := fun k => decide (m ≤ k ∧ (Qbi Q i >>> k) &&& 1 = 1)
def agQ (Q : QS) (i m : Nat) : Int32 := if fW (bitP Q i m) 10 0 < 10 then nI (fW (bitP Q i m) 10 0) else nI (Qdy Q) - Qol Q i
theorem agQ_at {Q : QS} {i m k : Nat} (hk : k < 10) (hm : m ≤ k) (h : ∀ j, j < k → bitP Q i m j = false) (hb : (Qbi Q i >>> k) &&& 1 = 1) : agQ Q i m = nI k := by
  unfold agQ; rw [fW_at hk h (decide_eq_true ⟨hm, hb⟩), if_pos hk]
theorem agQ_no {Q : QS} {i m : Nat} (h : ∀ j, j < 10 → bitP Q i m j = false) : agQ Q i m = nI (Qdy Q) - Qol Q i := by
  unfold agQ; rw [fW_no h, if_neg (by decide)]
theorem bitP_lt {Q : QS} {i m j : Nat} (h : j < m) : bitP Q i m j = false := decide_eq_false (fun z => by omega)
theorem bitP_f {Q : QS} {i m j : Nat} (h : ¬ (Qbi Q i >>> j) &&& 1 = 1) : bitP Q i m j = false := decide_eq_false (fun z => h z.2)
def ag0 (Q : QS) : Nat → Int32 := fun i => agQ Q i 0
/-- who asked today, as bits -/
def aqN (b : Nat → Nat) : Nat → Nat
  | 0 => 0
  | i + 1 => aqN b i ||| ((b i &&& 1) <<< i)
theorem aq_sh {x i : Nat} (h : i < 6) : (x &&& 1) <<< i < 64 := by
  have h1 : x &&& 1 ≤ 1 := Nat.and_le_right
  have h2 := sh6 h
  rw [Nat.shiftLeft_eq] at h2 ⊢
  have h3 : (x &&& 1) * 2 ^ i ≤ 1 * 2 ^ i := Nat.mul_le_mul_right _ h1
  omega
theorem aq_sm {x i : Nat} (h : i < 6) : (x &&& 1) * 2 ^ i < 4294967296 := by
  have h2 := aq_sh (x := x) h
  rw [Nat.shiftLeft_eq] at h2
  omega
theorem aqN_lt (b : Nat → Nat) : ∀ i, i ≤ 6 → aqN b i < 64
  | 0, _ => Nat.zero_lt_succ 63
  | i + 1, h => Nat.or_lt_two_pow (n := 6) (aqN_lt b i (by omega)) (aq_sh (by omega))
def askQ (Q : QS) (i : Nat) : QS := sQb Q i (Qbi Q i ||| 1)
theorem okQ_ask {Q : QS} {i : Nat} (h : okQ Q) : okQ (askQ Q i) := by
  refine ⟨fun j => ?_, h.2⟩
  show updN (Qbi Q) i (Qbi Q i ||| 1) j < 1024
  unfold updN; split
  · exact Nat.or_lt_two_pow (n := 10) (h.1 i) (by decide)
  · exact h.1 j
/-- behind noon: the first k rows moved on -/
def nooO (n : Nat) (Q : QS) : Int32 := if aqN (Qbi Q) n = 0 then Qow Q else nI (hbw (ag0 Q) n 0)
def nooK (n : Nat) (Q : QS) (k : Nat) : QS := mkQ (Qdy Q + 1) (nooO n Q) (Qde Q) 0 (Qti Q) (fun i => if i < k then (Qbi Q i <<< 1) &&& 1023 else Qbi Q i) (fun i => if i < k ∧ ((Qbi Q i <<< 1) >>> 10) &&& 1 = 1 then nI (Qdy Q + 1) - nI 10 else Qol Q i) (Qmn Q) (Qwh Q)
def nooQ (n : Nat) (Q : QS) : QS := nooK n Q n
theorem okQ_noo {n : Nat} {Q : QS} (h : okQ Q) : okQ (nooQ n Q) := by
  refine ⟨fun j => ?_, h.2⟩
  show (if j < n then (Qbi Q j <<< 1) &&& 1023 else Qbi Q j) < 1024
  split
  · exact Nat.lt_of_le_of_lt Nat.and_le_right (by decide)
  · exact h.1 j
theorem nooK_0 (n : Nat) (Q : QS) : nooK n Q 0 = mkQ (Qdy Q + 1) (nooO n Q) (Qde Q) 0 (Qti Q) (Qbi Q) (Qol Q) (Qmn Q) (Qwh Q) := by
  have h1 : (fun i => if i < 0 then (Qbi Q i <<< 1) &&& 1023 else Qbi Q i) = Qbi Q := by funext j; simp
  have h2 : (fun i => if i < 0 ∧ ((Qbi Q i <<< 1) >>> 10) &&& 1 = 1 then nI (Qdy Q + 1) - nI 10 else Qol Q i) = Qol Q := by funext j; simp
  unfold nooK; rw [h1, h2]
theorem nooB_s {n : Nat} {Q : QS} (k : Nat) : updN (Qbi (nooK n Q k)) k ((Qbi Q k <<< 1) &&& 1023) = Qbi (nooK n Q (k + 1)) := by
  funext j
  show (if j = k then (Qbi Q k <<< 1) &&& 1023 else if j < k then (Qbi Q j <<< 1) &&& 1023 else Qbi Q j) = if j < k + 1 then (Qbi Q j <<< 1) &&& 1023 else Qbi Q j
  by_cases h : j = k
  · rw [if_pos h, if_pos (by omega), h]
  · rw [if_neg h]
    by_cases h2 : j < k
    · rw [if_pos h2, if_pos (by omega)]
    · rw [if_neg h2, if_neg (by omega)]
theorem nooL_t {n : Nat} {Q : QS} {k : Nat} (h : ((Qbi Q k <<< 1) >>> 10) &&& 1 = 1) : upd (Qol (nooK n Q k)) k (nI (Qdy Q + 1) - nI 10) = Qol (nooK n Q (k + 1)) := by
  funext j
  show (if j = k then nI (Qdy Q + 1) - nI 10 else if j < k ∧ ((Qbi Q j <<< 1) >>> 10) &&& 1 = 1 then nI (Qdy Q + 1) - nI 10 else Qol Q j) = if j < k + 1 ∧ ((Qbi Q j <<< 1) >>> 10) &&& 1 = 1 then nI (Qdy Q + 1) - nI 10 else Qol Q j
  by_cases h1 : j = k
  · subst h1; rw [if_pos rfl, if_pos ⟨by omega, h⟩]
  · rw [if_neg h1]
    by_cases h2 : j < k ∧ ((Qbi Q j <<< 1) >>> 10) &&& 1 = 1
    · rw [if_pos h2, if_pos ⟨by omega, h2.2⟩]
    · rw [if_neg h2, if_neg (fun z => h2 ⟨by omega, z.2⟩)]
theorem nooL_f {n : Nat} {Q : QS} {k : Nat} (h : ¬ ((Qbi Q k <<< 1) >>> 10) &&& 1 = 1) : Qol (nooK n Q k) = Qol (nooK n Q (k + 1)) := by
  funext j
  show (if j < k ∧ ((Qbi Q j <<< 1) >>> 10) &&& 1 = 1 then nI (Qdy Q + 1) - nI 10 else Qol Q j) = if j < k + 1 ∧ ((Qbi Q j <<< 1) >>> 10) &&& 1 = 1 then nI (Qdy Q + 1) - nI 10 else Qol Q j
  by_cases h2 : j < k ∧ ((Qbi Q j <<< 1) >>> 10) &&& 1 = 1
  · rw [if_pos h2, if_pos ⟨by omega, h2.2⟩]
  · have h5 : ¬ (j < k + 1 ∧ ((Qbi Q j <<< 1) >>> 10) &&& 1 = 1) := fun z => by
      by_cases h4 : j = k
      · subst h4; exact h z.2
      · exact h2 ⟨by omega, z.2⟩
    rw [if_neg h2, if_neg h5]
theorem noo_t {n : Nat} {Q : QS} {k : Nat} (h : ((Qbi Q k <<< 1) >>> 10) &&& 1 = 1) : sQb (sQl (nooK n Q k) k (nI (Qdy Q + 1) - nI 10)) k ((Qbi Q k <<< 1) &&& 1023) = nooK n Q (k + 1) := by
  show mkQ _ _ _ _ _ (updN (Qbi (nooK n Q k)) k ((Qbi Q k <<< 1) &&& 1023)) (upd (Qol (nooK n Q k)) k (nI (Qdy Q + 1) - nI 10)) _ _ = _
  rw [nooB_s, nooL_t h]; rfl
theorem noo_f {n : Nat} {Q : QS} {k : Nat} (h : ¬ ((Qbi Q k <<< 1) >>> 10) &&& 1 = 1) : sQb (nooK n Q k) k ((Qbi Q k <<< 1) &&& 1023) = nooK n Q (k + 1) := by
  show mkQ _ _ _ _ _ (updN (Qbi (nooK n Q k)) k ((Qbi Q k <<< 1) &&& 1023)) (Qol (nooK n Q k)) _ _ = _
  rw [nooB_s, nooL_f h]; rfl
/-- is s asking in i's mouth, by the row's deed -/
def asR (E : FS) (Q : QS) (s i : Nat) : Bool := askB (Fkd E i) (Ftp E s) (Fqu E s) (Qde Q) (Fh E)
def sayQ (E : FS) (Q : QS) (i s : Nat) : QS := if asR E Q s i = true then sQt (askQ Q i) i (Qti Q i + nI 1) else Q
theorem okQ_say {E : FS} {Q : QS} {i s : Nat} (h : okQ Q) : okQ (sayQ E Q i s) := by
  unfold sayQ; split
  · exact okQ_ask h
  · exact h
theorem sayQ_de {E : FS} {Q : QS} {i s : Nat} : Qde (sayQ E Q i s) = Qde Q := by
  unfold sayQ; split <;> rfl

theorem cs_X10_in : CS yX10_in wsX10_in cX10_in 3 (some .boolean) 3 := ⟨⟨_, rfl⟩, by decide +kernel, by decide +kernel, by decide +kernel⟩
set_option maxHeartbeats 4000000 in
set_option maxRecDepth 100000 in
theorem ct_X10_in (Z : Nat → ClassId) (x : Int32) (a : Int32) (b : Int32) : Ct false yX10_in wsX10_in ({ frames := 0, cells := 0, slots := 0, locals := 0 }) [.int x, .int a, .int b] Z [] (rI (bI (inB x a b)) []) 0 0 := by
  refine Ct_of (cc := cX10_in) (maxL := 3) (ret := (some .boolean)) (own := RX10) false false (by decide +kernel) rfl rfl (by decide) (fun v w h => by rw [h.1]; exact ⟨_, rfl, bI_01 _⟩) (Nat.le_of_ble_eq_true rfl) (fun X => ?_)
  show GG X _ _ _ _ _ _ _ _ _ _ _ _ _ _ [(0, .int x), (1, .int a), (2, .int b)] _ _
  refine G_iload_n (q := 1) dX10_in_0 rfl 0 rfl rfl ?_
  refine G_iload_n (q := 2) dX10_in_1 rfl 1 rfl rfl ?_
  refine G_icmp_lt (tgt := 14) (q := 5) dX10_in_2 (by decide) rfl (fun c2 => ?_) (fun c2 => ?_)
  · refine G_iconst (v := nI 0) (q := 15) dX10_in_14 (by decide) rfl ?_
    refine GG.of (ws2 := []) (lv2 := [(0, .int x), (1, .int a), (2, .int b)]) (st2 := [.int (bI (inB x a b))]) (rfl) (rfl) (st_c (vi_c (show nI 0 = bI (inB x a b) from by simp [inB, bI_true, bI_false, c2])) (rfl)) ?_
    exact G_iret dX10_in_15 rfl rfl ⟨rfl, rfl⟩
  · refine G_iload_n (q := 6) dX10_in_5 rfl 0 rfl rfl ?_
    refine G_iload_n (q := 7) dX10_in_6 rfl 2 rfl rfl ?_
    refine G_icmp_gt (tgt := 14) (q := 10) dX10_in_7 (by decide) rfl (fun c7 => ?_) (fun c7 => ?_)
    · refine G_iconst (v := nI 0) (q := 15) dX10_in_14 (by decide) rfl ?_
      refine GG.of (ws2 := []) (lv2 := [(0, .int x), (1, .int a), (2, .int b)]) (st2 := [.int (bI (inB x a b))]) (rfl) (rfl) (st_c (vi_c (show nI 0 = bI (inB x a b) from by simp [inB, bI_true, bI_false, c2, c7])) (rfl)) ?_
      exact G_iret dX10_in_15 rfl rfl ⟨rfl, rfl⟩
    · refine G_iconst (v := nI 1) (q := 11) dX10_in_10 (by decide) rfl ?_
      refine G_goto (q := 15) dX10_in_11 (by decide) ?_
      refine GG.of (ws2 := []) (lv2 := [(0, .int x), (1, .int a), (2, .int b)]) (st2 := [.int (bI (inB x a b))]) (rfl) (rfl) (st_c (vi_c (show nI 1 = bI (inB x a b) from by simp [inB, bI_true, bI_false, c2, c7])) (rfl)) ?_
      exact G_iret dX10_in_15 rfl rfl ⟨rfl, rfl⟩
theorem cs_X10_bits : CS yX10_bits wsX10_bits cX10_bits 3 (some .int) 1 := ⟨⟨_, rfl⟩, by decide +kernel, by decide +kernel, by decide +kernel⟩
set_option maxHeartbeats 4000000 in
set_option maxRecDepth 100000 in
theorem ct_X10_bits (Z : Nat → ClassId) (S : Nat) (hS : S < 64): Ct false yX10_bits wsX10_bits ({ frames := 0, cells := 0, slots := 0, locals := 0 }) [.int (nI S)] Z [] (rI (nI (pc6 S)) []) 0 0 := by
  refine Ct_of (cc := cX10_bits) (maxL := 3) (ret := (some .int)) (own := RX10) false false (by decide +kernel) rfl rfl (by decide) (fun v w h => by rw [h.1]; exact ⟨_, rfl, rfl⟩) (Nat.le_of_ble_eq_true rfl) (fun X => ?_)
  show GG X _ _ _ _ _ _ _ _ _ _ _ _ _ _ [(0, .int (nI S))] _ _
  refine G_iconst (v := nI 0) (q := 1) dX10_bits_0 (by decide) rfl ?_
  refine G_istore_n (lv2 := [(0, .int (nI S)), (1, .int (nI 0))]) (q := 2) dX10_bits_1 rfl (by decide) rfl rfl ?_
  refine G_iconst (v := nI 0) (q := 3) dX10_bits_2 (by decide) rfl ?_
  refine G_istore_n (lv2 := [(0, .int (nI S)), (1, .int (nI 0)), (2, .int (nI 0))]) (q := 4) dX10_bits_3 rfl (by decide) rfl rfl ?_
  have L4_1 : ∀ fu1 i : Nat, i ≤ 6 → 6 + 1 ≤ i + fu1 → GG X ({ frames := 0, cells := 0, slots := 0, locals := 0 }) cX10_bits 3 wsX10_bits RX10 false false Z (rI (nI (pc6 S)) []) 0 0 0 0 [] [(0, .int (nI S)), (1, .int (nI (bcN S i))), (2, .int (nI i))] [] 4 := by
    intro fu1
    induction fu1 with
    | zero => intro i q1 q2; exact absurd q2 (by omega)
    | succ fu1 ih1 =>
      intro i hi1 hf1  
      refine G_iload_n (q := 5) dX10_bits_4 rfl 2 rfl rfl ?_
      refine G_bipush (v := nI 6) (q := 7) dX10_bits_5 (by decide) rfl ?_
      refine G_icmp_geN (tgt := 24) (q := 10) dX10_bits_7 (by decide) rfl (by omega) (by omega) (fun c7 => ?_) (fun c7 => ?_)
      · have e9 : i = 6 := by omega
        subst e9
        refine G_iload_n (q := 25) dX10_bits_24 rfl 1 rfl rfl ?_
        refine GG.of (ws2 := []) (lv2 := [(0, .int (nI S)), (1, .int (nI (bcN S 6))), (2, .int (nI 6))]) (st2 := [.int (nI (pc6 S))]) (rfl) (rfl) (st_c (vi_c (show nI (bcN S 6) = nI (pc6 S) from by rw [bcN_6])) (rfl)) ?_
        exact G_iret dX10_bits_25 rfl rfl ⟨rfl, rfl⟩
      · refine G_iload_n (q := 11) dX10_bits_10 rfl 1 rfl rfl ?_
        refine G_iload_n (q := 12) dX10_bits_11 rfl 0 rfl rfl ?_
        refine G_iload_n (q := 13) dX10_bits_12 rfl 2 rfl rfl ?_
        refine G_ishrN (a := S) (b := i) (q := 14) dX10_bits_13 (by omega) (by omega) rfl ?_
        refine G_iconst (v := nI 1) (q := 15) dX10_bits_14 (by decide) rfl ?_
        refine G_iandN (a := (S >>> i)) (b := 1) (q := 16) dX10_bits_15 rfl ?_
        refine G_iaddN (a := (bcN S i)) (b := ((S >>> i) &&& 1)) (q := 17) dX10_bits_16 rfl ?_
        refine G_istore_n (lv2 := [(0, .int (nI S)), (1, .int (nI ((bcN S i) + ((S >>> i) &&& 1)))), (2, .int (nI i))]) (q := 18) dX10_bits_17 rfl (by decide) rfl rfl ?_
        refine G_iincN (x := i) (d := 1) (lv2 := [(0, .int (nI S)), (1, .int (nI ((bcN S i) + ((S >>> i) &&& 1)))), (2, .int (nI (i + 1)))]) (q := 21) dX10_bits_18 2 rfl (by decide) (by decide) rfl rfl ?_
        refine G_goto (q := 4) dX10_bits_21 (by decide) ?_
        refine GG.of (ws2 := []) (lv2 := [(0, .int (nI S)), (1, .int (nI (bcN S (i + 1)))), (2, .int (nI (i + 1)))]) (st2 := []) (rfl) (lv_c rfl (lv_c (vi_c (show nI ((bcN S i) + ((S >>> i) &&& 1)) = nI (bcN S (i + 1)) from rfl)) (lv_c rfl (rfl)))) (rfl) ?_
        exact ih1 (i + 1) (by omega) (by omega)  
  refine GG.of (ws2 := []) (lv2 := [(0, .int (nI S)), (1, .int (nI (bcN S 0))), (2, .int (nI 0))]) (st2 := []) (rfl) (lv_c rfl (lv_c (vi_c (show nI 0 = nI (bcN S 0) from rfl)) (lv_c rfl (rfl)))) (rfl) ?_
  exact L4_1 (6 + 1) (0) (Nat.zero_le _) (by omega)  
theorem cs_X10_put : CS yX10_put wsX10_put cX10_put 5 none 4 := ⟨⟨_, rfl⟩, by decide +kernel, by decide +kernel, by decide +kernel⟩
set_option maxHeartbeats 4000000 in
set_option maxRecDepth 100000 in
theorem ct_X10_put (Z : Nat → ClassId) (p : Nat) (q : Nat) (n1 : Nat) (n2 : Nat) (f : Nat → Int32) (g : Nat → Int32) (a : Nat) (m : Nat) (hm : a + m ≤ n1 ∧ m ≤ n2 ∧ n1 ≤ 1000 ∧ n2 ≤ 1000): Ct false yX10_put wsX10_put ({ frames := 0, cells := 0, slots := 0, locals := 0 }) [.ref p, .int (nI a), .ref q, .int (nI m)] Z [(p, .inl (Z 0, n1, .inl f)), (q, .inl (Z 0, n2, .inl g))] (rV [(p, .inl (Z 0, n1, .inl (puF f g a m))), (q, .inl (Z 0, n2, .inl g))]) 0 0 := by
  refine Ct_of (cc := cX10_put) (maxL := 5) (ret := none) (own := RX10) false false (by decide +kernel) rfl rfl (by decide) (fun v w h => by rw [h.1]; rfl) (Nat.le_of_ble_eq_true rfl) (fun X => ?_)
  show GG X _ _ _ _ _ _ _ _ _ _ _ _ _ _ [(0, .ref p), (1, .int (nI a)), (2, .ref q), (3, .int (nI m))] _ _
  refine G_iconst (v := nI 0) (q := 1) dX10_put_0 (by decide) rfl ?_
  refine G_istore (lv2 := [(0, .ref p), (1, .int (nI a)), (2, .ref q), (3, .int (nI m)), (4, .int (nI 0))]) (q := 3) dX10_put_1 (by decide) rfl rfl ?_
  have L3_1 : ∀ fu1 i : Nat, i ≤ m → m + 1 ≤ i + fu1 → GG X ({ frames := 0, cells := 0, slots := 0, locals := 0 }) cX10_put 5 wsX10_put RX10 false false Z (rV [(p, .inl (Z 0, n1, .inl (puF f g a m))), (q, .inl (Z 0, n2, .inl g))]) 0 0 0 0 [(p, .inl (Z 0, n1, .inl (puF f g a i))), (q, .inl (Z 0, n2, .inl g))] [(0, .ref p), (1, .int (nI a)), (2, .ref q), (3, .int (nI m)), (4, .int (nI i))] [] 3 := by
    intro fu1
    induction fu1 with
    | zero => intro i q1 q2; exact absurd q2 (by omega)
    | succ fu1 ih1 =>
      intro i hi1 hf1  
      refine G_iload (q := 5) dX10_put_3 4 rfl rfl ?_
      refine G_iload_n (q := 6) dX10_put_5 rfl 3 rfl rfl ?_
      refine G_icmp_geN (tgt := 25) (q := 9) dX10_put_6 (by decide) rfl (by omega) (by omega) (fun c6 => ?_) (fun c6 => ?_)
      · have e9 : m = i := by omega
        subst e9
        exact G_ret dX10_put_25 rfl rfl ⟨rfl, rfl⟩
      · refine G_aload_n (q := 10) dX10_put_9 rfl 0 rfl rfl ?_
        refine G_iload_n (q := 11) dX10_put_10 rfl 1 rfl rfl ?_
        refine G_iload (q := 13) dX10_put_11 4 rfl rfl ?_
        refine G_iaddN (a := a) (b := i) (q := 14) dX10_put_13 rfl ?_
        refine G_aload_n (q := 15) dX10_put_14 rfl 2 rfl rfl ?_
        refine G_iload (q := 17) dX10_put_15 4 rfl rfl ?_
        refine G_iald (q := 18) dX10_put_17 1 rfl i (rfl) (by omega) (by omega) rfl ?_
        refine G_iast (ws2 := [(p, .inl (Z 0, n1, .inl (upd (puF f g a i) (a + i) (g i)))), (q, .inl (Z 0, n2, .inl g))]) (q := 19) dX10_put_18 0 rfl (a + i) (rfl) (by omega) (by omega) rfl rfl ?_
        refine G_iincN (x := i) (d := 1) (lv2 := [(0, .ref p), (1, .int (nI a)), (2, .ref q), (3, .int (nI m)), (4, .int (nI (i + 1)))]) (q := 22) dX10_put_19 4 rfl (by decide) (by decide) rfl rfl ?_
        refine G_goto (q := 3) dX10_put_22 (by decide) ?_
        refine GG.of (ws2 := [(p, .inl (Z 0, n1, .inl (puF f g a (i + 1)))), (q, .inl (Z 0, n2, .inl g))]) (lv2 := [(0, .ref p), (1, .int (nI a)), (2, .ref q), (3, .int (nI m)), (4, .int (nI (i + 1)))]) (st2 := []) (ws_c (cell_i (pu_s f g a i)) (ws_c (rfl) (rfl))) (rfl) (rfl) ?_
        exact ih1 (i + 1) (by omega) (by omega)  
  refine GG.of (ws2 := [(p, .inl (Z 0, n1, .inl (puF f g a 0))), (q, .inl (Z 0, n2, .inl g))]) (lv2 := [(0, .ref p), (1, .int (nI a)), (2, .ref q), (3, .int (nI m)), (4, .int (nI 0))]) (st2 := []) (ws_c (cell_i (pu_0 f g a).symm) (ws_c (rfl) (rfl))) (rfl) (rfl) ?_
  exact L3_1 (m + 1) (0) (Nat.zero_le _) (by omega)  
theorem cs_X10_isRelative : CS yX10_isRelative wsX10_isRelative cX10_isRelative 2 (some .boolean) 1 := ⟨⟨_, rfl⟩, by decide +kernel, by decide +kernel, by decide +kernel⟩
theorem fl_X10_isRelative_76 : Cond.fieldLink RX10 76 (TX10 0).1 (TX10 0).2.1 (TX10 0).2.2.1 ∈ wsX10_isRelative := by decide +kernel
theorem in_X10_isRelative_X10 : ∀ w ∈ u_ws RX10 TX10 25, w ∈ wsX10_isRelative := by decide +kernel
set_option maxHeartbeats 4000000 in
set_option maxRecDepth 100000 in
theorem ct_X10_isRelative_ok (Z : Nat → ClassId) (C : Nat → Nat) (E : FS) (G : FS) (sz : Nat) (ac : Nat) (kp : Nat) (ln : Nat) (pa : Nat) (j : Nat) (hE : okF E) (hj : j < Fn E): Ct false yX10_isRelative wsX10_isRelative ({ frames := 1, cells := 0, slots := 0, locals := 22 }) [.ref (C 0), .int (nI j)] Z [((C 0), .inr (10, [.int (nI (Fn E)), .ref (C 1), .int (nI (Fk E)), .ref (C 2), .int (nI (Fh E)), .ref (C 3), .ref (C 4), .int (nI ac), .ref (C 5), .int (nI kp), .ref (C 6), .int (nI sz), .ref (C 7), .ref (C 8), .int (nI ln), .int (nI pa), .ref (C 9), .int (nI (Fn G)), .ref (C 10), .int (nI (Fk G)), .ref (C 11), .int (nI (Fdd G)), .int (nI (Fh G)), .ref (C 12), .ref (C 13)]))] (rI (bI true) [((C 0), .inr (10, [.int (nI (Fn E)), .ref (C 1), .int (nI (Fk E)), .ref (C 2), .int (nI (Fh E)), .ref (C 3), .ref (C 4), .int (nI ac), .ref (C 5), .int (nI kp), .ref (C 6), .int (nI sz), .ref (C 7), .ref (C 8), .int (nI ln), .int (nI pa), .ref (C 9), .int (nI (Fn G)), .ref (C 10), .int (nI (Fk G)), .ref (C 11), .int (nI (Fdd G)), .int (nI (Fh G)), .ref (C 12), .ref (C 13)]))]) 0 0 := by
  obtain ⟨hn, hk, hkd, hag, hml, htp, hdd, hh⟩ := id hE
  refine Ct_of (cc := cX10_isRelative) (maxL := 2) (ret := (some .boolean)) (own := RX10) false false (by decide +kernel) rfl rfl (by decide) (fun v w h => by rw [h.1]; exact ⟨_, rfl, bI_01 _⟩) (Nat.le_of_ble_eq_true rfl) (fun X => ?_)
  show GG X _ _ _ _ _ _ _ _ _ _ _ _ _ _ [(0, .ref (C 0)), (1, .int (nI j))] _ _
  refine G_iload_n (q := 1) dX10_isRelative_0 rfl 1 rfl rfl ?_
  refine G_iconst (v := nI 0) (q := 2) dX10_isRelative_1 (by decide) rfl ?_
  refine G_aload_n (q := 3) dX10_isRelative_2 rfl 0 rfl rfl ?_
  refine G_get (q := 6) dX10_isRelative_3 0 rfl (show vwCl[10]? = some (RX10, TX10, 25) from rfl) 0 (by decide) in_X10_isRelative_X10 fl_X10_isRelative_76 rfl rfl ?_
  refine G_iconst (v := nI 1) (q := 7) dX10_isRelative_6 (by decide) rfl ?_
  refine G_isubN (a := (Fn E)) (b := 1) (q := 8) dX10_isRelative_7 (by omega) rfl ?_
  refine G_callSP (As := [.int (nI j), .int (nI 0), .int (nI ((Fn E) - 1))]) (rest := []) (st2 := [.int (bI (inB (nI j) (nI 0) (nI ((Fn E) - 1))))]) (q := 11) dX10_isRelative_8 [] (ct_X10_in Z (nI j) (nI 0) (nI ((Fn E) - 1))) (fun h => h) cs_X10_in gX10_isRelative_X10_in ⟨Nat.le_of_ble_eq_true rfl, Nat.le_of_ble_eq_true rfl⟩ ⟨rfl, rfl⟩ rfl (by decide) rfl rfl (Nat.le_of_ble_eq_true rfl) ⟨by decide, by decide⟩ rfl rfl ?_
  refine G_top (y := bI true) (congrArg bI (inB_y (by omega) (by omega) (by omega))) ?_
  exact G_iret dX10_isRelative_11 rfl rfl ⟨rfl, rfl⟩
set_option maxHeartbeats 4000000 in
set_option maxRecDepth 100000 in
theorem ct_X10_isRelative_bad (Z : Nat → ClassId) (C : Nat → Nat) (E : FS) (G : FS) (sz : Nat) (ac : Nat) (kp : Nat) (ln : Nat) (pa : Nat) (x : Int32) (hE : okF E) (h0 : 0 < Fn E) (hx : bad x (Fn E)): Ct false yX10_isRelative wsX10_isRelative ({ frames := 1, cells := 0, slots := 0, locals := 22 }) [.ref (C 0), .int x] Z [((C 0), .inr (10, [.int (nI (Fn E)), .ref (C 1), .int (nI (Fk E)), .ref (C 2), .int (nI (Fh E)), .ref (C 3), .ref (C 4), .int (nI ac), .ref (C 5), .int (nI kp), .ref (C 6), .int (nI sz), .ref (C 7), .ref (C 8), .int (nI ln), .int (nI pa), .ref (C 9), .int (nI (Fn G)), .ref (C 10), .int (nI (Fk G)), .ref (C 11), .int (nI (Fdd G)), .int (nI (Fh G)), .ref (C 12), .ref (C 13)]))] (rI (bI false) [((C 0), .inr (10, [.int (nI (Fn E)), .ref (C 1), .int (nI (Fk E)), .ref (C 2), .int (nI (Fh E)), .ref (C 3), .ref (C 4), .int (nI ac), .ref (C 5), .int (nI kp), .ref (C 6), .int (nI sz), .ref (C 7), .ref (C 8), .int (nI ln), .int (nI pa), .ref (C 9), .int (nI (Fn G)), .ref (C 10), .int (nI (Fk G)), .ref (C 11), .int (nI (Fdd G)), .int (nI (Fh G)), .ref (C 12), .ref (C 13)]))]) 0 0 := by
  obtain ⟨hn, hk, hkd, hag, hml, htp, hdd, hh⟩ := id hE
  refine Ct_of (cc := cX10_isRelative) (maxL := 2) (ret := (some .boolean)) (own := RX10) false false (by decide +kernel) rfl rfl (by decide) (fun v w h => by rw [h.1]; exact ⟨_, rfl, bI_01 _⟩) (Nat.le_of_ble_eq_true rfl) (fun X => ?_)
  show GG X _ _ _ _ _ _ _ _ _ _ _ _ _ _ [(0, .ref (C 0)), (1, .int x)] _ _
  refine G_iload_n (q := 1) dX10_isRelative_0 rfl 1 rfl rfl ?_
  refine G_iconst (v := nI 0) (q := 2) dX10_isRelative_1 (by decide) rfl ?_
  refine G_aload_n (q := 3) dX10_isRelative_2 rfl 0 rfl rfl ?_
  refine G_get (q := 6) dX10_isRelative_3 0 rfl (show vwCl[10]? = some (RX10, TX10, 25) from rfl) 0 (by decide) in_X10_isRelative_X10 fl_X10_isRelative_76 rfl rfl ?_
  refine G_iconst (v := nI 1) (q := 7) dX10_isRelative_6 (by decide) rfl ?_
  refine G_isubN (a := (Fn E)) (b := 1) (q := 8) dX10_isRelative_7 (by omega) rfl ?_
  refine G_callSP (As := [.int x, .int (nI 0), .int (nI ((Fn E) - 1))]) (rest := []) (st2 := [.int (bI (inB x (nI 0) (nI ((Fn E) - 1))))]) (q := 11) dX10_isRelative_8 [] (ct_X10_in Z x (nI 0) (nI ((Fn E) - 1))) (fun h => h) cs_X10_in gX10_isRelative_X10_in ⟨Nat.le_of_ble_eq_true rfl, Nat.le_of_ble_eq_true rfl⟩ ⟨rfl, rfl⟩ rfl (by decide) rfl rfl (Nat.le_of_ble_eq_true rfl) ⟨by decide, by decide⟩ rfl rfl ?_
  refine G_top (y := bI false) (congrArg bI (inB_b0 hx (by omega) h0)) ?_
  exact G_iret dX10_isRelative_11 rfl rfl ⟨rfl, rfl⟩
theorem cs_X10_clearTold : CS yX10_clearTold wsX10_clearTold cX10_clearTold 1 none 0 := ⟨⟨_, rfl⟩, by decide +kernel, by decide +kernel, by decide +kernel⟩
theorem fl_X10_clearTold_60 : Cond.fieldLink RX10 60 (TX10 21).1 (TX10 21).2.1 (TX10 21).2.2.1 ∈ wsX10_clearTold := by decide +kernel
theorem fl_X10_clearTold_64 : Cond.fieldLink RX10 64 (TX10 22).1 (TX10 22).2.1 (TX10 22).2.2.1 ∈ wsX10_clearTold := by decide +kernel
theorem fl_X10_clearTold_70 : Cond.fieldLink RX10 70 (TX10 17).1 (TX10 17).2.1 (TX10 17).2.2.1 ∈ wsX10_clearTold := by decide +kernel
theorem fl_X10_clearTold_73 : Cond.fieldLink RX10 73 (TX10 19).1 (TX10 19).2.1 (TX10 19).2.2.1 ∈ wsX10_clearTold := by decide +kernel
theorem in_X10_clearTold_X10 : ∀ w ∈ u_ws RX10 TX10 25, w ∈ wsX10_clearTold := by decide +kernel
set_option maxHeartbeats 4000000 in
set_option maxRecDepth 100000 in
theorem ct_X10_clearTold (Z : Nat → ClassId) (C : Nat → Nat) (E : FS) (G : FS) (sz : Nat) (ac : Nat) (kp : Nat) (ln : Nat) (pa : Nat) : Ct false yX10_clearTold wsX10_clearTold ({ frames := 0, cells := 0, slots := 0, locals := 0 }) [.ref (C 0)] Z [((C 0), .inr (10, [.int (nI (Fn E)), .ref (C 1), .int (nI (Fk E)), .ref (C 2), .int (nI (Fh E)), .ref (C 3), .ref (C 4), .int (nI ac), .ref (C 5), .int (nI kp), .ref (C 6), .int (nI sz), .ref (C 7), .ref (C 8), .int (nI ln), .int (nI pa), .ref (C 9), .int (nI (Fn G)), .ref (C 10), .int (nI (Fk G)), .ref (C 11), .int (nI (Fdd G)), .int (nI (Fh G)), .ref (C 12), .ref (C 13)]))] (rV [((C 0), .inr (10, [.int (nI (Fn E)), .ref (C 1), .int (nI (Fk E)), .ref (C 2), .int (nI (Fh E)), .ref (C 3), .ref (C 4), .int (nI ac), .ref (C 5), .int (nI kp), .ref (C 6), .int (nI sz), .ref (C 7), .ref (C 8), .int (nI ln), .int (nI pa), .ref (C 9), .int (nI (Fn (clrF G))), .ref (C 10), .int (nI (Fk (clrF G))), .ref (C 11), .int (nI (Fdd (clrF G))), .int (nI (Fh (clrF G))), .ref (C 12), .ref (C 13)]))]) 0 0 := by
  refine Ct_of (cc := cX10_clearTold) (maxL := 1) (ret := none) (own := RX10) false false (by decide +kernel) rfl rfl (by decide) (fun v w h => by rw [h.1]; rfl) (Nat.le_of_ble_eq_true rfl) (fun X => ?_)
  show GG X _ _ _ _ _ _ _ _ _ _ _ _ _ _ [(0, .ref (C 0))] _ _
  refine G_aload_n (q := 1) dX10_clearTold_0 rfl 0 rfl rfl ?_
  refine G_iconst (v := nI 0) (q := 2) dX10_clearTold_1 (by decide) rfl ?_
  refine G_put (ws2 := [((C 0), .inr (10, [.int (nI (Fn E)), .ref (C 1), .int (nI (Fk E)), .ref (C 2), .int (nI (Fh E)), .ref (C 3), .ref (C 4), .int (nI ac), .ref (C 5), .int (nI kp), .ref (C 6), .int (nI sz), .ref (C 7), .ref (C 8), .int (nI ln), .int (nI pa), .ref (C 9), .int (nI 0), .ref (C 10), .int (nI (Fk G)), .ref (C 11), .int (nI (Fdd G)), .int (nI (Fh G)), .ref (C 12), .ref (C 13)]))]) (q := 5) dX10_clearTold_2 0 rfl (show vwCl[10]? = some (RX10, TX10, 25) from rfl) cf_X10 17 (by decide) in_X10_clearTold_X10 fl_X10_clearTold_70 rfl (rfl) rfl (by simp only [List.length_cons, List.length_nil]; decide) rfl rfl ?_
  refine G_aload_n (q := 6) dX10_clearTold_5 rfl 0 rfl rfl ?_
  refine G_iconst (v := nI 0) (q := 7) dX10_clearTold_6 (by decide) rfl ?_
  refine G_put (ws2 := [((C 0), .inr (10, [.int (nI (Fn E)), .ref (C 1), .int (nI (Fk E)), .ref (C 2), .int (nI (Fh E)), .ref (C 3), .ref (C 4), .int (nI ac), .ref (C 5), .int (nI kp), .ref (C 6), .int (nI sz), .ref (C 7), .ref (C 8), .int (nI ln), .int (nI pa), .ref (C 9), .int (nI 0), .ref (C 10), .int (nI 0), .ref (C 11), .int (nI (Fdd G)), .int (nI (Fh G)), .ref (C 12), .ref (C 13)]))]) (q := 10) dX10_clearTold_7 0 rfl (show vwCl[10]? = some (RX10, TX10, 25) from rfl) cf_X10 19 (by decide) in_X10_clearTold_X10 fl_X10_clearTold_73 rfl (rfl) rfl (by simp only [List.length_cons, List.length_nil]; decide) rfl rfl ?_
  refine G_aload_n (q := 11) dX10_clearTold_10 rfl 0 rfl rfl ?_
  refine G_iconst (v := nI 1) (q := 12) dX10_clearTold_11 (by decide) rfl ?_
  refine G_put (ws2 := [((C 0), .inr (10, [.int (nI (Fn E)), .ref (C 1), .int (nI (Fk E)), .ref (C 2), .int (nI (Fh E)), .ref (C 3), .ref (C 4), .int (nI ac), .ref (C 5), .int (nI kp), .ref (C 6), .int (nI sz), .ref (C 7), .ref (C 8), .int (nI ln), .int (nI pa), .ref (C 9), .int (nI 0), .ref (C 10), .int (nI 0), .ref (C 11), .int (nI 1), .int (nI (Fh G)), .ref (C 12), .ref (C 13)]))]) (q := 15) dX10_clearTold_12 0 rfl (show vwCl[10]? = some (RX10, TX10, 25) from rfl) cf_X10 21 (by decide) in_X10_clearTold_X10 fl_X10_clearTold_60 rfl (rfl) rfl (by simp only [List.length_cons, List.length_nil]; decide) rfl rfl ?_
  refine G_aload_n (q := 16) dX10_clearTold_15 rfl 0 rfl rfl ?_
  refine G_iconst (v := nI 3) (q := 17) dX10_clearTold_16 (by decide) rfl ?_
  refine G_put (ws2 := [((C 0), .inr (10, [.int (nI (Fn E)), .ref (C 1), .int (nI (Fk E)), .ref (C 2), .int (nI (Fh E)), .ref (C 3), .ref (C 4), .int (nI ac), .ref (C 5), .int (nI kp), .ref (C 6), .int (nI sz), .ref (C 7), .ref (C 8), .int (nI ln), .int (nI pa), .ref (C 9), .int (nI 0), .ref (C 10), .int (nI 0), .ref (C 11), .int (nI 1), .int (nI 3), .ref (C 12), .ref (C 13)]))]) (q := 20) dX10_clearTold_17 0 rfl (show vwCl[10]? = some (RX10, TX10, 25) from rfl) cf_X10 22 (by decide) in_X10_clearTold_X10 fl_X10_clearTold_64 rfl (rfl) rfl (by simp only [List.length_cons, List.length_nil]; decide) rfl rfl ?_
  refine GG.of (ws2 := [((C 0), .inr (10, [.int (nI (Fn E)), .ref (C 1), .int (nI (Fk E)), .ref (C 2), .int (nI (Fh E)), .ref (C 3), .ref (C 4), .int (nI ac), .ref (C 5), .int (nI kp), .ref (C 6), .int (nI sz), .ref (C 7), .ref (C 8), .int (nI ln), .int (nI pa), .ref (C 9), .int (nI (Fn (clrF G))), .ref (C 10), .int (nI (Fk (clrF G))), .ref (C 11), .int (nI (Fdd (clrF G))), .int (nI (Fh (clrF G))), .ref (C 12), .ref (C 13)]))]) (lv2 := [(0, .ref (C 0))]) (st2 := []) (ws_c (rfl) (rfl)) (rfl) (rfl) ?_
  exact G_ret dX10_clearTold_20 rfl rfl ⟨rfl, rfl⟩
theorem cs_X10_tellsRelative : CS yX10_tellsRelative wsX10_tellsRelative cX10_tellsRelative 4 none 3 := ⟨⟨_, rfl⟩, by decide +kernel, by decide +kernel, by decide +kernel⟩
theorem fl_X10_tellsRelative_37 : Cond.fieldLink RX10 37 (TX10 18).1 (TX10 18).2.1 (TX10 18).2.2.1 ∈ wsX10_tellsRelative := by decide +kernel
theorem fl_X10_tellsRelative_70 : Cond.fieldLink RX10 70 (TX10 17).1 (TX10 17).2.1 (TX10 17).2.2.1 ∈ wsX10_tellsRelative := by decide +kernel
theorem in_X10_tellsRelative_X10 : ∀ w ∈ u_ws RX10 TX10 25, w ∈ wsX10_tellsRelative := by decide +kernel
set_option maxHeartbeats 4000000 in
set_option maxRecDepth 100000 in
theorem ct_X10_tellsRelative (Z : Nat → ClassId) (C : Nat → Nat) (E : FS) (G : FS) (sz : Nat) (ac : Nat) (kp : Nat) (ln : Nat) (pa : Nat) (a : Nat) (b : Nat) (c : Nat) (hc : Fn G < 6): Ct false yX10_tellsRelative wsX10_tellsRelative ({ frames := 0, cells := 0, slots := 0, locals := 0 }) [.ref (C 0), .int (nI a), .int (nI b), .int (nI c)] Z [((C 0), .inr (10, [.int (nI (Fn E)), .ref (C 1), .int (nI (Fk E)), .ref (C 2), .int (nI (Fh E)), .ref (C 3), .ref (C 4), .int (nI ac), .ref (C 5), .int (nI kp), .ref (C 6), .int (nI sz), .ref (C 7), .ref (C 8), .int (nI ln), .int (nI pa), .ref (C 9), .int (nI (Fn G)), .ref (C 10), .int (nI (Fk G)), .ref (C 11), .int (nI (Fdd G)), .int (nI (Fh G)), .ref (C 12), .ref (C 13)])), ((C 10), .inl (Z 0, 18, .inl (fun j_ => nI ((rrN G) j_))))] (rV [((C 0), .inr (10, [.int (nI (Fn E)), .ref (C 1), .int (nI (Fk E)), .ref (C 2), .int (nI (Fh E)), .ref (C 3), .ref (C 4), .int (nI ac), .ref (C 5), .int (nI kp), .ref (C 6), .int (nI sz), .ref (C 7), .ref (C 8), .int (nI ln), .int (nI pa), .ref (C 9), .int (nI (Fn (addR3 G a b c))), .ref (C 10), .int (nI (Fk (addR3 G a b c))), .ref (C 11), .int (nI (Fdd (addR3 G a b c))), .int (nI (Fh (addR3 G a b c))), .ref (C 12), .ref (C 13)])), ((C 10), .inl (Z 0, 18, .inl (fun j_ => nI ((rrN (addR3 G a b c)) j_))))]) 0 0 := by
  refine Ct_of (cc := cX10_tellsRelative) (maxL := 4) (ret := none) (own := RX10) false false (by decide +kernel) rfl rfl (by decide) (fun v w h => by rw [h.1]; rfl) (Nat.le_of_ble_eq_true rfl) (fun X => ?_)
  show GG X _ _ _ _ _ _ _ _ _ _ _ _ _ _ [(0, .ref (C 0)), (1, .int (nI a)), (2, .int (nI b)), (3, .int (nI c))] _ _
  refine G_aload_n (q := 1) dX10_tellsRelative_0 rfl 0 rfl rfl ?_
  refine G_get (q := 4) dX10_tellsRelative_1 0 rfl (show vwCl[10]? = some (RX10, TX10, 25) from rfl) 18 (by decide) in_X10_tellsRelative_X10 fl_X10_tellsRelative_37 rfl rfl ?_
  refine G_iconst (v := nI 3) (q := 5) dX10_tellsRelative_4 (by decide) rfl ?_
  refine G_aload_n (q := 6) dX10_tellsRelative_5 rfl 0 rfl rfl ?_
  refine G_get (q := 9) dX10_tellsRelative_6 0 rfl (show vwCl[10]? = some (RX10, TX10, 25) from rfl) 17 (by decide) in_X10_tellsRelative_X10 fl_X10_tellsRelative_70 rfl rfl ?_
  refine G_imulN (a := 3) (b := (Fn G)) (q := 10) dX10_tellsRelative_9 rfl ?_
  refine G_iload_n (q := 11) dX10_tellsRelative_10 rfl 1 rfl rfl ?_
  refine G_iast (ws2 := [((C 0), .inr (10, [.int (nI (Fn E)), .ref (C 1), .int (nI (Fk E)), .ref (C 2), .int (nI (Fh E)), .ref (C 3), .ref (C 4), .int (nI ac), .ref (C 5), .int (nI kp), .ref (C 6), .int (nI sz), .ref (C 7), .ref (C 8), .int (nI ln), .int (nI pa), .ref (C 9), .int (nI (Fn G)), .ref (C 10), .int (nI (Fk G)), .ref (C 11), .int (nI (Fdd G)), .int (nI (Fh G)), .ref (C 12), .ref (C 13)])), ((C 10), .inl (Z 0, 18, .inl (upd (fun j_ => nI ((rrN G) j_)) (3 * (Fn G)) (nI a))))]) (q := 12) dX10_tellsRelative_11 1 rfl (3 * (Fn G)) (rfl) (by omega) (by omega) rfl rfl ?_
  refine GG.of (ws2 := [((C 0), .inr (10, [.int (nI (Fn E)), .ref (C 1), .int (nI (Fk E)), .ref (C 2), .int (nI (Fh E)), .ref (C 3), .ref (C 4), .int (nI ac), .ref (C 5), .int (nI kp), .ref (C 6), .int (nI sz), .ref (C 7), .ref (C 8), .int (nI ln), .int (nI pa), .ref (C 9), .int (nI (Fn G)), .ref (C 10), .int (nI (Fk G)), .ref (C 11), .int (nI (Fdd G)), .int (nI (Fh G)), .ref (C 12), .ref (C 13)])), ((C 10), .inl (Z 0, 18, .inl (fun j_ => nI ((updN (rrN G) (3 * (Fn G)) a) j_))))]) (ws_c (rfl) (ws_c (cell_i (updN_eq _ _ _)) (rfl))) rfl rfl ?_
  refine G_aload_n (q := 13) dX10_tellsRelative_12 rfl 0 rfl rfl ?_
  refine G_get (q := 16) dX10_tellsRelative_13 0 rfl (show vwCl[10]? = some (RX10, TX10, 25) from rfl) 18 (by decide) in_X10_tellsRelative_X10 fl_X10_tellsRelative_37 rfl rfl ?_
  refine G_iconst (v := nI 3) (q := 17) dX10_tellsRelative_16 (by decide) rfl ?_
  refine G_aload_n (q := 18) dX10_tellsRelative_17 rfl 0 rfl rfl ?_
  refine G_get (q := 21) dX10_tellsRelative_18 0 rfl (show vwCl[10]? = some (RX10, TX10, 25) from rfl) 17 (by decide) in_X10_tellsRelative_X10 fl_X10_tellsRelative_70 rfl rfl ?_
  refine G_imulN (a := 3) (b := (Fn G)) (q := 22) dX10_tellsRelative_21 rfl ?_
  refine G_iconst (v := nI 1) (q := 23) dX10_tellsRelative_22 (by decide) rfl ?_
  refine G_iaddN (a := (3 * (Fn G))) (b := 1) (q := 24) dX10_tellsRelative_23 rfl ?_
  refine G_iload_n (q := 25) dX10_tellsRelative_24 rfl 2 rfl rfl ?_
  refine G_iast (ws2 := [((C 0), .inr (10, [.int (nI (Fn E)), .ref (C 1), .int (nI (Fk E)), .ref (C 2), .int (nI (Fh E)), .ref (C 3), .ref (C 4), .int (nI ac), .ref (C 5), .int (nI kp), .ref (C 6), .int (nI sz), .ref (C 7), .ref (C 8), .int (nI ln), .int (nI pa), .ref (C 9), .int (nI (Fn G)), .ref (C 10), .int (nI (Fk G)), .ref (C 11), .int (nI (Fdd G)), .int (nI (Fh G)), .ref (C 12), .ref (C 13)])), ((C 10), .inl (Z 0, 18, .inl (upd (fun j_ => nI ((updN (rrN G) (3 * (Fn G)) a) j_)) ((3 * (Fn G)) + 1) (nI b))))]) (q := 26) dX10_tellsRelative_25 1 rfl ((3 * (Fn G)) + 1) (rfl) (by omega) (by omega) rfl rfl ?_
  refine GG.of (ws2 := [((C 0), .inr (10, [.int (nI (Fn E)), .ref (C 1), .int (nI (Fk E)), .ref (C 2), .int (nI (Fh E)), .ref (C 3), .ref (C 4), .int (nI ac), .ref (C 5), .int (nI kp), .ref (C 6), .int (nI sz), .ref (C 7), .ref (C 8), .int (nI ln), .int (nI pa), .ref (C 9), .int (nI (Fn G)), .ref (C 10), .int (nI (Fk G)), .ref (C 11), .int (nI (Fdd G)), .int (nI (Fh G)), .ref (C 12), .ref (C 13)])), ((C 10), .inl (Z 0, 18, .inl (fun j_ => nI ((updN (updN (rrN G) (3 * (Fn G)) a) ((3 * (Fn G)) + 1) b) j_))))]) (ws_c (rfl) (ws_c (cell_i (updN_eq _ _ _)) (rfl))) rfl rfl ?_
  refine G_aload_n (q := 27) dX10_tellsRelative_26 rfl 0 rfl rfl ?_
  refine G_get (q := 30) dX10_tellsRelative_27 0 rfl (show vwCl[10]? = some (RX10, TX10, 25) from rfl) 18 (by decide) in_X10_tellsRelative_X10 fl_X10_tellsRelative_37 rfl rfl ?_
  refine G_iconst (v := nI 3) (q := 31) dX10_tellsRelative_30 (by decide) rfl ?_
  refine G_aload_n (q := 32) dX10_tellsRelative_31 rfl 0 rfl rfl ?_
  refine G_get (q := 35) dX10_tellsRelative_32 0 rfl (show vwCl[10]? = some (RX10, TX10, 25) from rfl) 17 (by decide) in_X10_tellsRelative_X10 fl_X10_tellsRelative_70 rfl rfl ?_
  refine G_imulN (a := 3) (b := (Fn G)) (q := 36) dX10_tellsRelative_35 rfl ?_
  refine G_iconst (v := nI 2) (q := 37) dX10_tellsRelative_36 (by decide) rfl ?_
  refine G_iaddN (a := (3 * (Fn G))) (b := 2) (q := 38) dX10_tellsRelative_37 rfl ?_
  refine G_iload_n (q := 39) dX10_tellsRelative_38 rfl 3 rfl rfl ?_
  refine G_iast (ws2 := [((C 0), .inr (10, [.int (nI (Fn E)), .ref (C 1), .int (nI (Fk E)), .ref (C 2), .int (nI (Fh E)), .ref (C 3), .ref (C 4), .int (nI ac), .ref (C 5), .int (nI kp), .ref (C 6), .int (nI sz), .ref (C 7), .ref (C 8), .int (nI ln), .int (nI pa), .ref (C 9), .int (nI (Fn G)), .ref (C 10), .int (nI (Fk G)), .ref (C 11), .int (nI (Fdd G)), .int (nI (Fh G)), .ref (C 12), .ref (C 13)])), ((C 10), .inl (Z 0, 18, .inl (upd (fun j_ => nI ((updN (updN (rrN G) (3 * (Fn G)) a) ((3 * (Fn G)) + 1) b) j_)) ((3 * (Fn G)) + 2) (nI c))))]) (q := 40) dX10_tellsRelative_39 1 rfl ((3 * (Fn G)) + 2) (rfl) (by omega) (by omega) rfl rfl ?_
  refine GG.of (ws2 := [((C 0), .inr (10, [.int (nI (Fn E)), .ref (C 1), .int (nI (Fk E)), .ref (C 2), .int (nI (Fh E)), .ref (C 3), .ref (C 4), .int (nI ac), .ref (C 5), .int (nI kp), .ref (C 6), .int (nI sz), .ref (C 7), .ref (C 8), .int (nI ln), .int (nI pa), .ref (C 9), .int (nI (Fn G)), .ref (C 10), .int (nI (Fk G)), .ref (C 11), .int (nI (Fdd G)), .int (nI (Fh G)), .ref (C 12), .ref (C 13)])), ((C 10), .inl (Z 0, 18, .inl (fun j_ => nI ((updN (updN (updN (rrN G) (3 * (Fn G)) a) ((3 * (Fn G)) + 1) b) ((3 * (Fn G)) + 2) c) j_))))]) (ws_c (rfl) (ws_c (cell_i (updN_eq _ _ _)) (rfl))) rfl rfl ?_
  refine G_aload_n (q := 41) dX10_tellsRelative_40 rfl 0 rfl rfl ?_
  refine G_dup (q := 42) dX10_tellsRelative_41 rfl rfl ?_
  refine G_get (q := 45) dX10_tellsRelative_42 0 rfl (show vwCl[10]? = some (RX10, TX10, 25) from rfl) 17 (by decide) in_X10_tellsRelative_X10 fl_X10_tellsRelative_70 rfl rfl ?_
  refine G_iconst (v := nI 1) (q := 46) dX10_tellsRelative_45 (by decide) rfl ?_
  refine G_iaddN (a := (Fn G)) (b := 1) (q := 47) dX10_tellsRelative_46 rfl ?_
  refine G_put (ws2 := [((C 0), .inr (10, [.int (nI (Fn E)), .ref (C 1), .int (nI (Fk E)), .ref (C 2), .int (nI (Fh E)), .ref (C 3), .ref (C 4), .int (nI ac), .ref (C 5), .int (nI kp), .ref (C 6), .int (nI sz), .ref (C 7), .ref (C 8), .int (nI ln), .int (nI pa), .ref (C 9), .int (nI ((Fn G) + 1)), .ref (C 10), .int (nI (Fk G)), .ref (C 11), .int (nI (Fdd G)), .int (nI (Fh G)), .ref (C 12), .ref (C 13)])), ((C 10), .inl (Z 0, 18, .inl (fun j_ => nI ((updN (updN (updN (rrN G) (3 * (Fn G)) a) ((3 * (Fn G)) + 1) b) ((3 * (Fn G)) + 2) c) j_))))]) (q := 50) dX10_tellsRelative_47 0 rfl (show vwCl[10]? = some (RX10, TX10, 25) from rfl) cf_X10 17 (by decide) in_X10_tellsRelative_X10 fl_X10_tellsRelative_70 rfl (rfl) rfl (by simp only [List.length_cons, List.length_nil]; decide) rfl rfl ?_
  refine GG.of (ws2 := [((C 0), .inr (10, [.int (nI (Fn E)), .ref (C 1), .int (nI (Fk E)), .ref (C 2), .int (nI (Fh E)), .ref (C 3), .ref (C 4), .int (nI ac), .ref (C 5), .int (nI kp), .ref (C 6), .int (nI sz), .ref (C 7), .ref (C 8), .int (nI ln), .int (nI pa), .ref (C 9), .int (nI (Fn (addR3 G a b c))), .ref (C 10), .int (nI (Fk (addR3 G a b c))), .ref (C 11), .int (nI (Fdd (addR3 G a b c))), .int (nI (Fh (addR3 G a b c))), .ref (C 12), .ref (C 13)])), ((C 10), .inl (Z 0, 18, .inl (fun j_ => nI ((rrN (addR3 G a b c)) j_))))]) (lv2 := [(0, .ref (C 0)), (1, .int (nI a)), (2, .int (nI b)), (3, .int (nI c))]) (st2 := []) (ws_c (rfl) (ws_c (cell_n rr_add) (rfl))) (rfl) (rfl) ?_
  exact G_ret dX10_tellsRelative_50 rfl rfl ⟨rfl, rfl⟩
theorem cs_X10_tellsSaying : CS yX10_tellsSaying wsX10_tellsSaying cX10_tellsSaying 3 none 2 := ⟨⟨_, rfl⟩, by decide +kernel, by decide +kernel, by decide +kernel⟩
theorem fl_X10_tellsSaying_40 : Cond.fieldLink RX10 40 (TX10 20).1 (TX10 20).2.1 (TX10 20).2.2.1 ∈ wsX10_tellsSaying := by decide +kernel
theorem fl_X10_tellsSaying_73 : Cond.fieldLink RX10 73 (TX10 19).1 (TX10 19).2.1 (TX10 19).2.2.1 ∈ wsX10_tellsSaying := by decide +kernel
theorem in_X10_tellsSaying_X10 : ∀ w ∈ u_ws RX10 TX10 25, w ∈ wsX10_tellsSaying := by decide +kernel
set_option maxHeartbeats 4000000 in
set_option maxRecDepth 100000 in
theorem ct_X10_tellsSaying (Z : Nat → ClassId) (C : Nat → Nat) (E : FS) (G : FS) (sz : Nat) (ac : Nat) (kp : Nat) (ln : Nat) (pa : Nat) (a : Nat) (b : Nat) (hc : Fk G < 8) (hb : b ≤ 1): Ct false yX10_tellsSaying wsX10_tellsSaying ({ frames := 0, cells := 0, slots := 0, locals := 0 }) [.ref (C 0), .int (nI a), .int (nI b)] Z [((C 0), .inr (10, [.int (nI (Fn E)), .ref (C 1), .int (nI (Fk E)), .ref (C 2), .int (nI (Fh E)), .ref (C 3), .ref (C 4), .int (nI ac), .ref (C 5), .int (nI kp), .ref (C 6), .int (nI sz), .ref (C 7), .ref (C 8), .int (nI ln), .int (nI pa), .ref (C 9), .int (nI (Fn G)), .ref (C 10), .int (nI (Fk G)), .ref (C 11), .int (nI (Fdd G)), .int (nI (Fh G)), .ref (C 12), .ref (C 13)])), ((C 11), .inl (Z 0, 16, .inl (fun j_ => nI ((rsN G) j_))))] (rV [((C 0), .inr (10, [.int (nI (Fn E)), .ref (C 1), .int (nI (Fk E)), .ref (C 2), .int (nI (Fh E)), .ref (C 3), .ref (C 4), .int (nI ac), .ref (C 5), .int (nI kp), .ref (C 6), .int (nI sz), .ref (C 7), .ref (C 8), .int (nI ln), .int (nI pa), .ref (C 9), .int (nI (Fn (addS2 G a b))), .ref (C 10), .int (nI (Fk (addS2 G a b))), .ref (C 11), .int (nI (Fdd (addS2 G a b))), .int (nI (Fh (addS2 G a b))), .ref (C 12), .ref (C 13)])), ((C 11), .inl (Z 0, 16, .inl (fun j_ => nI ((rsN (addS2 G a b)) j_))))]) 0 0 := by
  refine Ct_of (cc := cX10_tellsSaying) (maxL := 3) (ret := none) (own := RX10) false false (by decide +kernel) rfl rfl (by decide) (fun v w h => by rw [h.1]; rfl) (Nat.le_of_ble_eq_true rfl) (fun X => ?_)
  show GG X _ _ _ _ _ _ _ _ _ _ _ _ _ _ [(0, .ref (C 0)), (1, .int (nI a)), (2, .int (nI b))] _ _
  refine G_aload_n (q := 1) dX10_tellsSaying_0 rfl 0 rfl rfl ?_
  refine G_get (q := 4) dX10_tellsSaying_1 0 rfl (show vwCl[10]? = some (RX10, TX10, 25) from rfl) 20 (by decide) in_X10_tellsSaying_X10 fl_X10_tellsSaying_40 rfl rfl ?_
  refine G_iconst (v := nI 2) (q := 5) dX10_tellsSaying_4 (by decide) rfl ?_
  refine G_aload_n (q := 6) dX10_tellsSaying_5 rfl 0 rfl rfl ?_
  refine G_get (q := 9) dX10_tellsSaying_6 0 rfl (show vwCl[10]? = some (RX10, TX10, 25) from rfl) 19 (by decide) in_X10_tellsSaying_X10 fl_X10_tellsSaying_73 rfl rfl ?_
  refine G_imulN (a := 2) (b := (Fk G)) (q := 10) dX10_tellsSaying_9 rfl ?_
  refine G_iload_n (q := 11) dX10_tellsSaying_10 rfl 1 rfl rfl ?_
  refine G_iast (ws2 := [((C 0), .inr (10, [.int (nI (Fn E)), .ref (C 1), .int (nI (Fk E)), .ref (C 2), .int (nI (Fh E)), .ref (C 3), .ref (C 4), .int (nI ac), .ref (C 5), .int (nI kp), .ref (C 6), .int (nI sz), .ref (C 7), .ref (C 8), .int (nI ln), .int (nI pa), .ref (C 9), .int (nI (Fn G)), .ref (C 10), .int (nI (Fk G)), .ref (C 11), .int (nI (Fdd G)), .int (nI (Fh G)), .ref (C 12), .ref (C 13)])), ((C 11), .inl (Z 0, 16, .inl (upd (fun j_ => nI ((rsN G) j_)) (2 * (Fk G)) (nI a))))]) (q := 12) dX10_tellsSaying_11 1 rfl (2 * (Fk G)) (rfl) (by omega) (by omega) rfl rfl ?_
  refine GG.of (ws2 := [((C 0), .inr (10, [.int (nI (Fn E)), .ref (C 1), .int (nI (Fk E)), .ref (C 2), .int (nI (Fh E)), .ref (C 3), .ref (C 4), .int (nI ac), .ref (C 5), .int (nI kp), .ref (C 6), .int (nI sz), .ref (C 7), .ref (C 8), .int (nI ln), .int (nI pa), .ref (C 9), .int (nI (Fn G)), .ref (C 10), .int (nI (Fk G)), .ref (C 11), .int (nI (Fdd G)), .int (nI (Fh G)), .ref (C 12), .ref (C 13)])), ((C 11), .inl (Z 0, 16, .inl (fun j_ => nI ((updN (rsN G) (2 * (Fk G)) a) j_))))]) (ws_c (rfl) (ws_c (cell_i (updN_eq _ _ _)) (rfl))) rfl rfl ?_
  refine G_aload_n (q := 13) dX10_tellsSaying_12 rfl 0 rfl rfl ?_
  refine G_get (q := 16) dX10_tellsSaying_13 0 rfl (show vwCl[10]? = some (RX10, TX10, 25) from rfl) 20 (by decide) in_X10_tellsSaying_X10 fl_X10_tellsSaying_40 rfl rfl ?_
  refine G_iconst (v := nI 2) (q := 17) dX10_tellsSaying_16 (by decide) rfl ?_
  refine G_aload_n (q := 18) dX10_tellsSaying_17 rfl 0 rfl rfl ?_
  refine G_get (q := 21) dX10_tellsSaying_18 0 rfl (show vwCl[10]? = some (RX10, TX10, 25) from rfl) 19 (by decide) in_X10_tellsSaying_X10 fl_X10_tellsSaying_73 rfl rfl ?_
  refine G_imulN (a := 2) (b := (Fk G)) (q := 22) dX10_tellsSaying_21 rfl ?_
  refine G_iconst (v := nI 1) (q := 23) dX10_tellsSaying_22 (by decide) rfl ?_
  refine G_iaddN (a := (2 * (Fk G))) (b := 1) (q := 24) dX10_tellsSaying_23 rfl ?_
  refine G_iload_n (q := 25) dX10_tellsSaying_24 rfl 2 rfl rfl ?_
  refine G_iast (ws2 := [((C 0), .inr (10, [.int (nI (Fn E)), .ref (C 1), .int (nI (Fk E)), .ref (C 2), .int (nI (Fh E)), .ref (C 3), .ref (C 4), .int (nI ac), .ref (C 5), .int (nI kp), .ref (C 6), .int (nI sz), .ref (C 7), .ref (C 8), .int (nI ln), .int (nI pa), .ref (C 9), .int (nI (Fn G)), .ref (C 10), .int (nI (Fk G)), .ref (C 11), .int (nI (Fdd G)), .int (nI (Fh G)), .ref (C 12), .ref (C 13)])), ((C 11), .inl (Z 0, 16, .inl (upd (fun j_ => nI ((updN (rsN G) (2 * (Fk G)) a) j_)) ((2 * (Fk G)) + 1) (nI b))))]) (q := 26) dX10_tellsSaying_25 1 rfl ((2 * (Fk G)) + 1) (rfl) (by omega) (by omega) rfl rfl ?_
  refine GG.of (ws2 := [((C 0), .inr (10, [.int (nI (Fn E)), .ref (C 1), .int (nI (Fk E)), .ref (C 2), .int (nI (Fh E)), .ref (C 3), .ref (C 4), .int (nI ac), .ref (C 5), .int (nI kp), .ref (C 6), .int (nI sz), .ref (C 7), .ref (C 8), .int (nI ln), .int (nI pa), .ref (C 9), .int (nI (Fn G)), .ref (C 10), .int (nI (Fk G)), .ref (C 11), .int (nI (Fdd G)), .int (nI (Fh G)), .ref (C 12), .ref (C 13)])), ((C 11), .inl (Z 0, 16, .inl (fun j_ => nI ((updN (updN (rsN G) (2 * (Fk G)) a) ((2 * (Fk G)) + 1) b) j_))))]) (ws_c (rfl) (ws_c (cell_i (updN_eq _ _ _)) (rfl))) rfl rfl ?_
  refine G_aload_n (q := 27) dX10_tellsSaying_26 rfl 0 rfl rfl ?_
  refine G_dup (q := 28) dX10_tellsSaying_27 rfl rfl ?_
  refine G_get (q := 31) dX10_tellsSaying_28 0 rfl (show vwCl[10]? = some (RX10, TX10, 25) from rfl) 19 (by decide) in_X10_tellsSaying_X10 fl_X10_tellsSaying_73 rfl rfl ?_
  refine G_iconst (v := nI 1) (q := 32) dX10_tellsSaying_31 (by decide) rfl ?_
  refine G_iaddN (a := (Fk G)) (b := 1) (q := 33) dX10_tellsSaying_32 rfl ?_
  refine G_put (ws2 := [((C 0), .inr (10, [.int (nI (Fn E)), .ref (C 1), .int (nI (Fk E)), .ref (C 2), .int (nI (Fh E)), .ref (C 3), .ref (C 4), .int (nI ac), .ref (C 5), .int (nI kp), .ref (C 6), .int (nI sz), .ref (C 7), .ref (C 8), .int (nI ln), .int (nI pa), .ref (C 9), .int (nI (Fn G)), .ref (C 10), .int (nI ((Fk G) + 1)), .ref (C 11), .int (nI (Fdd G)), .int (nI (Fh G)), .ref (C 12), .ref (C 13)])), ((C 11), .inl (Z 0, 16, .inl (fun j_ => nI ((updN (updN (rsN G) (2 * (Fk G)) a) ((2 * (Fk G)) + 1) b) j_))))]) (q := 36) dX10_tellsSaying_33 0 rfl (show vwCl[10]? = some (RX10, TX10, 25) from rfl) cf_X10 19 (by decide) in_X10_tellsSaying_X10 fl_X10_tellsSaying_73 rfl (rfl) rfl (by simp only [List.length_cons, List.length_nil]; decide) rfl rfl ?_
  refine GG.of (ws2 := [((C 0), .inr (10, [.int (nI (Fn E)), .ref (C 1), .int (nI (Fk E)), .ref (C 2), .int (nI (Fh E)), .ref (C 3), .ref (C 4), .int (nI ac), .ref (C 5), .int (nI kp), .ref (C 6), .int (nI sz), .ref (C 7), .ref (C 8), .int (nI ln), .int (nI pa), .ref (C 9), .int (nI (Fn (addS2 G a b))), .ref (C 10), .int (nI (Fk (addS2 G a b))), .ref (C 11), .int (nI (Fdd (addS2 G a b))), .int (nI (Fh (addS2 G a b))), .ref (C 12), .ref (C 13)])), ((C 11), .inl (Z 0, 16, .inl (fun j_ => nI ((rsN (addS2 G a b)) j_))))]) (lv2 := [(0, .ref (C 0)), (1, .int (nI a)), (2, .int (nI b))]) (st2 := []) (ws_c (rfl) (ws_c (cell_n (rs_add hb)) (rfl))) (rfl) (rfl) ?_
  exact G_ret dX10_tellsSaying_36 rfl rfl ⟨rfl, rfl⟩
theorem cs_X10_settles : CS yX10_settles wsX10_settles cX10_settles 2 none 0 := ⟨⟨_, rfl⟩, by decide +kernel, by decide +kernel, by decide +kernel⟩
theorem fl_X10_settles_123 : Cond.fieldLink RX10 123 (TX10 2).1 (TX10 2).2.1 (TX10 2).2.2.1 ∈ wsX10_settles := by decide +kernel
theorem fl_X10_settles_126 : Cond.fieldLink RX10 126 (TX10 4).1 (TX10 4).2.1 (TX10 4).2.2.1 ∈ wsX10_settles := by decide +kernel
theorem fl_X10_settles_13 : Cond.fieldLink RX10 13 (TX10 3).1 (TX10 3).2.1 (TX10 3).2.2.1 ∈ wsX10_settles := by decide +kernel
theorem fl_X10_settles_133 : Cond.fieldLink RX10 133 (TX10 7).1 (TX10 7).2.1 (TX10 7).2.2.1 ∈ wsX10_settles := by decide +kernel
theorem fl_X10_settles_136 : Cond.fieldLink RX10 136 (TX10 9).1 (TX10 9).2.1 (TX10 9).2.2.1 ∈ wsX10_settles := by decide +kernel
theorem fl_X10_settles_139 : Cond.fieldLink RX10 139 (TX10 11).1 (TX10 11).2.1 (TX10 11).2.2.1 ∈ wsX10_settles := by decide +kernel
theorem fl_X10_settles_16 : Cond.fieldLink RX10 16 (TX10 5).1 (TX10 5).2.1 (TX10 5).2.2.1 ∈ wsX10_settles := by decide +kernel
theorem fl_X10_settles_19 : Cond.fieldLink RX10 19 (TX10 6).1 (TX10 6).2.1 (TX10 6).2.2.1 ∈ wsX10_settles := by decide +kernel
theorem fl_X10_settles_37 : Cond.fieldLink RX10 37 (TX10 18).1 (TX10 18).2.1 (TX10 18).2.2.1 ∈ wsX10_settles := by decide +kernel
theorem fl_X10_settles_40 : Cond.fieldLink RX10 40 (TX10 20).1 (TX10 20).2.1 (TX10 20).2.2.1 ∈ wsX10_settles := by decide +kernel
theorem fl_X10_settles_60 : Cond.fieldLink RX10 60 (TX10 21).1 (TX10 21).2.1 (TX10 21).2.2.1 ∈ wsX10_settles := by decide +kernel
theorem fl_X10_settles_64 : Cond.fieldLink RX10 64 (TX10 22).1 (TX10 22).2.1 (TX10 22).2.2.1 ∈ wsX10_settles := by decide +kernel
theorem fl_X10_settles_7 : Cond.fieldLink RX10 7 (TX10 1).1 (TX10 1).2.1 (TX10 1).2.2.1 ∈ wsX10_settles := by decide +kernel
theorem fl_X10_settles_70 : Cond.fieldLink RX10 70 (TX10 17).1 (TX10 17).2.1 (TX10 17).2.2.1 ∈ wsX10_settles := by decide +kernel
theorem fl_X10_settles_73 : Cond.fieldLink RX10 73 (TX10 19).1 (TX10 19).2.1 (TX10 19).2.2.1 ∈ wsX10_settles := by decide +kernel
theorem fl_X10_settles_76 : Cond.fieldLink RX10 76 (TX10 0).1 (TX10 0).2.1 (TX10 0).2.2.1 ∈ wsX10_settles := by decide +kernel
theorem in_X10_settles_X10 : ∀ w ∈ u_ws RX10 TX10 25, w ∈ wsX10_settles := by decide +kernel
set_option maxHeartbeats 4000000 in
set_option maxRecDepth 100000 in
theorem ct_X10_settles (Z : Nat → ClassId) (C : Nat → Nat) (E : FS) (G : FS) (sz : Nat) (ac : Nat) (kp : Nat) (ln : Nat) (pa : Nat) (R : QS) (R0 : QS) (hG : okF G): Ct false yX10_settles wsX10_settles ({ frames := 1, cells := 0, slots := 0, locals := 24 }) [.ref (C 0)] Z [((C 0), .inr (10, [.int (nI (Fn E)), .ref (C 1), .int (nI (Fk E)), .ref (C 2), .int (nI (Fh E)), .ref (C 3), .ref (C 4), .int (nI ac), .ref (C 5), .int (nI kp), .ref (C 6), .int (nI sz), .ref (C 7), .ref (C 8), .int (nI ln), .int (nI pa), .ref (C 9), .int (nI (Fn G)), .ref (C 10), .int (nI (Fk G)), .ref (C 11), .int (nI (Fdd G)), .int (nI (Fh G)), .ref (C 12), .ref (C 13)])), ((C 1), .inl (Z 0, 18, .inl (fun j_ => nI ((rrN E) j_)))), ((C 2), .inl (Z 0, 16, .inl (fun j_ => nI ((rsN E) j_)))), ((C 3), .inl (Z 0, 72, .inl (rwF R))), ((C 4), .inl (Z 0, 72, .inl (rwF R0))), ((C 10), .inl (Z 0, 18, .inl (fun j_ => nI ((rrN G) j_)))), ((C 11), .inl (Z 0, 16, .inl (fun j_ => nI ((rsN G) j_))))] (rV [((C 0), .inr (10, [.int (nI (Fn G)), .ref (C 1), .int (nI (Fk G)), .ref (C 2), .int (nI (Fh G)), .ref (C 3), .ref (C 4), .int (nI 0), .ref (C 5), .int (nI 0), .ref (C 6), .int (nI 0), .ref (C 7), .ref (C 8), .int (nI ln), .int (nI pa), .ref (C 9), .int (nI (Fn G)), .ref (C 10), .int (nI (Fk G)), .ref (C 11), .int (nI (Fdd G)), .int (nI (Fh G)), .ref (C 12), .ref (C 13)])), ((C 1), .inl (Z 0, 18, .inl (fun j_ => nI ((rrN G) j_)))), ((C 2), .inl (Z 0, 16, .inl (fun j_ => nI ((rsN G) j_)))), ((C 3), .inl (Z 0, 72, .inl (rwF (begQ G)))), ((C 4), .inl (Z 0, 72, .inl (rwF (begQ G)))), ((C 10), .inl (Z 0, 18, .inl (fun j_ => nI ((rrN G) j_)))), ((C 11), .inl (Z 0, 16, .inl (fun j_ => nI ((rsN G) j_))))]) 0 0 := by
  obtain ⟨gn, gk, gkd, gag, gml, gtp, gdd, gh⟩ := id hG
  refine Ct_of (cc := cX10_settles) (maxL := 2) (ret := none) (own := RX10) false false (by decide +kernel) rfl rfl (by decide) (fun v w h => by rw [h.1]; rfl) (Nat.le_of_ble_eq_true rfl) (fun X => ?_)
  show GG X _ _ _ _ _ _ _ _ _ _ _ _ _ _ [(0, .ref (C 0))] _ _
  refine G_aload_n (q := 1) dX10_settles_0 rfl 0 rfl rfl ?_
  refine G_aload_n (q := 2) dX10_settles_1 rfl 0 rfl rfl ?_
  refine G_get (q := 5) dX10_settles_2 0 rfl (show vwCl[10]? = some (RX10, TX10, 25) from rfl) 17 (by decide) in_X10_settles_X10 fl_X10_settles_70 rfl rfl ?_
  refine G_put (ws2 := [((C 0), .inr (10, [.int (nI (Fn G)), .ref (C 1), .int (nI (Fk E)), .ref (C 2), .int (nI (Fh E)), .ref (C 3), .ref (C 4), .int (nI ac), .ref (C 5), .int (nI kp), .ref (C 6), .int (nI sz), .ref (C 7), .ref (C 8), .int (nI ln), .int (nI pa), .ref (C 9), .int (nI (Fn G)), .ref (C 10), .int (nI (Fk G)), .ref (C 11), .int (nI (Fdd G)), .int (nI (Fh G)), .ref (C 12), .ref (C 13)])), ((C 1), .inl (Z 0, 18, .inl (fun j_ => nI ((rrN E) j_)))), ((C 2), .inl (Z 0, 16, .inl (fun j_ => nI ((rsN E) j_)))), ((C 3), .inl (Z 0, 72, .inl (rwF R))), ((C 4), .inl (Z 0, 72, .inl (rwF R0))), ((C 10), .inl (Z 0, 18, .inl (fun j_ => nI ((rrN G) j_)))), ((C 11), .inl (Z 0, 16, .inl (fun j_ => nI ((rsN G) j_))))]) (q := 8) dX10_settles_5 0 rfl (show vwCl[10]? = some (RX10, TX10, 25) from rfl) cf_X10 0 (by decide) in_X10_settles_X10 fl_X10_settles_76 rfl (rfl) rfl (by simp only [List.length_cons, List.length_nil]; decide) rfl rfl ?_
  refine G_aload_n (q := 9) dX10_settles_8 rfl 0 rfl rfl ?_
  refine G_aload_n (q := 10) dX10_settles_9 rfl 0 rfl rfl ?_
  refine G_get (q := 13) dX10_settles_10 0 rfl (show vwCl[10]? = some (RX10, TX10, 25) from rfl) 19 (by decide) in_X10_settles_X10 fl_X10_settles_73 rfl rfl ?_
  refine G_put (ws2 := [((C 0), .inr (10, [.int (nI (Fn G)), .ref (C 1), .int (nI (Fk G)), .ref (C 2), .int (nI (Fh E)), .ref (C 3), .ref (C 4), .int (nI ac), .ref (C 5), .int (nI kp), .ref (C 6), .int (nI sz), .ref (C 7), .ref (C 8), .int (nI ln), .int (nI pa), .ref (C 9), .int (nI (Fn G)), .ref (C 10), .int (nI (Fk G)), .ref (C 11), .int (nI (Fdd G)), .int (nI (Fh G)), .ref (C 12), .ref (C 13)])), ((C 1), .inl (Z 0, 18, .inl (fun j_ => nI ((rrN E) j_)))), ((C 2), .inl (Z 0, 16, .inl (fun j_ => nI ((rsN E) j_)))), ((C 3), .inl (Z 0, 72, .inl (rwF R))), ((C 4), .inl (Z 0, 72, .inl (rwF R0))), ((C 10), .inl (Z 0, 18, .inl (fun j_ => nI ((rrN G) j_)))), ((C 11), .inl (Z 0, 16, .inl (fun j_ => nI ((rsN G) j_))))]) (q := 16) dX10_settles_13 0 rfl (show vwCl[10]? = some (RX10, TX10, 25) from rfl) cf_X10 2 (by decide) in_X10_settles_X10 fl_X10_settles_123 rfl (rfl) rfl (by simp only [List.length_cons, List.length_nil]; decide) rfl rfl ?_
  refine G_aload_n (q := 17) dX10_settles_16 rfl 0 rfl rfl ?_
  refine G_aload_n (q := 18) dX10_settles_17 rfl 0 rfl rfl ?_
  refine G_get (q := 21) dX10_settles_18 0 rfl (show vwCl[10]? = some (RX10, TX10, 25) from rfl) 22 (by decide) in_X10_settles_X10 fl_X10_settles_64 rfl rfl ?_
  refine G_put (ws2 := [((C 0), .inr (10, [.int (nI (Fn G)), .ref (C 1), .int (nI (Fk G)), .ref (C 2), .int (nI (Fh G)), .ref (C 3), .ref (C 4), .int (nI ac), .ref (C 5), .int (nI kp), .ref (C 6), .int (nI sz), .ref (C 7), .ref (C 8), .int (nI ln), .int (nI pa), .ref (C 9), .int (nI (Fn G)), .ref (C 10), .int (nI (Fk G)), .ref (C 11), .int (nI (Fdd G)), .int (nI (Fh G)), .ref (C 12), .ref (C 13)])), ((C 1), .inl (Z 0, 18, .inl (fun j_ => nI ((rrN E) j_)))), ((C 2), .inl (Z 0, 16, .inl (fun j_ => nI ((rsN E) j_)))), ((C 3), .inl (Z 0, 72, .inl (rwF R))), ((C 4), .inl (Z 0, 72, .inl (rwF R0))), ((C 10), .inl (Z 0, 18, .inl (fun j_ => nI ((rrN G) j_)))), ((C 11), .inl (Z 0, 16, .inl (fun j_ => nI ((rsN G) j_))))]) (q := 24) dX10_settles_21 0 rfl (show vwCl[10]? = some (RX10, TX10, 25) from rfl) cf_X10 4 (by decide) in_X10_settles_X10 fl_X10_settles_126 rfl (rfl) rfl (by simp only [List.length_cons, List.length_nil]; decide) rfl rfl ?_
  refine G_aload_n (q := 25) dX10_settles_24 rfl 0 rfl rfl ?_
  refine G_get (q := 28) dX10_settles_25 0 rfl (show vwCl[10]? = some (RX10, TX10, 25) from rfl) 1 (by decide) in_X10_settles_X10 fl_X10_settles_7 rfl rfl ?_
  refine G_iconst (v := nI 0) (q := 29) dX10_settles_28 (by decide) rfl ?_
  refine G_aload_n (q := 30) dX10_settles_29 rfl 0 rfl rfl ?_
  refine G_get (q := 33) dX10_settles_30 0 rfl (show vwCl[10]? = some (RX10, TX10, 25) from rfl) 18 (by decide) in_X10_settles_X10 fl_X10_settles_37 rfl rfl ?_
  refine G_bipush (v := nI 18) (q := 35) dX10_settles_33 (by decide) rfl ?_
  refine G_callSX (As := [.ref (C 1), .int (nI 0), .ref (C 10), .int (nI 18)]) (rest := []) (st2 := []) (ws2 := [((C 0), .inr (10, [.int (nI (Fn G)), .ref (C 1), .int (nI (Fk G)), .ref (C 2), .int (nI (Fh G)), .ref (C 3), .ref (C 4), .int (nI ac), .ref (C 5), .int (nI kp), .ref (C 6), .int (nI sz), .ref (C 7), .ref (C 8), .int (nI ln), .int (nI pa), .ref (C 9), .int (nI (Fn G)), .ref (C 10), .int (nI (Fk G)), .ref (C 11), .int (nI (Fdd G)), .int (nI (Fh G)), .ref (C 12), .ref (C 13)])), ((C 1), .inl (Z 0, 18, .inl (puF (fun j_ => nI ((rrN E) j_)) (fun j_ => nI ((rrN G) j_)) 0 18))), ((C 2), .inl (Z 0, 16, .inl (fun j_ => nI ((rsN E) j_)))), ((C 3), .inl (Z 0, 72, .inl (rwF R))), ((C 4), .inl (Z 0, 72, .inl (rwF R0))), ((C 10), .inl (Z 0, 18, .inl (fun j_ => nI ((rrN G) j_)))), ((C 11), .inl (Z 0, 16, .inl (fun j_ => nI ((rsN G) j_))))]) (q := 38) dX10_settles_35 [1, 5] (ct_X10_put Z (C 1) (C 10) 18 18 (fun j_ => nI ((rrN E) j_)) (fun j_ => nI ((rrN G) j_)) 0 18 (by decide)) (fun h => h) cs_X10_put gX10_settles_X10_put ⟨Nat.le_of_ble_eq_true rfl, Nat.le_of_ble_eq_true rfl⟩ ⟨rfl, rfl⟩ rfl (by decide) rfl rfl (Nat.le_of_ble_eq_true rfl) ⟨by decide, by decide⟩ rfl rfl rfl rfl ?_
  refine GG.alike (ws2 := [((C 0), .inr (10, [.int (nI (Fn G)), .ref (C 1), .int (nI (Fk G)), .ref (C 2), .int (nI (Fh G)), .ref (C 3), .ref (C 4), .int (nI ac), .ref (C 5), .int (nI kp), .ref (C 6), .int (nI sz), .ref (C 7), .ref (C 8), .int (nI ln), .int (nI pa), .ref (C 9), .int (nI (Fn G)), .ref (C 10), .int (nI (Fk G)), .ref (C 11), .int (nI (Fdd G)), .int (nI (Fh G)), .ref (C 12), .ref (C 13)])), ((C 1), .inl (Z 0, 18, .inl (fun j_ => nI ((rrN G) j_)))), ((C 2), .inl (Z 0, 16, .inl (fun j_ => nI ((rsN E) j_)))), ((C 3), .inl (Z 0, 72, .inl (rwF R))), ((C 4), .inl (Z 0, 72, .inl (rwF R0))), ((C 10), .inl (Z 0, 18, .inl (fun j_ => nI ((rrN G) j_)))), ((C 11), .inl (Z 0, 16, .inl (fun j_ => nI ((rsN G) j_))))]) ⟨ceq.rf, ⟨ceq.arr (fun j hj => pu_all hj), ⟨ceq.rf, ⟨ceq.rf, ⟨ceq.rf, ⟨ceq.rf, ⟨ceq.rf, trivial⟩⟩⟩⟩⟩⟩⟩ ?_
  refine G_aload_n (q := 39) dX10_settles_38 rfl 0 rfl rfl ?_
  refine G_get (q := 42) dX10_settles_39 0 rfl (show vwCl[10]? = some (RX10, TX10, 25) from rfl) 3 (by decide) in_X10_settles_X10 fl_X10_settles_13 rfl rfl ?_
  refine G_iconst (v := nI 0) (q := 43) dX10_settles_42 (by decide) rfl ?_
  refine G_aload_n (q := 44) dX10_settles_43 rfl 0 rfl rfl ?_
  refine G_get (q := 47) dX10_settles_44 0 rfl (show vwCl[10]? = some (RX10, TX10, 25) from rfl) 20 (by decide) in_X10_settles_X10 fl_X10_settles_40 rfl rfl ?_
  refine G_bipush (v := nI 16) (q := 49) dX10_settles_47 (by decide) rfl ?_
  refine G_callSX (As := [.ref (C 2), .int (nI 0), .ref (C 11), .int (nI 16)]) (rest := []) (st2 := []) (ws2 := [((C 0), .inr (10, [.int (nI (Fn G)), .ref (C 1), .int (nI (Fk G)), .ref (C 2), .int (nI (Fh G)), .ref (C 3), .ref (C 4), .int (nI ac), .ref (C 5), .int (nI kp), .ref (C 6), .int (nI sz), .ref (C 7), .ref (C 8), .int (nI ln), .int (nI pa), .ref (C 9), .int (nI (Fn G)), .ref (C 10), .int (nI (Fk G)), .ref (C 11), .int (nI (Fdd G)), .int (nI (Fh G)), .ref (C 12), .ref (C 13)])), ((C 1), .inl (Z 0, 18, .inl (fun j_ => nI ((rrN G) j_)))), ((C 2), .inl (Z 0, 16, .inl (puF (fun j_ => nI ((rsN E) j_)) (fun j_ => nI ((rsN G) j_)) 0 16))), ((C 3), .inl (Z 0, 72, .inl (rwF R))), ((C 4), .inl (Z 0, 72, .inl (rwF R0))), ((C 10), .inl (Z 0, 18, .inl (fun j_ => nI ((rrN G) j_)))), ((C 11), .inl (Z 0, 16, .inl (fun j_ => nI ((rsN G) j_))))]) (q := 52) dX10_settles_49 [2, 6] (ct_X10_put Z (C 2) (C 11) 16 16 (fun j_ => nI ((rsN E) j_)) (fun j_ => nI ((rsN G) j_)) 0 16 (by decide)) (fun h => h) cs_X10_put gX10_settles_X10_put ⟨Nat.le_of_ble_eq_true rfl, Nat.le_of_ble_eq_true rfl⟩ ⟨rfl, rfl⟩ rfl (by decide) rfl rfl (Nat.le_of_ble_eq_true rfl) ⟨by decide, by decide⟩ rfl rfl rfl rfl ?_
  refine GG.alike (ws2 := [((C 0), .inr (10, [.int (nI (Fn G)), .ref (C 1), .int (nI (Fk G)), .ref (C 2), .int (nI (Fh G)), .ref (C 3), .ref (C 4), .int (nI ac), .ref (C 5), .int (nI kp), .ref (C 6), .int (nI sz), .ref (C 7), .ref (C 8), .int (nI ln), .int (nI pa), .ref (C 9), .int (nI (Fn G)), .ref (C 10), .int (nI (Fk G)), .ref (C 11), .int (nI (Fdd G)), .int (nI (Fh G)), .ref (C 12), .ref (C 13)])), ((C 1), .inl (Z 0, 18, .inl (fun j_ => nI ((rrN G) j_)))), ((C 2), .inl (Z 0, 16, .inl (fun j_ => nI ((rsN G) j_)))), ((C 3), .inl (Z 0, 72, .inl (rwF R))), ((C 4), .inl (Z 0, 72, .inl (rwF R0))), ((C 10), .inl (Z 0, 18, .inl (fun j_ => nI ((rrN G) j_)))), ((C 11), .inl (Z 0, 16, .inl (fun j_ => nI ((rsN G) j_))))]) ⟨ceq.rf, ⟨ceq.rf, ⟨ceq.arr (fun j hj => pu_all hj), ⟨ceq.rf, ⟨ceq.rf, ⟨ceq.rf, ⟨ceq.rf, trivial⟩⟩⟩⟩⟩⟩⟩ ?_
  refine G_iconst (v := nI 0) (q := 53) dX10_settles_52 (by decide) rfl ?_
  refine G_istore_n (lv2 := [(0, .ref (C 0)), (1, .int (nI 0))]) (q := 54) dX10_settles_53 rfl (by decide) rfl rfl ?_
  have L54_1 : ∀ fu1 i : Nat, i ≤ 72 → 72 + 1 ≤ i + fu1 → GG X ({ frames := 1, cells := 0, slots := 0, locals := 24 }) cX10_settles 2 wsX10_settles RX10 false false Z (rV [((C 0), .inr (10, [.int (nI (Fn G)), .ref (C 1), .int (nI (Fk G)), .ref (C 2), .int (nI (Fh G)), .ref (C 3), .ref (C 4), .int (nI 0), .ref (C 5), .int (nI 0), .ref (C 6), .int (nI 0), .ref (C 7), .ref (C 8), .int (nI ln), .int (nI pa), .ref (C 9), .int (nI (Fn G)), .ref (C 10), .int (nI (Fk G)), .ref (C 11), .int (nI (Fdd G)), .int (nI (Fh G)), .ref (C 12), .ref (C 13)])), ((C 1), .inl (Z 0, 18, .inl (fun j_ => nI ((rrN G) j_)))), ((C 2), .inl (Z 0, 16, .inl (fun j_ => nI ((rsN G) j_)))), ((C 3), .inl (Z 0, 72, .inl (rwF (begQ G)))), ((C 4), .inl (Z 0, 72, .inl (rwF (begQ G)))), ((C 10), .inl (Z 0, 18, .inl (fun j_ => nI ((rrN G) j_)))), ((C 11), .inl (Z 0, 16, .inl (fun j_ => nI ((rsN G) j_))))]) 0 0 0 0 [((C 0), .inr (10, [.int (nI (Fn G)), .ref (C 1), .int (nI (Fk G)), .ref (C 2), .int (nI (Fh G)), .ref (C 3), .ref (C 4), .int (nI ac), .ref (C 5), .int (nI kp), .ref (C 6), .int (nI sz), .ref (C 7), .ref (C 8), .int (nI ln), .int (nI pa), .ref (C 9), .int (nI (Fn G)), .ref (C 10), .int (nI (Fk G)), .ref (C 11), .int (nI (Fdd G)), .int (nI (Fh G)), .ref (C 12), .ref (C 13)])), ((C 1), .inl (Z 0, 18, .inl (fun j_ => nI ((rrN G) j_)))), ((C 2), .inl (Z 0, 16, .inl (fun j_ => nI ((rsN G) j_)))), ((C 3), .inl (Z 0, 72, .inl (fillF (fun _ => nI 0) (rwF R) i))), ((C 4), .inl (Z 0, 72, .inl (rwF R0))), ((C 10), .inl (Z 0, 18, .inl (fun j_ => nI ((rrN G) j_)))), ((C 11), .inl (Z 0, 16, .inl (fun j_ => nI ((rsN G) j_))))] [(0, .ref (C 0)), (1, .int (nI i))] [] 54 := by
    intro fu1
    induction fu1 with
    | zero => intro i q1 q2; exact absurd q2 (by omega)
    | succ fu1 ih1 =>
      intro i hi1 hf1  
      refine G_iload_n (q := 55) dX10_settles_54 rfl 1 rfl rfl ?_
      refine G_bipush (v := nI 72) (q := 57) dX10_settles_55 (by decide) rfl ?_
      refine G_icmp_geN (tgt := 73) (q := 60) dX10_settles_57 (by decide) rfl (by omega) (by omega) (fun c57 => ?_) (fun c57 => ?_)
      · have e9 : i = 72 := by omega
        subst e9
        refine GG.alike (ws2 := [((C 0), .inr (10, [.int (nI (Fn G)), .ref (C 1), .int (nI (Fk G)), .ref (C 2), .int (nI (Fh G)), .ref (C 3), .ref (C 4), .int (nI ac), .ref (C 5), .int (nI kp), .ref (C 6), .int (nI sz), .ref (C 7), .ref (C 8), .int (nI ln), .int (nI pa), .ref (C 9), .int (nI (Fn G)), .ref (C 10), .int (nI (Fk G)), .ref (C 11), .int (nI (Fdd G)), .int (nI (Fh G)), .ref (C 12), .ref (C 13)])), ((C 1), .inl (Z 0, 18, .inl (fun j_ => nI ((rrN G) j_)))), ((C 2), .inl (Z 0, 16, .inl (fun j_ => nI ((rsN G) j_)))), ((C 3), .inl (Z 0, 72, .inl (rwF zeQ))), ((C 4), .inl (Z 0, 72, .inl (rwF R0))), ((C 10), .inl (Z 0, 18, .inl (fun j_ => nI ((rrN G) j_)))), ((C 11), .inl (Z 0, 16, .inl (fun j_ => nI ((rsN G) j_))))]) ⟨ceq.rf, ⟨ceq.rf, ⟨ceq.rf, ⟨ceq.arr (fun j hj => by rw [rw_ze]; unfold fillF; rw [if_pos hj]), ⟨ceq.rf, ⟨ceq.rf, ⟨ceq.rf, trivial⟩⟩⟩⟩⟩⟩⟩ ?_
        refine G_aload_n (q := 74) dX10_settles_73 rfl 0 rfl rfl ?_
        refine G_get (q := 77) dX10_settles_74 0 rfl (show vwCl[10]? = some (RX10, TX10, 25) from rfl) 5 (by decide) in_X10_settles_X10 fl_X10_settles_16 rfl rfl ?_
        refine G_iconst (v := nI 1) (q := 78) dX10_settles_77 (by decide) rfl ?_
        refine G_iconst (v := -1) (q := 79) dX10_settles_78 (by decide) rfl ?_
        refine G_iast (ws2 := [((C 0), .inr (10, [.int (nI (Fn G)), .ref (C 1), .int (nI (Fk G)), .ref (C 2), .int (nI (Fh G)), .ref (C 3), .ref (C 4), .int (nI ac), .ref (C 5), .int (nI kp), .ref (C 6), .int (nI sz), .ref (C 7), .ref (C 8), .int (nI ln), .int (nI pa), .ref (C 9), .int (nI (Fn G)), .ref (C 10), .int (nI (Fk G)), .ref (C 11), .int (nI (Fdd G)), .int (nI (Fh G)), .ref (C 12), .ref (C 13)])), ((C 1), .inl (Z 0, 18, .inl (fun j_ => nI ((rrN G) j_)))), ((C 2), .inl (Z 0, 16, .inl (fun j_ => nI ((rsN G) j_)))), ((C 3), .inl (Z 0, 72, .inl (upd (rwF zeQ) 1 (-1)))), ((C 4), .inl (Z 0, 72, .inl (rwF R0))), ((C 10), .inl (Z 0, 18, .inl (fun j_ => nI ((rrN G) j_)))), ((C 11), .inl (Z 0, 16, .inl (fun j_ => nI ((rsN G) j_))))]) (q := 80) dX10_settles_79 3 rfl 1 (rfl) (by omega) (by omega) rfl rfl ?_
        refine GG.of (ws2 := [((C 0), .inr (10, [.int (nI (Fn G)), .ref (C 1), .int (nI (Fk G)), .ref (C 2), .int (nI (Fh G)), .ref (C 3), .ref (C 4), .int (nI ac), .ref (C 5), .int (nI kp), .ref (C 6), .int (nI sz), .ref (C 7), .ref (C 8), .int (nI ln), .int (nI pa), .ref (C 9), .int (nI (Fn G)), .ref (C 10), .int (nI (Fk G)), .ref (C 11), .int (nI (Fdd G)), .int (nI (Fh G)), .ref (C 12), .ref (C 13)])), ((C 1), .inl (Z 0, 18, .inl (fun j_ => nI ((rrN G) j_)))), ((C 2), .inl (Z 0, 16, .inl (fun j_ => nI ((rsN G) j_)))), ((C 3), .inl (Z 0, 72, .inl (rwF (sQo zeQ (-1))))), ((C 4), .inl (Z 0, 72, .inl (rwF R0))), ((C 10), .inl (Z 0, 18, .inl (fun j_ => nI ((rrN G) j_)))), ((C 11), .inl (Z 0, 16, .inl (fun j_ => nI ((rsN G) j_))))]) (ws_c (rfl) (ws_c (rfl) (ws_c (rfl) (ws_c (cell_i (up_o _)) (ws_c (rfl) (ws_c (rfl) (ws_c (rfl) (rfl)))))))) rfl rfl ?_
        refine G_aload_n (q := 81) dX10_settles_80 rfl 0 rfl rfl ?_
        refine G_get (q := 84) dX10_settles_81 0 rfl (show vwCl[10]? = some (RX10, TX10, 25) from rfl) 5 (by decide) in_X10_settles_X10 fl_X10_settles_16 rfl rfl ?_
        refine G_iconst (v := nI 2) (q := 85) dX10_settles_84 (by decide) rfl ?_
        refine G_aload_n (q := 86) dX10_settles_85 rfl 0 rfl rfl ?_
        refine G_get (q := 89) dX10_settles_86 0 rfl (show vwCl[10]? = some (RX10, TX10, 25) from rfl) 21 (by decide) in_X10_settles_X10 fl_X10_settles_60 rfl rfl ?_
        refine G_iast (ws2 := [((C 0), .inr (10, [.int (nI (Fn G)), .ref (C 1), .int (nI (Fk G)), .ref (C 2), .int (nI (Fh G)), .ref (C 3), .ref (C 4), .int (nI ac), .ref (C 5), .int (nI kp), .ref (C 6), .int (nI sz), .ref (C 7), .ref (C 8), .int (nI ln), .int (nI pa), .ref (C 9), .int (nI (Fn G)), .ref (C 10), .int (nI (Fk G)), .ref (C 11), .int (nI (Fdd G)), .int (nI (Fh G)), .ref (C 12), .ref (C 13)])), ((C 1), .inl (Z 0, 18, .inl (fun j_ => nI ((rrN G) j_)))), ((C 2), .inl (Z 0, 16, .inl (fun j_ => nI ((rsN G) j_)))), ((C 3), .inl (Z 0, 72, .inl (upd (rwF (sQo zeQ (-1))) 2 (nI (Fdd G))))), ((C 4), .inl (Z 0, 72, .inl (rwF R0))), ((C 10), .inl (Z 0, 18, .inl (fun j_ => nI ((rrN G) j_)))), ((C 11), .inl (Z 0, 16, .inl (fun j_ => nI ((rsN G) j_))))]) (q := 90) dX10_settles_89 3 rfl 2 (rfl) (by omega) (by omega) rfl rfl ?_
        refine GG.of (ws2 := [((C 0), .inr (10, [.int (nI (Fn G)), .ref (C 1), .int (nI (Fk G)), .ref (C 2), .int (nI (Fh G)), .ref (C 3), .ref (C 4), .int (nI ac), .ref (C 5), .int (nI kp), .ref (C 6), .int (nI sz), .ref (C 7), .ref (C 8), .int (nI ln), .int (nI pa), .ref (C 9), .int (nI (Fn G)), .ref (C 10), .int (nI (Fk G)), .ref (C 11), .int (nI (Fdd G)), .int (nI (Fh G)), .ref (C 12), .ref (C 13)])), ((C 1), .inl (Z 0, 18, .inl (fun j_ => nI ((rrN G) j_)))), ((C 2), .inl (Z 0, 16, .inl (fun j_ => nI ((rsN G) j_)))), ((C 3), .inl (Z 0, 72, .inl (rwF (sQe (sQo zeQ (-1)) (Fdd G))))), ((C 4), .inl (Z 0, 72, .inl (rwF R0))), ((C 10), .inl (Z 0, 18, .inl (fun j_ => nI ((rrN G) j_)))), ((C 11), .inl (Z 0, 16, .inl (fun j_ => nI ((rsN G) j_))))]) (ws_c (rfl) (ws_c (rfl) (ws_c (rfl) (ws_c (cell_i (up_e _)) (ws_c (rfl) (ws_c (rfl) (ws_c (rfl) (rfl)))))))) rfl rfl ?_
        refine G_iconst (v := nI 0) (q := 91) dX10_settles_90 (by decide) rfl ?_
        refine G_istore_n (lv2 := [(0, .ref (C 0)), (1, .int (nI 0))]) (q := 92) dX10_settles_91 rfl (by decide) rfl rfl ?_
        have L92_2 : ∀ fu2 i : Nat, i ≤ (Fn G) → (Fn G) + 1 ≤ i + fu2 → GG X ({ frames := 1, cells := 0, slots := 0, locals := 24 }) cX10_settles 2 wsX10_settles RX10 false false Z (rV [((C 0), .inr (10, [.int (nI (Fn G)), .ref (C 1), .int (nI (Fk G)), .ref (C 2), .int (nI (Fh G)), .ref (C 3), .ref (C 4), .int (nI 0), .ref (C 5), .int (nI 0), .ref (C 6), .int (nI 0), .ref (C 7), .ref (C 8), .int (nI ln), .int (nI pa), .ref (C 9), .int (nI (Fn G)), .ref (C 10), .int (nI (Fk G)), .ref (C 11), .int (nI (Fdd G)), .int (nI (Fh G)), .ref (C 12), .ref (C 13)])), ((C 1), .inl (Z 0, 18, .inl (fun j_ => nI ((rrN G) j_)))), ((C 2), .inl (Z 0, 16, .inl (fun j_ => nI ((rsN G) j_)))), ((C 3), .inl (Z 0, 72, .inl (rwF (begQ G)))), ((C 4), .inl (Z 0, 72, .inl (rwF (begQ G)))), ((C 10), .inl (Z 0, 18, .inl (fun j_ => nI ((rrN G) j_)))), ((C 11), .inl (Z 0, 16, .inl (fun j_ => nI ((rsN G) j_))))]) 0 0 0 0 [((C 0), .inr (10, [.int (nI (Fn G)), .ref (C 1), .int (nI (Fk G)), .ref (C 2), .int (nI (Fh G)), .ref (C 3), .ref (C 4), .int (nI ac), .ref (C 5), .int (nI kp), .ref (C 6), .int (nI sz), .ref (C 7), .ref (C 8), .int (nI ln), .int (nI pa), .ref (C 9), .int (nI (Fn G)), .ref (C 10), .int (nI (Fk G)), .ref (C 11), .int (nI (Fdd G)), .int (nI (Fh G)), .ref (C 12), .ref (C 13)])), ((C 1), .inl (Z 0, 18, .inl (fun j_ => nI ((rrN G) j_)))), ((C 2), .inl (Z 0, 16, .inl (fun j_ => nI ((rsN G) j_)))), ((C 3), .inl (Z 0, 72, .inl (rwF (begK G i)))), ((C 4), .inl (Z 0, 72, .inl (rwF R0))), ((C 10), .inl (Z 0, 18, .inl (fun j_ => nI ((rrN G) j_)))), ((C 11), .inl (Z 0, 16, .inl (fun j_ => nI ((rsN G) j_))))] [(0, .ref (C 0)), (1, .int (nI i))] [] 92 := by
          intro fu2
          induction fu2 with
          | zero => intro i q1 q2; exact absurd q2 (by omega)
          | succ fu2 ih2 =>
            intro i hi2 hf2  
            refine G_iload_n (q := 93) dX10_settles_92 rfl 1 rfl rfl ?_
            refine G_aload_n (q := 94) dX10_settles_93 rfl 0 rfl rfl ?_
            refine G_get (q := 97) dX10_settles_94 0 rfl (show vwCl[10]? = some (RX10, TX10, 25) from rfl) 0 (by decide) in_X10_settles_X10 fl_X10_settles_76 rfl rfl ?_
            refine G_icmp_geN (tgt := 126) (q := 100) dX10_settles_97 (by decide) rfl (by omega) (by omega) (fun c97 => ?_) (fun c97 => ?_)
            · have e9 : Fn G = i := by omega
              subst e9
              refine G_aload_n (q := 127) dX10_settles_126 rfl 0 rfl rfl ?_
              refine G_get (q := 130) dX10_settles_127 0 rfl (show vwCl[10]? = some (RX10, TX10, 25) from rfl) 6 (by decide) in_X10_settles_X10 fl_X10_settles_19 rfl rfl ?_
              refine G_iconst (v := nI 0) (q := 131) dX10_settles_130 (by decide) rfl ?_
              refine G_aload_n (q := 132) dX10_settles_131 rfl 0 rfl rfl ?_
              refine G_get (q := 135) dX10_settles_132 0 rfl (show vwCl[10]? = some (RX10, TX10, 25) from rfl) 5 (by decide) in_X10_settles_X10 fl_X10_settles_16 rfl rfl ?_
              refine G_bipush (v := nI 72) (q := 137) dX10_settles_135 (by decide) rfl ?_
              refine G_callSX (As := [.ref (C 4), .int (nI 0), .ref (C 3), .int (nI 72)]) (rest := []) (st2 := []) (ws2 := [((C 0), .inr (10, [.int (nI (Fn G)), .ref (C 1), .int (nI (Fk G)), .ref (C 2), .int (nI (Fh G)), .ref (C 3), .ref (C 4), .int (nI ac), .ref (C 5), .int (nI kp), .ref (C 6), .int (nI sz), .ref (C 7), .ref (C 8), .int (nI ln), .int (nI pa), .ref (C 9), .int (nI (Fn G)), .ref (C 10), .int (nI (Fk G)), .ref (C 11), .int (nI (Fdd G)), .int (nI (Fh G)), .ref (C 12), .ref (C 13)])), ((C 1), .inl (Z 0, 18, .inl (fun j_ => nI ((rrN G) j_)))), ((C 2), .inl (Z 0, 16, .inl (fun j_ => nI ((rsN G) j_)))), ((C 3), .inl (Z 0, 72, .inl (rwF (begK G (Fn G))))), ((C 4), .inl (Z 0, 72, .inl (puF (rwF R0) (rwF (begK G (Fn G))) 0 72))), ((C 10), .inl (Z 0, 18, .inl (fun j_ => nI ((rrN G) j_)))), ((C 11), .inl (Z 0, 16, .inl (fun j_ => nI ((rsN G) j_))))]) (q := 140) dX10_settles_137 [4, 3] (ct_X10_put Z (C 4) (C 3) 72 72 (rwF R0) (rwF (begK G (Fn G))) 0 72 (by decide)) (fun h => h) cs_X10_put gX10_settles_X10_put ⟨Nat.le_of_ble_eq_true rfl, Nat.le_of_ble_eq_true rfl⟩ ⟨rfl, rfl⟩ rfl (by decide) rfl rfl (Nat.le_of_ble_eq_true rfl) ⟨by decide, by decide⟩ rfl rfl rfl rfl ?_
              refine GG.alike (ws2 := [((C 0), .inr (10, [.int (nI (Fn G)), .ref (C 1), .int (nI (Fk G)), .ref (C 2), .int (nI (Fh G)), .ref (C 3), .ref (C 4), .int (nI ac), .ref (C 5), .int (nI kp), .ref (C 6), .int (nI sz), .ref (C 7), .ref (C 8), .int (nI ln), .int (nI pa), .ref (C 9), .int (nI (Fn G)), .ref (C 10), .int (nI (Fk G)), .ref (C 11), .int (nI (Fdd G)), .int (nI (Fh G)), .ref (C 12), .ref (C 13)])), ((C 1), .inl (Z 0, 18, .inl (fun j_ => nI ((rrN G) j_)))), ((C 2), .inl (Z 0, 16, .inl (fun j_ => nI ((rsN G) j_)))), ((C 3), .inl (Z 0, 72, .inl (rwF (begK G (Fn G))))), ((C 4), .inl (Z 0, 72, .inl (rwF (begK G (Fn G))))), ((C 10), .inl (Z 0, 18, .inl (fun j_ => nI ((rrN G) j_)))), ((C 11), .inl (Z 0, 16, .inl (fun j_ => nI ((rsN G) j_))))]) ⟨ceq.rf, ⟨ceq.rf, ⟨ceq.rf, ⟨ceq.rf, ⟨ceq.arr (fun j hj => pu_all hj), ⟨ceq.rf, ⟨ceq.rf, trivial⟩⟩⟩⟩⟩⟩⟩ ?_
              refine G_aload_n (q := 141) dX10_settles_140 rfl 0 rfl rfl ?_
              refine G_iconst (v := nI 0) (q := 142) dX10_settles_141 (by decide) rfl ?_
              refine G_put (ws2 := [((C 0), .inr (10, [.int (nI (Fn G)), .ref (C 1), .int (nI (Fk G)), .ref (C 2), .int (nI (Fh G)), .ref (C 3), .ref (C 4), .int (nI 0), .ref (C 5), .int (nI kp), .ref (C 6), .int (nI sz), .ref (C 7), .ref (C 8), .int (nI ln), .int (nI pa), .ref (C 9), .int (nI (Fn G)), .ref (C 10), .int (nI (Fk G)), .ref (C 11), .int (nI (Fdd G)), .int (nI (Fh G)), .ref (C 12), .ref (C 13)])), ((C 1), .inl (Z 0, 18, .inl (fun j_ => nI ((rrN G) j_)))), ((C 2), .inl (Z 0, 16, .inl (fun j_ => nI ((rsN G) j_)))), ((C 3), .inl (Z 0, 72, .inl (rwF (begK G (Fn G))))), ((C 4), .inl (Z 0, 72, .inl (rwF (begK G (Fn G))))), ((C 10), .inl (Z 0, 18, .inl (fun j_ => nI ((rrN G) j_)))), ((C 11), .inl (Z 0, 16, .inl (fun j_ => nI ((rsN G) j_))))]) (q := 145) dX10_settles_142 0 rfl (show vwCl[10]? = some (RX10, TX10, 25) from rfl) cf_X10 7 (by decide) in_X10_settles_X10 fl_X10_settles_133 rfl (rfl) rfl (by simp only [List.length_cons, List.length_nil]; decide) rfl rfl ?_
              refine G_aload_n (q := 146) dX10_settles_145 rfl 0 rfl rfl ?_
              refine G_iconst (v := nI 0) (q := 147) dX10_settles_146 (by decide) rfl ?_
              refine G_put (ws2 := [((C 0), .inr (10, [.int (nI (Fn G)), .ref (C 1), .int (nI (Fk G)), .ref (C 2), .int (nI (Fh G)), .ref (C 3), .ref (C 4), .int (nI 0), .ref (C 5), .int (nI 0), .ref (C 6), .int (nI sz), .ref (C 7), .ref (C 8), .int (nI ln), .int (nI pa), .ref (C 9), .int (nI (Fn G)), .ref (C 10), .int (nI (Fk G)), .ref (C 11), .int (nI (Fdd G)), .int (nI (Fh G)), .ref (C 12), .ref (C 13)])), ((C 1), .inl (Z 0, 18, .inl (fun j_ => nI ((rrN G) j_)))), ((C 2), .inl (Z 0, 16, .inl (fun j_ => nI ((rsN G) j_)))), ((C 3), .inl (Z 0, 72, .inl (rwF (begK G (Fn G))))), ((C 4), .inl (Z 0, 72, .inl (rwF (begK G (Fn G))))), ((C 10), .inl (Z 0, 18, .inl (fun j_ => nI ((rrN G) j_)))), ((C 11), .inl (Z 0, 16, .inl (fun j_ => nI ((rsN G) j_))))]) (q := 150) dX10_settles_147 0 rfl (show vwCl[10]? = some (RX10, TX10, 25) from rfl) cf_X10 9 (by decide) in_X10_settles_X10 fl_X10_settles_136 rfl (rfl) rfl (by simp only [List.length_cons, List.length_nil]; decide) rfl rfl ?_
              refine G_aload_n (q := 151) dX10_settles_150 rfl 0 rfl rfl ?_
              refine G_iconst (v := nI 0) (q := 152) dX10_settles_151 (by decide) rfl ?_
              refine G_put (ws2 := [((C 0), .inr (10, [.int (nI (Fn G)), .ref (C 1), .int (nI (Fk G)), .ref (C 2), .int (nI (Fh G)), .ref (C 3), .ref (C 4), .int (nI 0), .ref (C 5), .int (nI 0), .ref (C 6), .int (nI 0), .ref (C 7), .ref (C 8), .int (nI ln), .int (nI pa), .ref (C 9), .int (nI (Fn G)), .ref (C 10), .int (nI (Fk G)), .ref (C 11), .int (nI (Fdd G)), .int (nI (Fh G)), .ref (C 12), .ref (C 13)])), ((C 1), .inl (Z 0, 18, .inl (fun j_ => nI ((rrN G) j_)))), ((C 2), .inl (Z 0, 16, .inl (fun j_ => nI ((rsN G) j_)))), ((C 3), .inl (Z 0, 72, .inl (rwF (begK G (Fn G))))), ((C 4), .inl (Z 0, 72, .inl (rwF (begK G (Fn G))))), ((C 10), .inl (Z 0, 18, .inl (fun j_ => nI ((rrN G) j_)))), ((C 11), .inl (Z 0, 16, .inl (fun j_ => nI ((rsN G) j_))))]) (q := 155) dX10_settles_152 0 rfl (show vwCl[10]? = some (RX10, TX10, 25) from rfl) cf_X10 11 (by decide) in_X10_settles_X10 fl_X10_settles_139 rfl (rfl) rfl (by simp only [List.length_cons, List.length_nil]; decide) rfl rfl ?_
              refine GG.of (ws2 := [((C 0), .inr (10, [.int (nI (Fn G)), .ref (C 1), .int (nI (Fk G)), .ref (C 2), .int (nI (Fh G)), .ref (C 3), .ref (C 4), .int (nI 0), .ref (C 5), .int (nI 0), .ref (C 6), .int (nI 0), .ref (C 7), .ref (C 8), .int (nI ln), .int (nI pa), .ref (C 9), .int (nI (Fn G)), .ref (C 10), .int (nI (Fk G)), .ref (C 11), .int (nI (Fdd G)), .int (nI (Fh G)), .ref (C 12), .ref (C 13)])), ((C 1), .inl (Z 0, 18, .inl (fun j_ => nI ((rrN G) j_)))), ((C 2), .inl (Z 0, 16, .inl (fun j_ => nI ((rsN G) j_)))), ((C 3), .inl (Z 0, 72, .inl (rwF (begQ G)))), ((C 4), .inl (Z 0, 72, .inl (rwF (begQ G)))), ((C 10), .inl (Z 0, 18, .inl (fun j_ => nI ((rrN G) j_)))), ((C 11), .inl (Z 0, 16, .inl (fun j_ => nI ((rsN G) j_))))]) (lv2 := [(0, .ref (C 0)), (1, .int (nI (Fn G)))]) (st2 := []) (ws_c (rfl) (ws_c (rfl) (ws_c (rfl) (ws_c (rfl) (ws_c (rfl) (ws_c (rfl) (ws_c (rfl) (rfl)))))))) (rfl) (rfl) ?_
              exact G_ret dX10_settles_155 rfl rfl ⟨rfl, rfl⟩
            · refine G_aload_n (q := 101) dX10_settles_100 rfl 0 rfl rfl ?_
              refine G_get (q := 104) dX10_settles_101 0 rfl (show vwCl[10]? = some (RX10, TX10, 25) from rfl) 5 (by decide) in_X10_settles_X10 fl_X10_settles_16 rfl rfl ?_
              refine G_bipush (v := nI 16) (q := 106) dX10_settles_104 (by decide) rfl ?_
              refine G_iload_n (q := 107) dX10_settles_106 rfl 1 rfl rfl ?_
              refine G_iaddN (a := 16) (b := i) (q := 108) dX10_settles_107 rfl ?_
              refine G_aload_n (q := 109) dX10_settles_108 rfl 0 rfl rfl ?_
              refine G_get (q := 112) dX10_settles_109 0 rfl (show vwCl[10]? = some (RX10, TX10, 25) from rfl) 1 (by decide) in_X10_settles_X10 fl_X10_settles_7 rfl rfl ?_
              refine G_iconst (v := nI 3) (q := 113) dX10_settles_112 (by decide) rfl ?_
              refine G_iload_n (q := 114) dX10_settles_113 rfl 1 rfl rfl ?_
              refine G_imulN (a := 3) (b := i) (q := 115) dX10_settles_114 rfl ?_
              refine G_iconst (v := nI 1) (q := 116) dX10_settles_115 (by decide) rfl ?_
              refine G_iaddN (a := (3 * i)) (b := 1) (q := 117) dX10_settles_116 rfl ?_
              refine G_iald (q := 118) dX10_settles_117 1 rfl ((3 * i) + 1) (rfl) (by omega) (by omega) rfl ?_
              refine G_top (y := nI (Fag G i)) (by rw [rr_1]) ?_
              refine G_inegE (q := 119) dX10_settles_118 (-(nI (Fag G i))) (rfl) rfl ?_
              refine G_iast (ws2 := [((C 0), .inr (10, [.int (nI (Fn G)), .ref (C 1), .int (nI (Fk G)), .ref (C 2), .int (nI (Fh G)), .ref (C 3), .ref (C 4), .int (nI ac), .ref (C 5), .int (nI kp), .ref (C 6), .int (nI sz), .ref (C 7), .ref (C 8), .int (nI ln), .int (nI pa), .ref (C 9), .int (nI (Fn G)), .ref (C 10), .int (nI (Fk G)), .ref (C 11), .int (nI (Fdd G)), .int (nI (Fh G)), .ref (C 12), .ref (C 13)])), ((C 1), .inl (Z 0, 18, .inl (fun j_ => nI ((rrN G) j_)))), ((C 2), .inl (Z 0, 16, .inl (fun j_ => nI ((rsN G) j_)))), ((C 3), .inl (Z 0, 72, .inl (upd (rwF (begK G i)) (16 + i) (-(nI (Fag G i)))))), ((C 4), .inl (Z 0, 72, .inl (rwF R0))), ((C 10), .inl (Z 0, 18, .inl (fun j_ => nI ((rrN G) j_)))), ((C 11), .inl (Z 0, 16, .inl (fun j_ => nI ((rsN G) j_))))]) (q := 120) dX10_settles_119 3 rfl (16 + i) (rfl) (by omega) (by omega) rfl rfl ?_
              refine GG.of (ws2 := [((C 0), .inr (10, [.int (nI (Fn G)), .ref (C 1), .int (nI (Fk G)), .ref (C 2), .int (nI (Fh G)), .ref (C 3), .ref (C 4), .int (nI ac), .ref (C 5), .int (nI kp), .ref (C 6), .int (nI sz), .ref (C 7), .ref (C 8), .int (nI ln), .int (nI pa), .ref (C 9), .int (nI (Fn G)), .ref (C 10), .int (nI (Fk G)), .ref (C 11), .int (nI (Fdd G)), .int (nI (Fh G)), .ref (C 12), .ref (C 13)])), ((C 1), .inl (Z 0, 18, .inl (fun j_ => nI ((rrN G) j_)))), ((C 2), .inl (Z 0, 16, .inl (fun j_ => nI ((rsN G) j_)))), ((C 3), .inl (Z 0, 72, .inl (rwF (sQl (begK G i) i (-(nI (Fag G i))))))), ((C 4), .inl (Z 0, 72, .inl (rwF R0))), ((C 10), .inl (Z 0, 18, .inl (fun j_ => nI ((rrN G) j_)))), ((C 11), .inl (Z 0, 16, .inl (fun j_ => nI ((rsN G) j_))))]) (ws_c (rfl) (ws_c (rfl) (ws_c (rfl) (ws_c (cell_i (up_l (by omega) _)) (ws_c (rfl) (ws_c (rfl) (ws_c (rfl) (rfl)))))))) rfl rfl ?_
              refine G_iincN (x := i) (d := 1) (lv2 := [(0, .ref (C 0)), (1, .int (nI (i + 1)))]) (q := 123) dX10_settles_120 1 rfl (by decide) (by decide) rfl rfl ?_
              refine G_goto (q := 92) dX10_settles_123 (by decide) ?_
              refine GG.of (ws2 := [((C 0), .inr (10, [.int (nI (Fn G)), .ref (C 1), .int (nI (Fk G)), .ref (C 2), .int (nI (Fh G)), .ref (C 3), .ref (C 4), .int (nI ac), .ref (C 5), .int (nI kp), .ref (C 6), .int (nI sz), .ref (C 7), .ref (C 8), .int (nI ln), .int (nI pa), .ref (C 9), .int (nI (Fn G)), .ref (C 10), .int (nI (Fk G)), .ref (C 11), .int (nI (Fdd G)), .int (nI (Fh G)), .ref (C 12), .ref (C 13)])), ((C 1), .inl (Z 0, 18, .inl (fun j_ => nI ((rrN G) j_)))), ((C 2), .inl (Z 0, 16, .inl (fun j_ => nI ((rsN G) j_)))), ((C 3), .inl (Z 0, 72, .inl (rwF (begK G (i + 1))))), ((C 4), .inl (Z 0, 72, .inl (rwF R0))), ((C 10), .inl (Z 0, 18, .inl (fun j_ => nI ((rrN G) j_)))), ((C 11), .inl (Z 0, 16, .inl (fun j_ => nI ((rsN G) j_))))]) (lv2 := [(0, .ref (C 0)), (1, .int (nI (i + 1)))]) (st2 := []) (ws_c (rfl) (ws_c (rfl) (ws_c (rfl) (ws_c (cell_i (congrArg rwF (beg_s G i))) (ws_c (rfl) (ws_c (rfl) (ws_c (rfl) (rfl)))))))) (rfl) (rfl) ?_
              exact ih2 (i + 1) (by omega) (by omega)  
        refine GG.of (ws2 := [((C 0), .inr (10, [.int (nI (Fn G)), .ref (C 1), .int (nI (Fk G)), .ref (C 2), .int (nI (Fh G)), .ref (C 3), .ref (C 4), .int (nI ac), .ref (C 5), .int (nI kp), .ref (C 6), .int (nI sz), .ref (C 7), .ref (C 8), .int (nI ln), .int (nI pa), .ref (C 9), .int (nI (Fn G)), .ref (C 10), .int (nI (Fk G)), .ref (C 11), .int (nI (Fdd G)), .int (nI (Fh G)), .ref (C 12), .ref (C 13)])), ((C 1), .inl (Z 0, 18, .inl (fun j_ => nI ((rrN G) j_)))), ((C 2), .inl (Z 0, 16, .inl (fun j_ => nI ((rsN G) j_)))), ((C 3), .inl (Z 0, 72, .inl (rwF (begK G 0)))), ((C 4), .inl (Z 0, 72, .inl (rwF R0))), ((C 10), .inl (Z 0, 18, .inl (fun j_ => nI ((rrN G) j_)))), ((C 11), .inl (Z 0, 16, .inl (fun j_ => nI ((rsN G) j_))))]) (lv2 := [(0, .ref (C 0)), (1, .int (nI 0))]) (st2 := []) (ws_c (rfl) (ws_c (rfl) (ws_c (rfl) (ws_c (rfl) (ws_c (rfl) (ws_c (rfl) (ws_c (rfl) (rfl)))))))) (rfl) (rfl) ?_
        exact L92_2 ((Fn G) + 1) (0) (Nat.zero_le _) (by omega)  
      · refine G_aload_n (q := 61) dX10_settles_60 rfl 0 rfl rfl ?_
        refine G_get (q := 64) dX10_settles_61 0 rfl (show vwCl[10]? = some (RX10, TX10, 25) from rfl) 5 (by decide) in_X10_settles_X10 fl_X10_settles_16 rfl rfl ?_
        refine G_iload_n (q := 65) dX10_settles_64 rfl 1 rfl rfl ?_
        refine G_iconst (v := nI 0) (q := 66) dX10_settles_65 (by decide) rfl ?_
        refine G_iast (ws2 := [((C 0), .inr (10, [.int (nI (Fn G)), .ref (C 1), .int (nI (Fk G)), .ref (C 2), .int (nI (Fh G)), .ref (C 3), .ref (C 4), .int (nI ac), .ref (C 5), .int (nI kp), .ref (C 6), .int (nI sz), .ref (C 7), .ref (C 8), .int (nI ln), .int (nI pa), .ref (C 9), .int (nI (Fn G)), .ref (C 10), .int (nI (Fk G)), .ref (C 11), .int (nI (Fdd G)), .int (nI (Fh G)), .ref (C 12), .ref (C 13)])), ((C 1), .inl (Z 0, 18, .inl (fun j_ => nI ((rrN G) j_)))), ((C 2), .inl (Z 0, 16, .inl (fun j_ => nI ((rsN G) j_)))), ((C 3), .inl (Z 0, 72, .inl (upd (fillF (fun _ => nI 0) (rwF R) i) i (nI 0)))), ((C 4), .inl (Z 0, 72, .inl (rwF R0))), ((C 10), .inl (Z 0, 18, .inl (fun j_ => nI ((rrN G) j_)))), ((C 11), .inl (Z 0, 16, .inl (fun j_ => nI ((rsN G) j_))))]) (q := 67) dX10_settles_66 3 rfl i (rfl) (by omega) (by omega) rfl rfl ?_
        refine G_iincN (x := i) (d := 1) (lv2 := [(0, .ref (C 0)), (1, .int (nI (i + 1)))]) (q := 70) dX10_settles_67 1 rfl (by decide) (by decide) rfl rfl ?_
        refine G_goto (q := 54) dX10_settles_70 (by decide) ?_
        refine GG.of (ws2 := [((C 0), .inr (10, [.int (nI (Fn G)), .ref (C 1), .int (nI (Fk G)), .ref (C 2), .int (nI (Fh G)), .ref (C 3), .ref (C 4), .int (nI ac), .ref (C 5), .int (nI kp), .ref (C 6), .int (nI sz), .ref (C 7), .ref (C 8), .int (nI ln), .int (nI pa), .ref (C 9), .int (nI (Fn G)), .ref (C 10), .int (nI (Fk G)), .ref (C 11), .int (nI (Fdd G)), .int (nI (Fh G)), .ref (C 12), .ref (C 13)])), ((C 1), .inl (Z 0, 18, .inl (fun j_ => nI ((rrN G) j_)))), ((C 2), .inl (Z 0, 16, .inl (fun j_ => nI ((rsN G) j_)))), ((C 3), .inl (Z 0, 72, .inl (fillF (fun _ => nI 0) (rwF R) (i + 1)))), ((C 4), .inl (Z 0, 72, .inl (rwF R0))), ((C 10), .inl (Z 0, 18, .inl (fun j_ => nI ((rrN G) j_)))), ((C 11), .inl (Z 0, 16, .inl (fun j_ => nI ((rsN G) j_))))]) (lv2 := [(0, .ref (C 0)), (1, .int (nI (i + 1)))]) (st2 := []) (ws_c (rfl) (ws_c (rfl) (ws_c (rfl) (ws_c (cell_i (fill_s (fun _ => nI 0) (rwF R) i)) (ws_c (rfl) (ws_c (rfl) (ws_c (rfl) (rfl)))))))) (rfl) (rfl) ?_
        exact ih1 (i + 1) (by omega) (by omega)  
  refine GG.of (ws2 := [((C 0), .inr (10, [.int (nI (Fn G)), .ref (C 1), .int (nI (Fk G)), .ref (C 2), .int (nI (Fh G)), .ref (C 3), .ref (C 4), .int (nI ac), .ref (C 5), .int (nI kp), .ref (C 6), .int (nI sz), .ref (C 7), .ref (C 8), .int (nI ln), .int (nI pa), .ref (C 9), .int (nI (Fn G)), .ref (C 10), .int (nI (Fk G)), .ref (C 11), .int (nI (Fdd G)), .int (nI (Fh G)), .ref (C 12), .ref (C 13)])), ((C 1), .inl (Z 0, 18, .inl (fun j_ => nI ((rrN G) j_)))), ((C 2), .inl (Z 0, 16, .inl (fun j_ => nI ((rsN G) j_)))), ((C 3), .inl (Z 0, 72, .inl (fillF (fun _ => nI 0) (rwF R) 0))), ((C 4), .inl (Z 0, 72, .inl (rwF R0))), ((C 10), .inl (Z 0, 18, .inl (fun j_ => nI ((rrN G) j_)))), ((C 11), .inl (Z 0, 16, .inl (fun j_ => nI ((rsN G) j_))))]) (lv2 := [(0, .ref (C 0)), (1, .int (nI 0))]) (st2 := []) (ws_c (rfl) (ws_c (rfl) (ws_c (rfl) (ws_c (cell_i (fill_0 _ _).symm) (ws_c (rfl) (ws_c (rfl) (ws_c (rfl) (rfl)))))))) (rfl) (rfl) ?_
  exact L54_1 (72 + 1) (0) (Nat.zero_le _) (by omega)  
theorem cs_X10_from : CS yX10_from wsX10_from cX10_from 2 none 1 := ⟨⟨_, rfl⟩, by decide +kernel, by decide +kernel, by decide +kernel⟩
theorem fl_X10_from_43 : Cond.fieldLink RX10 43 (TX10 23).1 (TX10 23).2.1 (TX10 23).2.2.1 ∈ wsX10_from := by decide +kernel
theorem in_X10_from_X10 : ∀ w ∈ u_ws RX10 TX10 25, w ∈ wsX10_from := by decide +kernel
set_option maxHeartbeats 4000000 in
set_option maxRecDepth 100000 in
theorem ct_X10_from (Z : Nat → ClassId) (C : Nat → Nat) (E : FS) (G : FS) (sz : Nat) (ac : Nat) (kp : Nat) (ln : Nat) (pa : Nat) (p : Nat) (nw : Nat → Int32) (g : Nat → Int32) : Ct false yX10_from wsX10_from ({ frames := 1, cells := 0, slots := 0, locals := 24 }) [.ref (C 0), .ref p] Z [((C 0), .inr (10, [.int (nI (Fn E)), .ref (C 1), .int (nI (Fk E)), .ref (C 2), .int (nI (Fh E)), .ref (C 3), .ref (C 4), .int (nI ac), .ref (C 5), .int (nI kp), .ref (C 6), .int (nI sz), .ref (C 7), .ref (C 8), .int (nI ln), .int (nI pa), .ref (C 9), .int (nI (Fn G)), .ref (C 10), .int (nI (Fk G)), .ref (C 11), .int (nI (Fdd G)), .int (nI (Fh G)), .ref (C 12), .ref (C 13)])), ((C 12), .inl (Z 0, 72, .inl nw)), (p, .inl (Z 0, 72, .inl g))] (rV [((C 0), .inr (10, [.int (nI (Fn E)), .ref (C 1), .int (nI (Fk E)), .ref (C 2), .int (nI (Fh E)), .ref (C 3), .ref (C 4), .int (nI ac), .ref (C 5), .int (nI kp), .ref (C 6), .int (nI sz), .ref (C 7), .ref (C 8), .int (nI ln), .int (nI pa), .ref (C 9), .int (nI (Fn G)), .ref (C 10), .int (nI (Fk G)), .ref (C 11), .int (nI (Fdd G)), .int (nI (Fh G)), .ref (C 12), .ref (C 13)])), ((C 12), .inl (Z 0, 72, .inl g)), (p, .inl (Z 0, 72, .inl g))]) 0 0 := by
  refine Ct_of (cc := cX10_from) (maxL := 2) (ret := none) (own := RX10) false false (by decide +kernel) rfl rfl (by decide) (fun v w h => by rw [h.1]; rfl) (Nat.le_of_ble_eq_true rfl) (fun X => ?_)
  show GG X _ _ _ _ _ _ _ _ _ _ _ _ _ _ [(0, .ref (C 0)), (1, .ref p)] _ _
  refine G_aload_n (q := 1) dX10_from_0 rfl 0 rfl rfl ?_
  refine G_get (q := 4) dX10_from_1 0 rfl (show vwCl[10]? = some (RX10, TX10, 25) from rfl) 23 (by decide) in_X10_from_X10 fl_X10_from_43 rfl rfl ?_
  refine G_iconst (v := nI 0) (q := 5) dX10_from_4 (by decide) rfl ?_
  refine G_aload_n (q := 6) dX10_from_5 rfl 1 rfl rfl ?_
  refine G_bipush (v := nI 72) (q := 8) dX10_from_6 (by decide) rfl ?_
  refine G_callSX (As := [.ref (C 12), .int (nI 0), .ref p, .int (nI 72)]) (rest := []) (st2 := []) (ws2 := [((C 0), .inr (10, [.int (nI (Fn E)), .ref (C 1), .int (nI (Fk E)), .ref (C 2), .int (nI (Fh E)), .ref (C 3), .ref (C 4), .int (nI ac), .ref (C 5), .int (nI kp), .ref (C 6), .int (nI sz), .ref (C 7), .ref (C 8), .int (nI ln), .int (nI pa), .ref (C 9), .int (nI (Fn G)), .ref (C 10), .int (nI (Fk G)), .ref (C 11), .int (nI (Fdd G)), .int (nI (Fh G)), .ref (C 12), .ref (C 13)])), ((C 12), .inl (Z 0, 72, .inl (puF nw g 0 72))), (p, .inl (Z 0, 72, .inl g))]) (q := 11) dX10_from_8 [1, 2] (ct_X10_put Z (C 12) p 72 72 nw g 0 72 (by decide)) (fun h => h) cs_X10_put gX10_from_X10_put ⟨Nat.le_of_ble_eq_true rfl, Nat.le_of_ble_eq_true rfl⟩ ⟨rfl, rfl⟩ rfl (by decide) rfl rfl (Nat.le_of_ble_eq_true rfl) ⟨by decide, by decide⟩ rfl rfl rfl rfl ?_
  refine GG.alike (ws2 := [((C 0), .inr (10, [.int (nI (Fn E)), .ref (C 1), .int (nI (Fk E)), .ref (C 2), .int (nI (Fh E)), .ref (C 3), .ref (C 4), .int (nI ac), .ref (C 5), .int (nI kp), .ref (C 6), .int (nI sz), .ref (C 7), .ref (C 8), .int (nI ln), .int (nI pa), .ref (C 9), .int (nI (Fn G)), .ref (C 10), .int (nI (Fk G)), .ref (C 11), .int (nI (Fdd G)), .int (nI (Fh G)), .ref (C 12), .ref (C 13)])), ((C 12), .inl (Z 0, 72, .inl g)), (p, .inl (Z 0, 72, .inl g))]) ⟨ceq.rf, ⟨ceq.arr (fun j hj => pu_all hj), ⟨ceq.rf, trivial⟩⟩⟩ ?_
  exact G_ret dX10_from_11 rfl rfl ⟨rfl, rfl⟩
theorem cs_X10_isAsking : CS yX10_isAsking wsX10_isAsking cX10_isAsking 6 (some .boolean) 2 := ⟨⟨_, rfl⟩, by decide +kernel, by decide +kernel, by decide +kernel⟩
theorem fl_X10_isAsking_126 : Cond.fieldLink RX10 126 (TX10 4).1 (TX10 4).2.1 (TX10 4).2.2.1 ∈ wsX10_isAsking := by decide +kernel
theorem fl_X10_isAsking_13 : Cond.fieldLink RX10 13 (TX10 3).1 (TX10 3).2.1 (TX10 3).2.2.1 ∈ wsX10_isAsking := by decide +kernel
theorem fl_X10_isAsking_43 : Cond.fieldLink RX10 43 (TX10 23).1 (TX10 23).2.1 (TX10 23).2.2.1 ∈ wsX10_isAsking := by decide +kernel
theorem fl_X10_isAsking_7 : Cond.fieldLink RX10 7 (TX10 1).1 (TX10 1).2.1 (TX10 1).2.2.1 ∈ wsX10_isAsking := by decide +kernel
theorem in_X10_isAsking_X10 : ∀ w ∈ u_ws RX10 TX10 25, w ∈ wsX10_isAsking := by decide +kernel
set_option maxHeartbeats 4000000 in
set_option maxRecDepth 100000 in
theorem ct_X10_isAsking (Z : Nat → ClassId) (C : Nat → Nat) (E : FS) (G : FS) (sz : Nat) (ac : Nat) (kp : Nat) (ln : Nat) (pa : Nat) (Q : QS) (s : Nat) (i : Nat) (hE : okF E) (hQ : okQ Q) (hs : s < Fk E) (hi : i < Fn E): Ct false yX10_isAsking wsX10_isAsking ({ frames := 1, cells := 0, slots := 0, locals := 22 }) [.ref (C 0), .int (nI s), .int (nI i)] Z [((C 0), .inr (10, [.int (nI (Fn E)), .ref (C 1), .int (nI (Fk E)), .ref (C 2), .int (nI (Fh E)), .ref (C 3), .ref (C 4), .int (nI ac), .ref (C 5), .int (nI kp), .ref (C 6), .int (nI sz), .ref (C 7), .ref (C 8), .int (nI ln), .int (nI pa), .ref (C 9), .int (nI (Fn G)), .ref (C 10), .int (nI (Fk G)), .ref (C 11), .int (nI (Fdd G)), .int (nI (Fh G)), .ref (C 12), .ref (C 13)])), ((C 1), .inl (Z 0, 18, .inl (fun j_ => nI ((rrN E) j_)))), ((C 2), .inl (Z 0, 16, .inl (fun j_ => nI ((rsN E) j_)))), ((C 12), .inl (Z 0, 72, .inl (rwF Q)))] (rI (bI (asR E Q s i)) [((C 0), .inr (10, [.int (nI (Fn E)), .ref (C 1), .int (nI (Fk E)), .ref (C 2), .int (nI (Fh E)), .ref (C 3), .ref (C 4), .int (nI ac), .ref (C 5), .int (nI kp), .ref (C 6), .int (nI sz), .ref (C 7), .ref (C 8), .int (nI ln), .int (nI pa), .ref (C 9), .int (nI (Fn G)), .ref (C 10), .int (nI (Fk G)), .ref (C 11), .int (nI (Fdd G)), .int (nI (Fh G)), .ref (C 12), .ref (C 13)])), ((C 1), .inl (Z 0, 18, .inl (fun j_ => nI ((rrN E) j_)))), ((C 2), .inl (Z 0, 16, .inl (fun j_ => nI ((rsN E) j_)))), ((C 12), .inl (Z 0, 72, .inl (rwF Q)))]) 0 0 := by
  obtain ⟨hn, hk, hkd, hag, hml, htp, hdd, hh⟩ := id hE
  obtain ⟨hQb, hQe⟩ := id hQ
  refine Ct_of (cc := cX10_isAsking) (maxL := 6) (ret := (some .boolean)) (own := RX10) false false (by decide +kernel) rfl rfl (by decide) (fun v w h => by rw [h.1]; exact ⟨_, rfl, bI_01 _⟩) (Nat.le_of_ble_eq_true rfl) (fun X => ?_)
  show GG X _ _ _ _ _ _ _ _ _ _ _ _ _ _ [(0, .ref (C 0)), (1, .int (nI s)), (2, .int (nI i))] _ _
  refine G_aload_n (q := 1) dX10_isAsking_0 rfl 0 rfl rfl ?_
  refine G_get (q := 4) dX10_isAsking_1 0 rfl (show vwCl[10]? = some (RX10, TX10, 25) from rfl) 3 (by decide) in_X10_isAsking_X10 fl_X10_isAsking_13 rfl rfl ?_
  refine G_iconst (v := nI 2) (q := 5) dX10_isAsking_4 (by decide) rfl ?_
  refine G_iload_n (q := 6) dX10_isAsking_5 rfl 1 rfl rfl ?_
  refine G_imulN (a := 2) (b := s) (q := 7) dX10_isAsking_6 rfl ?_
  refine G_iald (q := 8) dX10_isAsking_7 2 rfl (2 * s) (rfl) (by omega) (by omega) rfl ?_
  refine G_top (y := nI (Ftp E s)) (by rw [rs_0]) ?_
  refine G_istore_n (lv2 := [(0, .ref (C 0)), (1, .int (nI s)), (2, .int (nI i)), (3, .int (nI (Ftp E s)))]) (q := 9) dX10_isAsking_8 rfl (by decide) rfl rfl ?_
  refine G_aload_n (q := 10) dX10_isAsking_9 rfl 0 rfl rfl ?_
  refine G_get (q := 13) dX10_isAsking_10 0 rfl (show vwCl[10]? = some (RX10, TX10, 25) from rfl) 3 (by decide) in_X10_isAsking_X10 fl_X10_isAsking_13 rfl rfl ?_
  refine G_iconst (v := nI 2) (q := 14) dX10_isAsking_13 (by decide) rfl ?_
  refine G_iload_n (q := 15) dX10_isAsking_14 rfl 1 rfl rfl ?_
  refine G_imulN (a := 2) (b := s) (q := 16) dX10_isAsking_15 rfl ?_
  refine G_iconst (v := nI 1) (q := 17) dX10_isAsking_16 (by decide) rfl ?_
  refine G_iaddN (a := (2 * s)) (b := 1) (q := 18) dX10_isAsking_17 rfl ?_
  refine G_iald (q := 19) dX10_isAsking_18 2 rfl ((2 * s) + 1) (rfl) (by omega) (by omega) rfl ?_
  refine G_top (y := nI ((Fqu E s).toNat)) (by rw [rs_1]) ?_
  refine G_iconst (v := nI 1) (q := 20) dX10_isAsking_19 (by decide) rfl ?_
  have hq1 : (Fqu E s).toNat ≤ 1 := by cases Fqu E s <;> decide
  have J28_1 : GG X ({ frames := 1, cells := 0, slots := 0, locals := 22 }) cX10_isAsking 6 wsX10_isAsking RX10 false false Z (rI (bI (asR E Q s i)) [((C 0), .inr (10, [.int (nI (Fn E)), .ref (C 1), .int (nI (Fk E)), .ref (C 2), .int (nI (Fh E)), .ref (C 3), .ref (C 4), .int (nI ac), .ref (C 5), .int (nI kp), .ref (C 6), .int (nI sz), .ref (C 7), .ref (C 8), .int (nI ln), .int (nI pa), .ref (C 9), .int (nI (Fn G)), .ref (C 10), .int (nI (Fk G)), .ref (C 11), .int (nI (Fdd G)), .int (nI (Fh G)), .ref (C 12), .ref (C 13)])), ((C 1), .inl (Z 0, 18, .inl (fun j_ => nI ((rrN E) j_)))), ((C 2), .inl (Z 0, 16, .inl (fun j_ => nI ((rsN E) j_)))), ((C 12), .inl (Z 0, 72, .inl (rwF Q)))]) 0 0 0 0 [((C 0), .inr (10, [.int (nI (Fn E)), .ref (C 1), .int (nI (Fk E)), .ref (C 2), .int (nI (Fh E)), .ref (C 3), .ref (C 4), .int (nI ac), .ref (C 5), .int (nI kp), .ref (C 6), .int (nI sz), .ref (C 7), .ref (C 8), .int (nI ln), .int (nI pa), .ref (C 9), .int (nI (Fn G)), .ref (C 10), .int (nI (Fk G)), .ref (C 11), .int (nI (Fdd G)), .int (nI (Fh G)), .ref (C 12), .ref (C 13)])), ((C 1), .inl (Z 0, 18, .inl (fun j_ => nI ((rrN E) j_)))), ((C 2), .inl (Z 0, 16, .inl (fun j_ => nI ((rsN E) j_)))), ((C 12), .inl (Z 0, 72, .inl (rwF Q)))] [(0, .ref (C 0)), (1, .int (nI s)), (2, .int (nI i)), (3, .int (nI (Ftp E s)))] [.int (bI (Fqu E s))] 28 := by
    refine G_istore (lv2 := [(0, .ref (C 0)), (1, .int (nI s)), (2, .int (nI i)), (3, .int (nI (Ftp E s))), (4, .int (bI (Fqu E s)))]) (q := 30) dX10_isAsking_28 (by decide) rfl rfl ?_
    refine G_iload_n (q := 31) dX10_isAsking_30 rfl 3 rfl rfl ?_
    refine G_aload_n (q := 32) dX10_isAsking_31 rfl 0 rfl rfl ?_
    refine G_get (q := 35) dX10_isAsking_32 0 rfl (show vwCl[10]? = some (RX10, TX10, 25) from rfl) 23 (by decide) in_X10_isAsking_X10 fl_X10_isAsking_43 rfl rfl ?_
    refine G_iconst (v := nI 2) (q := 36) dX10_isAsking_35 (by decide) rfl ?_
    refine G_iald (q := 37) dX10_isAsking_36 3 rfl 2 (rfl) (by omega) (by omega) rfl ?_
    refine G_top (y := nI (Qde Q)) (rfl) ?_
    refine G_iandN (a := (Ftp E s)) (b := (Qde Q)) (q := 38) dX10_isAsking_37 rfl ?_
    have J46_2 : GG X ({ frames := 1, cells := 0, slots := 0, locals := 22 }) cX10_isAsking 6 wsX10_isAsking RX10 false false Z (rI (bI (asR E Q s i)) [((C 0), .inr (10, [.int (nI (Fn E)), .ref (C 1), .int (nI (Fk E)), .ref (C 2), .int (nI (Fh E)), .ref (C 3), .ref (C 4), .int (nI ac), .ref (C 5), .int (nI kp), .ref (C 6), .int (nI sz), .ref (C 7), .ref (C 8), .int (nI ln), .int (nI pa), .ref (C 9), .int (nI (Fn G)), .ref (C 10), .int (nI (Fk G)), .ref (C 11), .int (nI (Fdd G)), .int (nI (Fh G)), .ref (C 12), .ref (C 13)])), ((C 1), .inl (Z 0, 18, .inl (fun j_ => nI ((rrN E) j_)))), ((C 2), .inl (Z 0, 16, .inl (fun j_ => nI ((rsN E) j_)))), ((C 12), .inl (Z 0, 72, .inl (rwF Q)))]) 0 0 0 0 [((C 0), .inr (10, [.int (nI (Fn E)), .ref (C 1), .int (nI (Fk E)), .ref (C 2), .int (nI (Fh E)), .ref (C 3), .ref (C 4), .int (nI ac), .ref (C 5), .int (nI kp), .ref (C 6), .int (nI sz), .ref (C 7), .ref (C 8), .int (nI ln), .int (nI pa), .ref (C 9), .int (nI (Fn G)), .ref (C 10), .int (nI (Fk G)), .ref (C 11), .int (nI (Fdd G)), .int (nI (Fh G)), .ref (C 12), .ref (C 13)])), ((C 1), .inl (Z 0, 18, .inl (fun j_ => nI ((rrN E) j_)))), ((C 2), .inl (Z 0, 16, .inl (fun j_ => nI ((rsN E) j_)))), ((C 12), .inl (Z 0, 72, .inl (rwF Q)))] [(0, .ref (C 0)), (1, .int (nI s)), (2, .int (nI i)), (3, .int (nI (Ftp E s))), (4, .int (bI (Fqu E s)))] [.int (bI (onD (Ftp E s) (Qde Q)))] 46 := by
      refine G_istore (lv2 := [(0, .ref (C 0)), (1, .int (nI s)), (2, .int (nI i)), (3, .int (nI (Ftp E s))), (4, .int (bI (Fqu E s))), (5, .int (bI (onD (Ftp E s) (Qde Q))))]) (q := 48) dX10_isAsking_46 (by decide) rfl rfl ?_
      refine G_aload_n (q := 49) dX10_isAsking_48 rfl 0 rfl rfl ?_
      refine G_get (q := 52) dX10_isAsking_49 0 rfl (show vwCl[10]? = some (RX10, TX10, 25) from rfl) 1 (by decide) in_X10_isAsking_X10 fl_X10_isAsking_7 rfl rfl ?_
      refine G_iconst (v := nI 3) (q := 53) dX10_isAsking_52 (by decide) rfl ?_
      refine G_iload_n (q := 54) dX10_isAsking_53 rfl 2 rfl rfl ?_
      refine G_imulN (a := 3) (b := i) (q := 55) dX10_isAsking_54 rfl ?_
      refine G_iald (q := 56) dX10_isAsking_55 1 rfl (3 * i) (rfl) (by omega) (by omega) rfl ?_
      rcases (show Fkd E i = 0 ∨ Fkd E i = 1 ∨ Fkd E i = 2 ∨ Fkd E i = 3 ∨ Fkd E i = 4 by have := hkd i; omega) with hc | hc | hc | hc | hc
      · refine G_top (y := nI 0) (by rw [rr_0, hc]) ?_
        refine G_tabI (off := 32) (q := 88) dX10_isAsking_56 (by decide) (by decide) (by decide +kernel) (by decide) ?_
        refine G_iload (q := 90) dX10_isAsking_88 4 rfl rfl ?_
        refine G_if_eqB (tgt := 102) (q := 93) dX10_isAsking_90 (by decide) rfl (fun c90 => ?_) (fun c90 => ?_)
        · refine G_iconst (v := nI 0) (q := 103) dX10_isAsking_102 (by decide) rfl ?_
          refine GG.of (ws2 := [((C 0), .inr (10, [.int (nI (Fn E)), .ref (C 1), .int (nI (Fk E)), .ref (C 2), .int (nI (Fh E)), .ref (C 3), .ref (C 4), .int (nI ac), .ref (C 5), .int (nI kp), .ref (C 6), .int (nI sz), .ref (C 7), .ref (C 8), .int (nI ln), .int (nI pa), .ref (C 9), .int (nI (Fn G)), .ref (C 10), .int (nI (Fk G)), .ref (C 11), .int (nI (Fdd G)), .int (nI (Fh G)), .ref (C 12), .ref (C 13)])), ((C 1), .inl (Z 0, 18, .inl (fun j_ => nI ((rrN E) j_)))), ((C 2), .inl (Z 0, 16, .inl (fun j_ => nI ((rsN E) j_)))), ((C 12), .inl (Z 0, 72, .inl (rwF Q)))]) (lv2 := [(0, .ref (C 0)), (1, .int (nI s)), (2, .int (nI i)), (3, .int (nI (Ftp E s))), (4, .int (bI (Fqu E s))), (5, .int (bI (onD (Ftp E s) (Qde Q))))]) (st2 := [.int (bI (asR E Q s i))]) (rfl) (rfl) (st_c (vi_c (show nI 0 = bI (asR E Q s i) from by first | (simp [asR, askB, hc, bI_true, bI_false, c106, c111, Nat.not_le.mpr c122]; done) | simp [asR, askB, hc, bI_true, bI_false, c90])) (rfl)) ?_
          exact G_iret dX10_isAsking_103 rfl rfl ⟨rfl, rfl⟩
        · refine G_iload (q := 95) dX10_isAsking_93 5 rfl rfl ?_
          refine G_if_eqB (tgt := 102) (q := 98) dX10_isAsking_95 (by decide) rfl (fun c95 => ?_) (fun c95 => ?_)
          · refine G_iconst (v := nI 0) (q := 103) dX10_isAsking_102 (by decide) rfl ?_
            refine GG.of (ws2 := [((C 0), .inr (10, [.int (nI (Fn E)), .ref (C 1), .int (nI (Fk E)), .ref (C 2), .int (nI (Fh E)), .ref (C 3), .ref (C 4), .int (nI ac), .ref (C 5), .int (nI kp), .ref (C 6), .int (nI sz), .ref (C 7), .ref (C 8), .int (nI ln), .int (nI pa), .ref (C 9), .int (nI (Fn G)), .ref (C 10), .int (nI (Fk G)), .ref (C 11), .int (nI (Fdd G)), .int (nI (Fh G)), .ref (C 12), .ref (C 13)])), ((C 1), .inl (Z 0, 18, .inl (fun j_ => nI ((rrN E) j_)))), ((C 2), .inl (Z 0, 16, .inl (fun j_ => nI ((rsN E) j_)))), ((C 12), .inl (Z 0, 72, .inl (rwF Q)))]) (lv2 := [(0, .ref (C 0)), (1, .int (nI s)), (2, .int (nI i)), (3, .int (nI (Ftp E s))), (4, .int (bI (Fqu E s))), (5, .int (bI (onD (Ftp E s) (Qde Q))))]) (st2 := [.int (bI (asR E Q s i))]) (rfl) (rfl) (st_c (vi_c (show nI 0 = bI (asR E Q s i) from by first | (simp [asR, askB, hc, bI_true, bI_false, c106, c111, Nat.not_le.mpr c122]; done) | simp [asR, askB, hc, bI_true, bI_false, c90, c95])) (rfl)) ?_
            exact G_iret dX10_isAsking_103 rfl rfl ⟨rfl, rfl⟩
          · refine G_iconst (v := nI 1) (q := 99) dX10_isAsking_98 (by decide) rfl ?_
            refine G_goto (q := 103) dX10_isAsking_99 (by decide) ?_
            refine GG.of (ws2 := [((C 0), .inr (10, [.int (nI (Fn E)), .ref (C 1), .int (nI (Fk E)), .ref (C 2), .int (nI (Fh E)), .ref (C 3), .ref (C 4), .int (nI ac), .ref (C 5), .int (nI kp), .ref (C 6), .int (nI sz), .ref (C 7), .ref (C 8), .int (nI ln), .int (nI pa), .ref (C 9), .int (nI (Fn G)), .ref (C 10), .int (nI (Fk G)), .ref (C 11), .int (nI (Fdd G)), .int (nI (Fh G)), .ref (C 12), .ref (C 13)])), ((C 1), .inl (Z 0, 18, .inl (fun j_ => nI ((rrN E) j_)))), ((C 2), .inl (Z 0, 16, .inl (fun j_ => nI ((rsN E) j_)))), ((C 12), .inl (Z 0, 72, .inl (rwF Q)))]) (lv2 := [(0, .ref (C 0)), (1, .int (nI s)), (2, .int (nI i)), (3, .int (nI (Ftp E s))), (4, .int (bI (Fqu E s))), (5, .int (bI (onD (Ftp E s) (Qde Q))))]) (st2 := [.int (bI (asR E Q s i))]) (rfl) (rfl) (st_c (vi_c (show nI 1 = bI (asR E Q s i) from by first | (simp [asR, askB, hc, bI_true, bI_false, c106, c111, Nat.not_le.mpr c122]; done) | simp [asR, askB, hc, bI_true, bI_false, c90, c95])) (rfl)) ?_
            exact G_iret dX10_isAsking_103 rfl rfl ⟨rfl, rfl⟩
      · refine G_top (y := nI 1) (by rw [rr_0, hc]) ?_
        refine G_tabI (off := 48) (q := 104) dX10_isAsking_56 (by decide) (by decide) (by decide +kernel) (by decide) ?_
        refine G_iload (q := 106) dX10_isAsking_104 5 rfl rfl ?_
        refine G_if_eqB (tgt := 129) (q := 109) dX10_isAsking_106 (by decide) rfl (fun c106 => ?_) (fun c106 => ?_)
        · refine G_iconst (v := nI 0) (q := 130) dX10_isAsking_129 (by decide) rfl ?_
          refine GG.of (ws2 := [((C 0), .inr (10, [.int (nI (Fn E)), .ref (C 1), .int (nI (Fk E)), .ref (C 2), .int (nI (Fh E)), .ref (C 3), .ref (C 4), .int (nI ac), .ref (C 5), .int (nI kp), .ref (C 6), .int (nI sz), .ref (C 7), .ref (C 8), .int (nI ln), .int (nI pa), .ref (C 9), .int (nI (Fn G)), .ref (C 10), .int (nI (Fk G)), .ref (C 11), .int (nI (Fdd G)), .int (nI (Fh G)), .ref (C 12), .ref (C 13)])), ((C 1), .inl (Z 0, 18, .inl (fun j_ => nI ((rrN E) j_)))), ((C 2), .inl (Z 0, 16, .inl (fun j_ => nI ((rsN E) j_)))), ((C 12), .inl (Z 0, 72, .inl (rwF Q)))]) (lv2 := [(0, .ref (C 0)), (1, .int (nI s)), (2, .int (nI i)), (3, .int (nI (Ftp E s))), (4, .int (bI (Fqu E s))), (5, .int (bI (onD (Ftp E s) (Qde Q))))]) (st2 := [.int (bI (asR E Q s i))]) (rfl) (rfl) (st_c (vi_c (show nI 0 = bI (asR E Q s i) from by first | (simp [asR, askB, hc, bI_true, bI_false, c106, c111, Nat.not_le.mpr c122]; done) | simp [asR, askB, hc, bI_true, bI_false, c106])) (rfl)) ?_
          exact G_iret dX10_isAsking_130 rfl rfl ⟨rfl, rfl⟩
        · refine G_iload (q := 111) dX10_isAsking_109 4 rfl rfl ?_
          refine G_if_neB (tgt := 125) (q := 114) dX10_isAsking_111 (by decide) rfl (fun c111 => ?_) (fun c111 => ?_)
          · refine G_iconst (v := nI 1) (q := 126) dX10_isAsking_125 (by decide) rfl ?_
            refine G_goto (q := 130) dX10_isAsking_126 (by decide) ?_
            refine GG.of (ws2 := [((C 0), .inr (10, [.int (nI (Fn E)), .ref (C 1), .int (nI (Fk E)), .ref (C 2), .int (nI (Fh E)), .ref (C 3), .ref (C 4), .int (nI ac), .ref (C 5), .int (nI kp), .ref (C 6), .int (nI sz), .ref (C 7), .ref (C 8), .int (nI ln), .int (nI pa), .ref (C 9), .int (nI (Fn G)), .ref (C 10), .int (nI (Fk G)), .ref (C 11), .int (nI (Fdd G)), .int (nI (Fh G)), .ref (C 12), .ref (C 13)])), ((C 1), .inl (Z 0, 18, .inl (fun j_ => nI ((rrN E) j_)))), ((C 2), .inl (Z 0, 16, .inl (fun j_ => nI ((rsN E) j_)))), ((C 12), .inl (Z 0, 72, .inl (rwF Q)))]) (lv2 := [(0, .ref (C 0)), (1, .int (nI s)), (2, .int (nI i)), (3, .int (nI (Ftp E s))), (4, .int (bI (Fqu E s))), (5, .int (bI (onD (Ftp E s) (Qde Q))))]) (st2 := [.int (bI (asR E Q s i))]) (rfl) (rfl) (st_c (vi_c (show nI 1 = bI (asR E Q s i) from by first | (simp [asR, askB, hc, bI_true, bI_false, c106, c111, Nat.not_le.mpr c122]; done) | simp [asR, askB, hc, bI_true, bI_false, c106, c111])) (rfl)) ?_
            exact G_iret dX10_isAsking_130 rfl rfl ⟨rfl, rfl⟩
          · refine G_iload_n (q := 115) dX10_isAsking_114 rfl 3 rfl rfl ?_
            refine G_callSP (As := [.int (nI (Ftp E s))]) (rest := []) (st2 := [.int (nI (pc6 (Ftp E s)))]) (q := 118) dX10_isAsking_115 [] (ct_X10_bits Z (Ftp E s) (htp s)) (fun h => h) cs_X10_bits gX10_isAsking_X10_bits ⟨Nat.le_of_ble_eq_true rfl, Nat.le_of_ble_eq_true rfl⟩ ⟨rfl, rfl⟩ rfl (by decide) rfl rfl (Nat.le_of_ble_eq_true rfl) ⟨by decide, by decide⟩ rfl rfl ?_
            refine G_aload_n (q := 119) dX10_isAsking_118 rfl 0 rfl rfl ?_
            refine G_get (q := 122) dX10_isAsking_119 0 rfl (show vwCl[10]? = some (RX10, TX10, 25) from rfl) 4 (by decide) in_X10_isAsking_X10 fl_X10_isAsking_126 rfl rfl ?_
            refine G_icmp_ltN (tgt := 129) (q := 125) dX10_isAsking_122 (by decide) rfl (by have := pc6_le (Ftp E s); omega) (by omega) (fun c122 => ?_) (fun c122 => ?_)
            · refine G_iconst (v := nI 0) (q := 130) dX10_isAsking_129 (by decide) rfl ?_
              refine GG.of (ws2 := [((C 0), .inr (10, [.int (nI (Fn E)), .ref (C 1), .int (nI (Fk E)), .ref (C 2), .int (nI (Fh E)), .ref (C 3), .ref (C 4), .int (nI ac), .ref (C 5), .int (nI kp), .ref (C 6), .int (nI sz), .ref (C 7), .ref (C 8), .int (nI ln), .int (nI pa), .ref (C 9), .int (nI (Fn G)), .ref (C 10), .int (nI (Fk G)), .ref (C 11), .int (nI (Fdd G)), .int (nI (Fh G)), .ref (C 12), .ref (C 13)])), ((C 1), .inl (Z 0, 18, .inl (fun j_ => nI ((rrN E) j_)))), ((C 2), .inl (Z 0, 16, .inl (fun j_ => nI ((rsN E) j_)))), ((C 12), .inl (Z 0, 72, .inl (rwF Q)))]) (lv2 := [(0, .ref (C 0)), (1, .int (nI s)), (2, .int (nI i)), (3, .int (nI (Ftp E s))), (4, .int (bI (Fqu E s))), (5, .int (bI (onD (Ftp E s) (Qde Q))))]) (st2 := [.int (bI (asR E Q s i))]) (rfl) (rfl) (st_c (vi_c (show nI 0 = bI (asR E Q s i) from by first | (simp [asR, askB, hc, bI_true, bI_false, c106, c111, Nat.not_le.mpr c122]; done) | simp [asR, askB, hc, bI_true, bI_false, c106, c111, c122])) (rfl)) ?_
              exact G_iret dX10_isAsking_130 rfl rfl ⟨rfl, rfl⟩
            · refine G_iconst (v := nI 1) (q := 126) dX10_isAsking_125 (by decide) rfl ?_
              refine G_goto (q := 130) dX10_isAsking_126 (by decide) ?_
              refine GG.of (ws2 := [((C 0), .inr (10, [.int (nI (Fn E)), .ref (C 1), .int (nI (Fk E)), .ref (C 2), .int (nI (Fh E)), .ref (C 3), .ref (C 4), .int (nI ac), .ref (C 5), .int (nI kp), .ref (C 6), .int (nI sz), .ref (C 7), .ref (C 8), .int (nI ln), .int (nI pa), .ref (C 9), .int (nI (Fn G)), .ref (C 10), .int (nI (Fk G)), .ref (C 11), .int (nI (Fdd G)), .int (nI (Fh G)), .ref (C 12), .ref (C 13)])), ((C 1), .inl (Z 0, 18, .inl (fun j_ => nI ((rrN E) j_)))), ((C 2), .inl (Z 0, 16, .inl (fun j_ => nI ((rsN E) j_)))), ((C 12), .inl (Z 0, 72, .inl (rwF Q)))]) (lv2 := [(0, .ref (C 0)), (1, .int (nI s)), (2, .int (nI i)), (3, .int (nI (Ftp E s))), (4, .int (bI (Fqu E s))), (5, .int (bI (onD (Ftp E s) (Qde Q))))]) (st2 := [.int (bI (asR E Q s i))]) (rfl) (rfl) (st_c (vi_c (show nI 1 = bI (asR E Q s i) from by first | (simp [asR, askB, hc, bI_true, bI_false, c106, c111, Nat.not_le.mpr c122]; done) | simp [asR, askB, hc, bI_true, bI_false, c106, c111, c122])) (rfl)) ?_
              exact G_iret dX10_isAsking_130 rfl rfl ⟨rfl, rfl⟩
      · refine G_top (y := nI 2) (by rw [rr_0, hc]) ?_
        refine G_tabI (off := 75) (q := 131) dX10_isAsking_56 (by decide) (by decide) (by decide +kernel) (by decide) ?_
        refine G_iload (q := 133) dX10_isAsking_131 5 rfl rfl ?_
        refine GG.of (ws2 := [((C 0), .inr (10, [.int (nI (Fn E)), .ref (C 1), .int (nI (Fk E)), .ref (C 2), .int (nI (Fh E)), .ref (C 3), .ref (C 4), .int (nI ac), .ref (C 5), .int (nI kp), .ref (C 6), .int (nI sz), .ref (C 7), .ref (C 8), .int (nI ln), .int (nI pa), .ref (C 9), .int (nI (Fn G)), .ref (C 10), .int (nI (Fk G)), .ref (C 11), .int (nI (Fdd G)), .int (nI (Fh G)), .ref (C 12), .ref (C 13)])), ((C 1), .inl (Z 0, 18, .inl (fun j_ => nI ((rrN E) j_)))), ((C 2), .inl (Z 0, 16, .inl (fun j_ => nI ((rsN E) j_)))), ((C 12), .inl (Z 0, 72, .inl (rwF Q)))]) (lv2 := [(0, .ref (C 0)), (1, .int (nI s)), (2, .int (nI i)), (3, .int (nI (Ftp E s))), (4, .int (bI (Fqu E s))), (5, .int (bI (onD (Ftp E s) (Qde Q))))]) (st2 := [.int (bI (asR E Q s i))]) (rfl) (rfl) (st_c (vi_c (show bI (onD (Ftp E s) (Qde Q)) = bI (asR E Q s i) from by first | (simp [asR, askB, hc, bI_true, bI_false, c106, c111, Nat.not_le.mpr c122]; done) | simp [asR, askB, hc, bI_true, bI_false, ])) (rfl)) ?_
        exact G_iret dX10_isAsking_133 rfl rfl ⟨rfl, rfl⟩
      · refine G_top (y := nI 3) (by rw [rr_0, hc]) ?_
        refine G_tabI (off := 78) (q := 134) dX10_isAsking_56 (by decide) (by decide) (by decide +kernel) (by decide) ?_
        refine G_iload (q := 136) dX10_isAsking_134 4 rfl rfl ?_
        refine GG.of (ws2 := [((C 0), .inr (10, [.int (nI (Fn E)), .ref (C 1), .int (nI (Fk E)), .ref (C 2), .int (nI (Fh E)), .ref (C 3), .ref (C 4), .int (nI ac), .ref (C 5), .int (nI kp), .ref (C 6), .int (nI sz), .ref (C 7), .ref (C 8), .int (nI ln), .int (nI pa), .ref (C 9), .int (nI (Fn G)), .ref (C 10), .int (nI (Fk G)), .ref (C 11), .int (nI (Fdd G)), .int (nI (Fh G)), .ref (C 12), .ref (C 13)])), ((C 1), .inl (Z 0, 18, .inl (fun j_ => nI ((rrN E) j_)))), ((C 2), .inl (Z 0, 16, .inl (fun j_ => nI ((rsN E) j_)))), ((C 12), .inl (Z 0, 72, .inl (rwF Q)))]) (lv2 := [(0, .ref (C 0)), (1, .int (nI s)), (2, .int (nI i)), (3, .int (nI (Ftp E s))), (4, .int (bI (Fqu E s))), (5, .int (bI (onD (Ftp E s) (Qde Q))))]) (st2 := [.int (bI (asR E Q s i))]) (rfl) (rfl) (st_c (vi_c (show bI (Fqu E s) = bI (asR E Q s i) from by first | (simp [asR, askB, hc, bI_true, bI_false, c106, c111, Nat.not_le.mpr c122]; done) | simp [asR, askB, hc, bI_true, bI_false, ])) (rfl)) ?_
        exact G_iret dX10_isAsking_136 rfl rfl ⟨rfl, rfl⟩
      · refine G_top (y := nI 4) (by rw [rr_0, hc]) ?_
        refine G_tabO (q := 137) dX10_isAsking_56 (by decide) (by decide) ?_
        refine G_iconst (v := nI 0) (q := 138) dX10_isAsking_137 (by decide) rfl ?_
        refine GG.of (ws2 := [((C 0), .inr (10, [.int (nI (Fn E)), .ref (C 1), .int (nI (Fk E)), .ref (C 2), .int (nI (Fh E)), .ref (C 3), .ref (C 4), .int (nI ac), .ref (C 5), .int (nI kp), .ref (C 6), .int (nI sz), .ref (C 7), .ref (C 8), .int (nI ln), .int (nI pa), .ref (C 9), .int (nI (Fn G)), .ref (C 10), .int (nI (Fk G)), .ref (C 11), .int (nI (Fdd G)), .int (nI (Fh G)), .ref (C 12), .ref (C 13)])), ((C 1), .inl (Z 0, 18, .inl (fun j_ => nI ((rrN E) j_)))), ((C 2), .inl (Z 0, 16, .inl (fun j_ => nI ((rsN E) j_)))), ((C 12), .inl (Z 0, 72, .inl (rwF Q)))]) (lv2 := [(0, .ref (C 0)), (1, .int (nI s)), (2, .int (nI i)), (3, .int (nI (Ftp E s))), (4, .int (bI (Fqu E s))), (5, .int (bI (onD (Ftp E s) (Qde Q))))]) (st2 := [.int (bI (asR E Q s i))]) (rfl) (rfl) (st_c (vi_c (show nI 0 = bI (asR E Q s i) from by first | (simp [asR, askB, hc, bI_true, bI_false, c106, c111, Nat.not_le.mpr c122]; done) | simp [asR, askB, hc, bI_true, bI_false, ])) (rfl)) ?_
        exact G_iret dX10_isAsking_138 rfl rfl ⟨rfl, rfl⟩
    refine G_if_eqN (tgt := 45) (q := 41) dX10_isAsking_38 (by decide) rfl (Nat.lt_of_le_of_lt Nat.and_le_left (by have := htp s; omega)) (fun c38 => ?_) (fun c38 => ?_)
    · refine G_iconst (v := nI 0) (q := 46) dX10_isAsking_45 (by decide) rfl ?_
      refine GG.of (ws2 := [((C 0), .inr (10, [.int (nI (Fn E)), .ref (C 1), .int (nI (Fk E)), .ref (C 2), .int (nI (Fh E)), .ref (C 3), .ref (C 4), .int (nI ac), .ref (C 5), .int (nI kp), .ref (C 6), .int (nI sz), .ref (C 7), .ref (C 8), .int (nI ln), .int (nI pa), .ref (C 9), .int (nI (Fn G)), .ref (C 10), .int (nI (Fk G)), .ref (C 11), .int (nI (Fdd G)), .int (nI (Fh G)), .ref (C 12), .ref (C 13)])), ((C 1), .inl (Z 0, 18, .inl (fun j_ => nI ((rrN E) j_)))), ((C 2), .inl (Z 0, 16, .inl (fun j_ => nI ((rsN E) j_)))), ((C 12), .inl (Z 0, 72, .inl (rwF Q)))]) (lv2 := [(0, .ref (C 0)), (1, .int (nI s)), (2, .int (nI i)), (3, .int (nI (Ftp E s))), (4, .int (bI (Fqu E s)))]) (st2 := [.int (bI (onD (Ftp E s) (Qde Q)))]) (rfl) (rfl) (st_c (vi_c (show nI 0 = bI (onD (Ftp E s) (Qde Q)) from by simp [onD, bI_true, bI_false, c38])) (rfl)) ?_
      exact J46_2
    · refine G_iconst (v := nI 1) (q := 42) dX10_isAsking_41 (by decide) rfl ?_
      refine G_goto (q := 46) dX10_isAsking_42 (by decide) ?_
      refine GG.of (ws2 := [((C 0), .inr (10, [.int (nI (Fn E)), .ref (C 1), .int (nI (Fk E)), .ref (C 2), .int (nI (Fh E)), .ref (C 3), .ref (C 4), .int (nI ac), .ref (C 5), .int (nI kp), .ref (C 6), .int (nI sz), .ref (C 7), .ref (C 8), .int (nI ln), .int (nI pa), .ref (C 9), .int (nI (Fn G)), .ref (C 10), .int (nI (Fk G)), .ref (C 11), .int (nI (Fdd G)), .int (nI (Fh G)), .ref (C 12), .ref (C 13)])), ((C 1), .inl (Z 0, 18, .inl (fun j_ => nI ((rrN E) j_)))), ((C 2), .inl (Z 0, 16, .inl (fun j_ => nI ((rsN E) j_)))), ((C 12), .inl (Z 0, 72, .inl (rwF Q)))]) (lv2 := [(0, .ref (C 0)), (1, .int (nI s)), (2, .int (nI i)), (3, .int (nI (Ftp E s))), (4, .int (bI (Fqu E s)))]) (st2 := [.int (bI (onD (Ftp E s) (Qde Q)))]) (rfl) (rfl) (st_c (vi_c (show nI 1 = bI (onD (Ftp E s) (Qde Q)) from by simp [onD, bI_true, bI_false, c38])) (rfl)) ?_
      exact J46_2
  refine G_icmp_neN (tgt := 27) (q := 23) dX10_isAsking_20 (by decide) rfl (by omega) (by omega) (fun c20 => ?_) (fun c20 => ?_)
  · refine G_iconst (v := nI 0) (q := 28) dX10_isAsking_27 (by decide) rfl ?_
    refine GG.of (ws2 := [((C 0), .inr (10, [.int (nI (Fn E)), .ref (C 1), .int (nI (Fk E)), .ref (C 2), .int (nI (Fh E)), .ref (C 3), .ref (C 4), .int (nI ac), .ref (C 5), .int (nI kp), .ref (C 6), .int (nI sz), .ref (C 7), .ref (C 8), .int (nI ln), .int (nI pa), .ref (C 9), .int (nI (Fn G)), .ref (C 10), .int (nI (Fk G)), .ref (C 11), .int (nI (Fdd G)), .int (nI (Fh G)), .ref (C 12), .ref (C 13)])), ((C 1), .inl (Z 0, 18, .inl (fun j_ => nI ((rrN E) j_)))), ((C 2), .inl (Z 0, 16, .inl (fun j_ => nI ((rsN E) j_)))), ((C 12), .inl (Z 0, 72, .inl (rwF Q)))]) (lv2 := [(0, .ref (C 0)), (1, .int (nI s)), (2, .int (nI i)), (3, .int (nI (Ftp E s)))]) (st2 := [.int (bI (Fqu E s))]) (rfl) (rfl) (st_c (vi_c (show nI 0 = bI (Fqu E s) from by first | exact (bI_t (tn1 c20)).symm | exact (bI_f (tn0 c20)).symm)) (rfl)) ?_
    exact J28_1
  · refine G_iconst (v := nI 1) (q := 24) dX10_isAsking_23 (by decide) rfl ?_
    refine G_goto (q := 28) dX10_isAsking_24 (by decide) ?_
    refine GG.of (ws2 := [((C 0), .inr (10, [.int (nI (Fn E)), .ref (C 1), .int (nI (Fk E)), .ref (C 2), .int (nI (Fh E)), .ref (C 3), .ref (C 4), .int (nI ac), .ref (C 5), .int (nI kp), .ref (C 6), .int (nI sz), .ref (C 7), .ref (C 8), .int (nI ln), .int (nI pa), .ref (C 9), .int (nI (Fn G)), .ref (C 10), .int (nI (Fk G)), .ref (C 11), .int (nI (Fdd G)), .int (nI (Fh G)), .ref (C 12), .ref (C 13)])), ((C 1), .inl (Z 0, 18, .inl (fun j_ => nI ((rrN E) j_)))), ((C 2), .inl (Z 0, 16, .inl (fun j_ => nI ((rsN E) j_)))), ((C 12), .inl (Z 0, 72, .inl (rwF Q)))]) (lv2 := [(0, .ref (C 0)), (1, .int (nI s)), (2, .int (nI i)), (3, .int (nI (Ftp E s)))]) (st2 := [.int (bI (Fqu E s))]) (rfl) (rfl) (st_c (vi_c (show nI 1 = bI (Fqu E s) from by first | exact (bI_t (tn1 c20)).symm | exact (bI_f (tn0 c20)).symm)) (rfl)) ?_
    exact J28_1
theorem cs_X10_agoBy : CS yX10_agoBy wsX10_agoBy cX10_agoBy 4 (some .int) 2 := ⟨⟨_, rfl⟩, by decide +kernel, by decide +kernel, by decide +kernel⟩
theorem fl_X10_agoBy_43 : Cond.fieldLink RX10 43 (TX10 23).1 (TX10 23).2.1 (TX10 23).2.2.1 ∈ wsX10_agoBy := by decide +kernel
theorem in_X10_agoBy_X10 : ∀ w ∈ u_ws RX10 TX10 25, w ∈ wsX10_agoBy := by decide +kernel
set_option maxHeartbeats 4000000 in
set_option maxRecDepth 100000 in
theorem ct_X10_agoBy (Z : Nat → ClassId) (C : Nat → Nat) (E : FS) (G : FS) (sz : Nat) (ac : Nat) (kp : Nat) (ln : Nat) (pa : Nat) (Q : QS) (i : Nat) (m : Nat) (hQ : okQ Q) (hi : i < 6) (hm : m ≤ 9): Ct false yX10_agoBy wsX10_agoBy ({ frames := 0, cells := 0, slots := 0, locals := 0 }) [.ref (C 0), .int (nI i), .int (nI m)] Z [((C 0), .inr (10, [.int (nI (Fn E)), .ref (C 1), .int (nI (Fk E)), .ref (C 2), .int (nI (Fh E)), .ref (C 3), .ref (C 4), .int (nI ac), .ref (C 5), .int (nI kp), .ref (C 6), .int (nI sz), .ref (C 7), .ref (C 8), .int (nI ln), .int (nI pa), .ref (C 9), .int (nI (Fn G)), .ref (C 10), .int (nI (Fk G)), .ref (C 11), .int (nI (Fdd G)), .int (nI (Fh G)), .ref (C 12), .ref (C 13)])), ((C 12), .inl (Z 0, 72, .inl (rwF Q)))] (rI (agQ Q i m) [((C 0), .inr (10, [.int (nI (Fn E)), .ref (C 1), .int (nI (Fk E)), .ref (C 2), .int (nI (Fh E)), .ref (C 3), .ref (C 4), .int (nI ac), .ref (C 5), .int (nI kp), .ref (C 6), .int (nI sz), .ref (C 7), .ref (C 8), .int (nI ln), .int (nI pa), .ref (C 9), .int (nI (Fn G)), .ref (C 10), .int (nI (Fk G)), .ref (C 11), .int (nI (Fdd G)), .int (nI (Fh G)), .ref (C 12), .ref (C 13)])), ((C 12), .inl (Z 0, 72, .inl (rwF Q)))]) 0 0 := by
  obtain ⟨hQb, hQe⟩ := id hQ
  refine Ct_of (cc := cX10_agoBy) (maxL := 4) (ret := (some .int)) (own := RX10) false false (by decide +kernel) rfl rfl (by decide) (fun v w h => by rw [h.1]; exact ⟨_, rfl, rfl⟩) (Nat.le_of_ble_eq_true rfl) (fun X => ?_)
  show GG X _ _ _ _ _ _ _ _ _ _ _ _ _ _ [(0, .ref (C 0)), (1, .int (nI i)), (2, .int (nI m))] _ _
  refine G_iload_n (q := 1) dX10_agoBy_0 rfl 2 rfl rfl ?_
  refine G_istore_n (lv2 := [(0, .ref (C 0)), (1, .int (nI i)), (2, .int (nI m)), (3, .int (nI m))]) (q := 2) dX10_agoBy_1 rfl (by decide) rfl rfl ?_
  have L2_1 : ∀ fu1 kk : Nat, kk ≤ 10 → 10 + 1 ≤ kk + fu1 → (m ≤ kk) → (∀ j, j < kk → bitP Q i m j = false) → GG X ({ frames := 0, cells := 0, slots := 0, locals := 0 }) cX10_agoBy 4 wsX10_agoBy RX10 false false Z (rI (agQ Q i m) [((C 0), .inr (10, [.int (nI (Fn E)), .ref (C 1), .int (nI (Fk E)), .ref (C 2), .int (nI (Fh E)), .ref (C 3), .ref (C 4), .int (nI ac), .ref (C 5), .int (nI kp), .ref (C 6), .int (nI sz), .ref (C 7), .ref (C 8), .int (nI ln), .int (nI pa), .ref (C 9), .int (nI (Fn G)), .ref (C 10), .int (nI (Fk G)), .ref (C 11), .int (nI (Fdd G)), .int (nI (Fh G)), .ref (C 12), .ref (C 13)])), ((C 12), .inl (Z 0, 72, .inl (rwF Q)))]) 0 0 0 0 [((C 0), .inr (10, [.int (nI (Fn E)), .ref (C 1), .int (nI (Fk E)), .ref (C 2), .int (nI (Fh E)), .ref (C 3), .ref (C 4), .int (nI ac), .ref (C 5), .int (nI kp), .ref (C 6), .int (nI sz), .ref (C 7), .ref (C 8), .int (nI ln), .int (nI pa), .ref (C 9), .int (nI (Fn G)), .ref (C 10), .int (nI (Fk G)), .ref (C 11), .int (nI (Fdd G)), .int (nI (Fh G)), .ref (C 12), .ref (C 13)])), ((C 12), .inl (Z 0, 72, .inl (rwF Q)))] [(0, .ref (C 0)), (1, .int (nI i)), (2, .int (nI m)), (3, .int (nI kk))] [] 2 := by
    intro fu1
    induction fu1 with
    | zero => intro kk q1 q2; exact absurd q2 (by omega)
    | succ fu1 ih1 =>
      intro kk hi1 hf1  hmk hv
      refine G_iload_n (q := 3) dX10_agoBy_2 rfl 3 rfl rfl ?_
      refine G_bipush (v := nI 10) (q := 5) dX10_agoBy_3 (by decide) rfl ?_
      refine G_icmp_geN (tgt := 33) (q := 8) dX10_agoBy_5 (by decide) rfl (by omega) (by omega) (fun c5 => ?_) (fun c5 => ?_)
      · have e9 : kk = 10 := by omega
        subst e9
        refine G_aload_n (q := 34) dX10_agoBy_33 rfl 0 rfl rfl ?_
        refine G_get (q := 37) dX10_agoBy_34 0 rfl (show vwCl[10]? = some (RX10, TX10, 25) from rfl) 23 (by decide) in_X10_agoBy_X10 fl_X10_agoBy_43 rfl rfl ?_
        refine G_iconst (v := nI 0) (q := 38) dX10_agoBy_37 (by decide) rfl ?_
        refine G_iald (q := 39) dX10_agoBy_38 1 rfl 0 (rfl) (by omega) (by omega) rfl ?_
        refine G_top (y := nI (Qdy Q)) (rfl) ?_
        refine G_aload_n (q := 40) dX10_agoBy_39 rfl 0 rfl rfl ?_
        refine G_get (q := 43) dX10_agoBy_40 0 rfl (show vwCl[10]? = some (RX10, TX10, 25) from rfl) 23 (by decide) in_X10_agoBy_X10 fl_X10_agoBy_43 rfl rfl ?_
        refine G_bipush (v := nI 16) (q := 45) dX10_agoBy_43 (by decide) rfl ?_
        refine G_iload_n (q := 46) dX10_agoBy_45 rfl 1 rfl rfl ?_
        refine G_iaddN (a := 16) (b := i) (q := 47) dX10_agoBy_46 rfl ?_
        refine G_iald (q := 48) dX10_agoBy_47 1 rfl (16 + i) (rfl) (by omega) (by omega) rfl ?_
        refine G_top (y := Qol Q i) (by rw [rw_l hi]) ?_
        refine G_isub (q := 49) dX10_agoBy_48 rfl ?_
        refine GG.of (ws2 := [((C 0), .inr (10, [.int (nI (Fn E)), .ref (C 1), .int (nI (Fk E)), .ref (C 2), .int (nI (Fh E)), .ref (C 3), .ref (C 4), .int (nI ac), .ref (C 5), .int (nI kp), .ref (C 6), .int (nI sz), .ref (C 7), .ref (C 8), .int (nI ln), .int (nI pa), .ref (C 9), .int (nI (Fn G)), .ref (C 10), .int (nI (Fk G)), .ref (C 11), .int (nI (Fdd G)), .int (nI (Fh G)), .ref (C 12), .ref (C 13)])), ((C 12), .inl (Z 0, 72, .inl (rwF Q)))]) (lv2 := [(0, .ref (C 0)), (1, .int (nI i)), (2, .int (nI m)), (3, .int (nI 10))]) (st2 := [.int (agQ Q i m)]) (rfl) (rfl) (st_c (vi_c (show (nI (Qdy Q)) - (Qol Q i) = agQ Q i m from by rw [agQ_no hv])) (rfl)) ?_
        exact G_iret dX10_agoBy_49 rfl rfl ⟨rfl, rfl⟩
      · refine G_aload_n (q := 9) dX10_agoBy_8 rfl 0 rfl rfl ?_
        refine G_get (q := 12) dX10_agoBy_9 0 rfl (show vwCl[10]? = some (RX10, TX10, 25) from rfl) 23 (by decide) in_X10_agoBy_X10 fl_X10_agoBy_43 rfl rfl ?_
        refine G_bipush (v := nI 10) (q := 14) dX10_agoBy_12 (by decide) rfl ?_
        refine G_iload_n (q := 15) dX10_agoBy_14 rfl 1 rfl rfl ?_
        refine G_iaddN (a := 10) (b := i) (q := 16) dX10_agoBy_15 rfl ?_
        refine G_iald (q := 17) dX10_agoBy_16 1 rfl (10 + i) (rfl) (by omega) (by omega) rfl ?_
        have hb9 := hQb i
        refine G_top (y := nI (Qbi Q i)) (by rw [rw_b hi]) ?_
        refine G_iload_n (q := 18) dX10_agoBy_17 rfl 3 rfl rfl ?_
        refine G_ishrN (a := (Qbi Q i)) (b := kk) (q := 19) dX10_agoBy_18 (by omega) (by omega) rfl ?_
        refine G_iconst (v := nI 1) (q := 20) dX10_agoBy_19 (by decide) rfl ?_
        refine G_iandN (a := ((Qbi Q i) >>> kk)) (b := 1) (q := 21) dX10_agoBy_20 rfl ?_
        refine G_iconst (v := nI 1) (q := 22) dX10_agoBy_21 (by decide) rfl ?_
        refine G_icmp_neN (tgt := 27) (q := 25) dX10_agoBy_22 (by decide) rfl (and1_lt _) (by omega) (fun c22 => ?_) (fun c22 => ?_)
        · refine G_iincN (x := kk) (d := 1) (lv2 := [(0, .ref (C 0)), (1, .int (nI i)), (2, .int (nI m)), (3, .int (nI (kk + 1)))]) (q := 30) dX10_agoBy_27 3 rfl (by decide) (by decide) rfl rfl ?_
          refine G_goto (q := 2) dX10_agoBy_30 (by decide) ?_
          exact ih1 (kk + 1) (by omega) (by omega)  (by omega) (fun j hj => (Nat.lt_succ_iff_lt_or_eq.mp hj).elim (fun h9 => hv j h9) (fun h9 => by rw [h9]; exact bitP_f c22))
        · refine G_iload_n (q := 26) dX10_agoBy_25 rfl 3 rfl rfl ?_
          refine GG.of (ws2 := [((C 0), .inr (10, [.int (nI (Fn E)), .ref (C 1), .int (nI (Fk E)), .ref (C 2), .int (nI (Fh E)), .ref (C 3), .ref (C 4), .int (nI ac), .ref (C 5), .int (nI kp), .ref (C 6), .int (nI sz), .ref (C 7), .ref (C 8), .int (nI ln), .int (nI pa), .ref (C 9), .int (nI (Fn G)), .ref (C 10), .int (nI (Fk G)), .ref (C 11), .int (nI (Fdd G)), .int (nI (Fh G)), .ref (C 12), .ref (C 13)])), ((C 12), .inl (Z 0, 72, .inl (rwF Q)))]) (lv2 := [(0, .ref (C 0)), (1, .int (nI i)), (2, .int (nI m)), (3, .int (nI kk))]) (st2 := [.int (agQ Q i m)]) (rfl) (rfl) (st_c (vi_c (show nI kk = agQ Q i m from by rw [agQ_at c5 hmk hv c22])) (rfl)) ?_
          exact G_iret dX10_agoBy_26 rfl rfl ⟨rfl, rfl⟩
  exact L2_1 (10 + 1) (m) (by omega) (by omega)  (Nat.le_refl _) (fun j hj => bitP_lt hj)
theorem cs_X10_heirBy : CS yX10_heirBy wsX10_heirBy cX10_heirBy 6 (some .int) 1 := ⟨⟨_, rfl⟩, by decide +kernel, by decide +kernel, by decide +kernel⟩
theorem fl_X10_heirBy_76 : Cond.fieldLink RX10 76 (TX10 0).1 (TX10 0).2.1 (TX10 0).2.2.1 ∈ wsX10_heirBy := by decide +kernel
theorem in_X10_heirBy_X10 : ∀ w ∈ u_ws RX10 TX10 25, w ∈ wsX10_heirBy := by decide +kernel
set_option maxHeartbeats 4000000 in
set_option maxRecDepth 100000 in
theorem ct_X10_heirBy (Z : Nat → ClassId) (C : Nat → Nat) (E : FS) (G : FS) (sz : Nat) (ac : Nat) (kp : Nat) (ln : Nat) (pa : Nat) (Q : QS) (S : Nat) (hE : okF E) (hQ : okQ Q) (hS : S < 64): Ct false yX10_heirBy wsX10_heirBy ({ frames := 1, cells := 0, slots := 0, locals := 23 }) [.ref (C 0), .int (nI S)] Z [((C 0), .inr (10, [.int (nI (Fn E)), .ref (C 1), .int (nI (Fk E)), .ref (C 2), .int (nI (Fh E)), .ref (C 3), .ref (C 4), .int (nI ac), .ref (C 5), .int (nI kp), .ref (C 6), .int (nI sz), .ref (C 7), .ref (C 8), .int (nI ln), .int (nI pa), .ref (C 9), .int (nI (Fn G)), .ref (C 10), .int (nI (Fk G)), .ref (C 11), .int (nI (Fdd G)), .int (nI (Fh G)), .ref (C 12), .ref (C 13)])), ((C 12), .inl (Z 0, 72, .inl (rwF Q)))] (rI (nI (hbw (ag0 Q) (Fn E) S)) [((C 0), .inr (10, [.int (nI (Fn E)), .ref (C 1), .int (nI (Fk E)), .ref (C 2), .int (nI (Fh E)), .ref (C 3), .ref (C 4), .int (nI ac), .ref (C 5), .int (nI kp), .ref (C 6), .int (nI sz), .ref (C 7), .ref (C 8), .int (nI ln), .int (nI pa), .ref (C 9), .int (nI (Fn G)), .ref (C 10), .int (nI (Fk G)), .ref (C 11), .int (nI (Fdd G)), .int (nI (Fh G)), .ref (C 12), .ref (C 13)])), ((C 12), .inl (Z 0, 72, .inl (rwF Q)))]) 0 0 := by
  obtain ⟨hn, hk, hkd, hag, hml, htp, hdd, hh⟩ := id hE
  obtain ⟨hQb, hQe⟩ := id hQ
  refine Ct_of (cc := cX10_heirBy) (maxL := 6) (ret := (some .int)) (own := RX10) false false (by decide +kernel) rfl rfl (by decide) (fun v w h => by rw [h.1]; exact ⟨_, rfl, rfl⟩) (Nat.le_of_ble_eq_true rfl) (fun X => ?_)
  show GG X _ _ _ _ _ _ _ _ _ _ _ _ _ _ [(0, .ref (C 0)), (1, .int (nI S))] _ _
  refine G_iconst (v := nI 0) (q := 1) dX10_heirBy_0 (by decide) rfl ?_
  refine G_istore_n (lv2 := [(0, .ref (C 0)), (1, .int (nI S)), (2, .int (nI 0))]) (q := 2) dX10_heirBy_1 rfl (by decide) rfl rfl ?_
  refine G_iconst (v := -1) (q := 3) dX10_heirBy_2 (by decide) rfl ?_
  refine G_istore_n (lv2 := [(0, .ref (C 0)), (1, .int (nI S)), (2, .int (nI 0)), (3, .int (-1))]) (q := 4) dX10_heirBy_3 rfl (by decide) rfl rfl ?_
  refine G_iconst (v := nI 0) (q := 5) dX10_heirBy_4 (by decide) rfl ?_
  refine G_istore (lv2 := [(0, .ref (C 0)), (1, .int (nI S)), (2, .int (nI 0)), (3, .int (-1)), (4, .int (nI 0))]) (q := 7) dX10_heirBy_5 (by decide) rfl rfl ?_
  have L7_1 : ∀ fu1 i : Nat, i ≤ (Fn E) → (Fn E) + 1 ≤ i + fu1 → GG X ({ frames := 1, cells := 0, slots := 0, locals := 23 }) cX10_heirBy 6 wsX10_heirBy RX10 false false Z (rI (nI (hbw (ag0 Q) (Fn E) S)) [((C 0), .inr (10, [.int (nI (Fn E)), .ref (C 1), .int (nI (Fk E)), .ref (C 2), .int (nI (Fh E)), .ref (C 3), .ref (C 4), .int (nI ac), .ref (C 5), .int (nI kp), .ref (C 6), .int (nI sz), .ref (C 7), .ref (C 8), .int (nI ln), .int (nI pa), .ref (C 9), .int (nI (Fn G)), .ref (C 10), .int (nI (Fk G)), .ref (C 11), .int (nI (Fdd G)), .int (nI (Fh G)), .ref (C 12), .ref (C 13)])), ((C 12), .inl (Z 0, 72, .inl (rwF Q)))]) 0 0 0 0 [((C 0), .inr (10, [.int (nI (Fn E)), .ref (C 1), .int (nI (Fk E)), .ref (C 2), .int (nI (Fh E)), .ref (C 3), .ref (C 4), .int (nI ac), .ref (C 5), .int (nI kp), .ref (C 6), .int (nI sz), .ref (C 7), .ref (C 8), .int (nI ln), .int (nI pa), .ref (C 9), .int (nI (Fn G)), .ref (C 10), .int (nI (Fk G)), .ref (C 11), .int (nI (Fdd G)), .int (nI (Fh G)), .ref (C 12), .ref (C 13)])), ((C 12), .inl (Z 0, 72, .inl (rwF Q)))] [(0, .ref (C 0)), (1, .int (nI S)), (2, .int (nI ((hb (ag0 Q) S i).1))), (3, .int ((hb (ag0 Q) S i).2)), (4, .int (nI i))] [] 7 := by
    intro fu1
    induction fu1 with
    | zero => intro i q1 q2; exact absurd q2 (by omega)
    | succ fu1 ih1 =>
      intro i hi1 hf1  
      refine G_iload (q := 9) dX10_heirBy_7 4 rfl rfl ?_
      refine G_aload_n (q := 10) dX10_heirBy_9 rfl 0 rfl rfl ?_
      refine G_get (q := 13) dX10_heirBy_10 0 rfl (show vwCl[10]? = some (RX10, TX10, 25) from rfl) 0 (by decide) in_X10_heirBy_X10 fl_X10_heirBy_76 rfl rfl ?_
      refine G_icmp_geN (tgt := 71) (q := 16) dX10_heirBy_13 (by decide) rfl (by omega) (by omega) (fun c13 => ?_) (fun c13 => ?_)
      · have e9 : Fn E = i := by omega
        subst e9
        refine G_iload_n (q := 72) dX10_heirBy_71 rfl 2 rfl rfl ?_
        refine GG.of (ws2 := [((C 0), .inr (10, [.int (nI (Fn E)), .ref (C 1), .int (nI (Fk E)), .ref (C 2), .int (nI (Fh E)), .ref (C 3), .ref (C 4), .int (nI ac), .ref (C 5), .int (nI kp), .ref (C 6), .int (nI sz), .ref (C 7), .ref (C 8), .int (nI ln), .int (nI pa), .ref (C 9), .int (nI (Fn G)), .ref (C 10), .int (nI (Fk G)), .ref (C 11), .int (nI (Fdd G)), .int (nI (Fh G)), .ref (C 12), .ref (C 13)])), ((C 12), .inl (Z 0, 72, .inl (rwF Q)))]) (lv2 := [(0, .ref (C 0)), (1, .int (nI S)), (2, .int (nI ((hb (ag0 Q) S (Fn E)).1))), (3, .int ((hb (ag0 Q) S (Fn E)).2)), (4, .int (nI (Fn E)))]) (st2 := [.int (nI (hbw (ag0 Q) (Fn E) S))]) (rfl) (rfl) (st_c (vi_c (show nI ((hb (ag0 Q) S (Fn E)).1) = nI (hbw (ag0 Q) (Fn E) S) from rfl)) (rfl)) ?_
        exact G_iret dX10_heirBy_72 rfl rfl ⟨rfl, rfl⟩
      · refine G_iload_n (q := 17) dX10_heirBy_16 rfl 1 rfl rfl ?_
        refine G_iload (q := 19) dX10_heirBy_17 4 rfl rfl ?_
        refine G_ishrN (a := S) (b := i) (q := 20) dX10_heirBy_19 (by omega) (by omega) rfl ?_
        refine G_iconst (v := nI 1) (q := 21) dX10_heirBy_20 (by decide) rfl ?_
        refine G_iandN (a := (S >>> i)) (b := 1) (q := 22) dX10_heirBy_21 rfl ?_
        refine G_iconst (v := nI 1) (q := 23) dX10_heirBy_22 (by decide) rfl ?_
        have J37_2 : GG X ({ frames := 1, cells := 0, slots := 0, locals := 23 }) cX10_heirBy 6 wsX10_heirBy RX10 false false Z (rI (nI (hbw (ag0 Q) (Fn E) S)) [((C 0), .inr (10, [.int (nI (Fn E)), .ref (C 1), .int (nI (Fk E)), .ref (C 2), .int (nI (Fh E)), .ref (C 3), .ref (C 4), .int (nI ac), .ref (C 5), .int (nI kp), .ref (C 6), .int (nI sz), .ref (C 7), .ref (C 8), .int (nI ln), .int (nI pa), .ref (C 9), .int (nI (Fn G)), .ref (C 10), .int (nI (Fk G)), .ref (C 11), .int (nI (Fdd G)), .int (nI (Fh G)), .ref (C 12), .ref (C 13)])), ((C 12), .inl (Z 0, 72, .inl (rwF Q)))]) 0 0 0 0 [((C 0), .inr (10, [.int (nI (Fn E)), .ref (C 1), .int (nI (Fk E)), .ref (C 2), .int (nI (Fh E)), .ref (C 3), .ref (C 4), .int (nI ac), .ref (C 5), .int (nI kp), .ref (C 6), .int (nI sz), .ref (C 7), .ref (C 8), .int (nI ln), .int (nI pa), .ref (C 9), .int (nI (Fn G)), .ref (C 10), .int (nI (Fk G)), .ref (C 11), .int (nI (Fdd G)), .int (nI (Fh G)), .ref (C 12), .ref (C 13)])), ((C 12), .inl (Z 0, 72, .inl (rwF Q)))] [(0, .ref (C 0)), (1, .int (nI S)), (2, .int (nI ((hb (ag0 Q) S i).1))), (3, .int ((hb (ag0 Q) S i).2)), (4, .int (nI i))] [.int (agoS (ag0 Q) S i)] 37 := by
          refine G_istore (lv2 := [(0, .ref (C 0)), (1, .int (nI S)), (2, .int (nI ((hb (ag0 Q) S i).1))), (3, .int ((hb (ag0 Q) S i).2)), (4, .int (nI i)), (5, .int (agoS (ag0 Q) S i))]) (q := 39) dX10_heirBy_37 (by decide) rfl rfl ?_
          refine G_iload (q := 41) dX10_heirBy_39 5 rfl rfl ?_
          refine G_iload_n (q := 42) dX10_heirBy_41 rfl 3 rfl rfl ?_
          refine G_icmp_le (tgt := 50) (q := 45) dX10_heirBy_42 (by decide) rfl (fun c42 => ?_) (fun c42 => ?_)
          · have hz9 : hb (ag0 Q) S (i + 1) = (hb (ag0 Q) S i) := hb_le c42
            refine G_iload_n (q := 51) dX10_heirBy_50 rfl 2 rfl rfl ?_
            refine G_istore_n (lv2 := [(0, .ref (C 0)), (1, .int (nI S)), (2, .int (nI ((hb (ag0 Q) S i).1))), (3, .int ((hb (ag0 Q) S i).2)), (4, .int (nI i)), (5, .int (agoS (ag0 Q) S i))]) (q := 52) dX10_heirBy_51 rfl (by decide) rfl rfl ?_
            refine G_iload (q := 54) dX10_heirBy_52 5 rfl rfl ?_
            refine G_iload_n (q := 55) dX10_heirBy_54 rfl 3 rfl rfl ?_
            refine G_icmp_le (tgt := 63) (q := 58) dX10_heirBy_55 (by decide) rfl (fun c55 => ?_) (fun c55 => ?_)
            · refine G_iload_n (q := 64) dX10_heirBy_63 rfl 3 rfl rfl ?_
              refine G_istore_n (lv2 := [(0, .ref (C 0)), (1, .int (nI S)), (2, .int (nI ((hb (ag0 Q) S i).1))), (3, .int ((hb (ag0 Q) S i).2)), (4, .int (nI i)), (5, .int (agoS (ag0 Q) S i))]) (q := 65) dX10_heirBy_64 rfl (by decide) rfl rfl ?_
              refine G_iincN (x := i) (d := 1) (lv2 := [(0, .ref (C 0)), (1, .int (nI S)), (2, .int (nI ((hb (ag0 Q) S i).1))), (3, .int ((hb (ag0 Q) S i).2)), (4, .int (nI (i + 1))), (5, .int (agoS (ag0 Q) S i))]) (q := 68) dX10_heirBy_65 4 rfl (by decide) (by decide) rfl rfl ?_
              refine G_goto (q := 7) dX10_heirBy_68 (by decide) ?_
              refine GG.pick (lv2 := [(0, .ref (C 0)), (1, .int (nI S)), (2, .int (nI ((hb (ag0 Q) S i).1))), (3, .int ((hb (ag0 Q) S i).2)), (4, .int (nI (i + 1)))]) [0, 1, 2, 3, 4] rfl ?_
              refine GG.of (ws2 := [((C 0), .inr (10, [.int (nI (Fn E)), .ref (C 1), .int (nI (Fk E)), .ref (C 2), .int (nI (Fh E)), .ref (C 3), .ref (C 4), .int (nI ac), .ref (C 5), .int (nI kp), .ref (C 6), .int (nI sz), .ref (C 7), .ref (C 8), .int (nI ln), .int (nI pa), .ref (C 9), .int (nI (Fn G)), .ref (C 10), .int (nI (Fk G)), .ref (C 11), .int (nI (Fdd G)), .int (nI (Fh G)), .ref (C 12), .ref (C 13)])), ((C 12), .inl (Z 0, 72, .inl (rwF Q)))]) (lv2 := [(0, .ref (C 0)), (1, .int (nI S)), (2, .int (nI ((hb (ag0 Q) S (i + 1)).1))), (3, .int ((hb (ag0 Q) S (i + 1)).2)), (4, .int (nI (i + 1)))]) (st2 := []) (rfl) (lv_c rfl (lv_c rfl (lv_c (vi_c (show nI ((hb (ag0 Q) S i).1) = nI ((hb (ag0 Q) S (i + 1)).1) from by first | (rw [hz9]; done) | exact absurd c55 c42 | exact absurd c42 c55)) (lv_c (vi_c (show (hb (ag0 Q) S i).2 = (hb (ag0 Q) S (i + 1)).2 from by first | (rw [hz9]; done) | exact absurd c55 c42 | exact absurd c42 c55)) (lv_c rfl (rfl)))))) (rfl) ?_
              exact ih1 (i + 1) (by omega) (by omega)  
            · refine G_iload (q := 60) dX10_heirBy_58 5 rfl rfl ?_
              refine G_goto (q := 64) dX10_heirBy_60 (by decide) ?_
              refine G_istore_n (lv2 := [(0, .ref (C 0)), (1, .int (nI S)), (2, .int (nI ((hb (ag0 Q) S i).1))), (3, .int (agoS (ag0 Q) S i)), (4, .int (nI i)), (5, .int (agoS (ag0 Q) S i))]) (q := 65) dX10_heirBy_64 rfl (by decide) rfl rfl ?_
              refine G_iincN (x := i) (d := 1) (lv2 := [(0, .ref (C 0)), (1, .int (nI S)), (2, .int (nI ((hb (ag0 Q) S i).1))), (3, .int (agoS (ag0 Q) S i)), (4, .int (nI (i + 1))), (5, .int (agoS (ag0 Q) S i))]) (q := 68) dX10_heirBy_65 4 rfl (by decide) (by decide) rfl rfl ?_
              refine G_goto (q := 7) dX10_heirBy_68 (by decide) ?_
              refine GG.pick (lv2 := [(0, .ref (C 0)), (1, .int (nI S)), (2, .int (nI ((hb (ag0 Q) S i).1))), (3, .int (agoS (ag0 Q) S i)), (4, .int (nI (i + 1)))]) [0, 1, 2, 3, 4] rfl ?_
              refine GG.of (ws2 := [((C 0), .inr (10, [.int (nI (Fn E)), .ref (C 1), .int (nI (Fk E)), .ref (C 2), .int (nI (Fh E)), .ref (C 3), .ref (C 4), .int (nI ac), .ref (C 5), .int (nI kp), .ref (C 6), .int (nI sz), .ref (C 7), .ref (C 8), .int (nI ln), .int (nI pa), .ref (C 9), .int (nI (Fn G)), .ref (C 10), .int (nI (Fk G)), .ref (C 11), .int (nI (Fdd G)), .int (nI (Fh G)), .ref (C 12), .ref (C 13)])), ((C 12), .inl (Z 0, 72, .inl (rwF Q)))]) (lv2 := [(0, .ref (C 0)), (1, .int (nI S)), (2, .int (nI ((hb (ag0 Q) S (i + 1)).1))), (3, .int ((hb (ag0 Q) S (i + 1)).2)), (4, .int (nI (i + 1)))]) (st2 := []) (rfl) (lv_c rfl (lv_c rfl (lv_c (vi_c (show nI ((hb (ag0 Q) S i).1) = nI ((hb (ag0 Q) S (i + 1)).1) from by first | (rw [hz9]; done) | exact absurd c55 c42 | exact absurd c42 c55)) (lv_c (vi_c (show agoS (ag0 Q) S i = (hb (ag0 Q) S (i + 1)).2 from by first | (rw [hz9]; done) | exact absurd c55 c42 | exact absurd c42 c55)) (lv_c rfl (rfl)))))) (rfl) ?_
              exact ih1 (i + 1) (by omega) (by omega)  
          · have hz9 : hb (ag0 Q) S (i + 1) = (i, agoS (ag0 Q) S i) := hb_nle c42
            refine G_iload (q := 47) dX10_heirBy_45 4 rfl rfl ?_
            refine G_goto (q := 51) dX10_heirBy_47 (by decide) ?_
            refine G_istore_n (lv2 := [(0, .ref (C 0)), (1, .int (nI S)), (2, .int (nI i)), (3, .int ((hb (ag0 Q) S i).2)), (4, .int (nI i)), (5, .int (agoS (ag0 Q) S i))]) (q := 52) dX10_heirBy_51 rfl (by decide) rfl rfl ?_
            refine G_iload (q := 54) dX10_heirBy_52 5 rfl rfl ?_
            refine G_iload_n (q := 55) dX10_heirBy_54 rfl 3 rfl rfl ?_
            refine G_icmp_le (tgt := 63) (q := 58) dX10_heirBy_55 (by decide) rfl (fun c55 => ?_) (fun c55 => ?_)
            · refine G_iload_n (q := 64) dX10_heirBy_63 rfl 3 rfl rfl ?_
              refine G_istore_n (lv2 := [(0, .ref (C 0)), (1, .int (nI S)), (2, .int (nI i)), (3, .int ((hb (ag0 Q) S i).2)), (4, .int (nI i)), (5, .int (agoS (ag0 Q) S i))]) (q := 65) dX10_heirBy_64 rfl (by decide) rfl rfl ?_
              refine G_iincN (x := i) (d := 1) (lv2 := [(0, .ref (C 0)), (1, .int (nI S)), (2, .int (nI i)), (3, .int ((hb (ag0 Q) S i).2)), (4, .int (nI (i + 1))), (5, .int (agoS (ag0 Q) S i))]) (q := 68) dX10_heirBy_65 4 rfl (by decide) (by decide) rfl rfl ?_
              refine G_goto (q := 7) dX10_heirBy_68 (by decide) ?_
              refine GG.pick (lv2 := [(0, .ref (C 0)), (1, .int (nI S)), (2, .int (nI i)), (3, .int ((hb (ag0 Q) S i).2)), (4, .int (nI (i + 1)))]) [0, 1, 2, 3, 4] rfl ?_
              refine GG.of (ws2 := [((C 0), .inr (10, [.int (nI (Fn E)), .ref (C 1), .int (nI (Fk E)), .ref (C 2), .int (nI (Fh E)), .ref (C 3), .ref (C 4), .int (nI ac), .ref (C 5), .int (nI kp), .ref (C 6), .int (nI sz), .ref (C 7), .ref (C 8), .int (nI ln), .int (nI pa), .ref (C 9), .int (nI (Fn G)), .ref (C 10), .int (nI (Fk G)), .ref (C 11), .int (nI (Fdd G)), .int (nI (Fh G)), .ref (C 12), .ref (C 13)])), ((C 12), .inl (Z 0, 72, .inl (rwF Q)))]) (lv2 := [(0, .ref (C 0)), (1, .int (nI S)), (2, .int (nI ((hb (ag0 Q) S (i + 1)).1))), (3, .int ((hb (ag0 Q) S (i + 1)).2)), (4, .int (nI (i + 1)))]) (st2 := []) (rfl) (lv_c rfl (lv_c rfl (lv_c (vi_c (show nI i = nI ((hb (ag0 Q) S (i + 1)).1) from by first | (rw [hz9]; done) | exact absurd c55 c42 | exact absurd c42 c55)) (lv_c (vi_c (show (hb (ag0 Q) S i).2 = (hb (ag0 Q) S (i + 1)).2 from by first | (rw [hz9]; done) | exact absurd c55 c42 | exact absurd c42 c55)) (lv_c rfl (rfl)))))) (rfl) ?_
              exact ih1 (i + 1) (by omega) (by omega)  
            · refine G_iload (q := 60) dX10_heirBy_58 5 rfl rfl ?_
              refine G_goto (q := 64) dX10_heirBy_60 (by decide) ?_
              refine G_istore_n (lv2 := [(0, .ref (C 0)), (1, .int (nI S)), (2, .int (nI i)), (3, .int (agoS (ag0 Q) S i)), (4, .int (nI i)), (5, .int (agoS (ag0 Q) S i))]) (q := 65) dX10_heirBy_64 rfl (by decide) rfl rfl ?_
              refine G_iincN (x := i) (d := 1) (lv2 := [(0, .ref (C 0)), (1, .int (nI S)), (2, .int (nI i)), (3, .int (agoS (ag0 Q) S i)), (4, .int (nI (i + 1))), (5, .int (agoS (ag0 Q) S i))]) (q := 68) dX10_heirBy_65 4 rfl (by decide) (by decide) rfl rfl ?_
              refine G_goto (q := 7) dX10_heirBy_68 (by decide) ?_
              refine GG.pick (lv2 := [(0, .ref (C 0)), (1, .int (nI S)), (2, .int (nI i)), (3, .int (agoS (ag0 Q) S i)), (4, .int (nI (i + 1)))]) [0, 1, 2, 3, 4] rfl ?_
              refine GG.of (ws2 := [((C 0), .inr (10, [.int (nI (Fn E)), .ref (C 1), .int (nI (Fk E)), .ref (C 2), .int (nI (Fh E)), .ref (C 3), .ref (C 4), .int (nI ac), .ref (C 5), .int (nI kp), .ref (C 6), .int (nI sz), .ref (C 7), .ref (C 8), .int (nI ln), .int (nI pa), .ref (C 9), .int (nI (Fn G)), .ref (C 10), .int (nI (Fk G)), .ref (C 11), .int (nI (Fdd G)), .int (nI (Fh G)), .ref (C 12), .ref (C 13)])), ((C 12), .inl (Z 0, 72, .inl (rwF Q)))]) (lv2 := [(0, .ref (C 0)), (1, .int (nI S)), (2, .int (nI ((hb (ag0 Q) S (i + 1)).1))), (3, .int ((hb (ag0 Q) S (i + 1)).2)), (4, .int (nI (i + 1)))]) (st2 := []) (rfl) (lv_c rfl (lv_c rfl (lv_c (vi_c (show nI i = nI ((hb (ag0 Q) S (i + 1)).1) from by first | (rw [hz9]; done) | exact absurd c55 c42 | exact absurd c42 c55)) (lv_c (vi_c (show agoS (ag0 Q) S i = (hb (ag0 Q) S (i + 1)).2 from by first | (rw [hz9]; done) | exact absurd c55 c42 | exact absurd c42 c55)) (lv_c rfl (rfl)))))) (rfl) ?_
              exact ih1 (i + 1) (by omega) (by omega)  
        refine G_icmp_neN (tgt := 30) (q := 26) dX10_heirBy_23 (by decide) rfl (and1_lt _) (by omega) (fun c23 => ?_) (fun c23 => ?_)
        · refine G_aload_n (q := 31) dX10_heirBy_30 rfl 0 rfl rfl ?_
          refine G_iload (q := 33) dX10_heirBy_31 4 rfl rfl ?_
          refine G_iconst (v := nI 0) (q := 34) dX10_heirBy_33 (by decide) rfl ?_
          refine G_callVP (As := [.int (nI i), .int (nI 0)]) (rest := []) (st2 := [.int (agQ Q i 0)]) (q := 37) dX10_heirBy_34 [0, 1] (ct_X10_agoBy Z C E G sz ac kp ln pa Q i 0 (hQ) (by omega) (by omega)) (fun h => h) cs_X10_agoBy gX10_heirBy_X10_agoBy rfl ⟨Nat.le_of_ble_eq_true rfl, Nat.le_of_ble_eq_true rfl⟩ ⟨rfl, rfl⟩ 0 rfl (show vwCl[10]? = some (RX10, TX10, 25) from rfl) rfl (by decide) rfl rfl (Nat.le_of_ble_eq_true rfl) ⟨by decide, by decide⟩ rfl rfl ?_
          refine GG.of (ws2 := [((C 0), .inr (10, [.int (nI (Fn E)), .ref (C 1), .int (nI (Fk E)), .ref (C 2), .int (nI (Fh E)), .ref (C 3), .ref (C 4), .int (nI ac), .ref (C 5), .int (nI kp), .ref (C 6), .int (nI sz), .ref (C 7), .ref (C 8), .int (nI ln), .int (nI pa), .ref (C 9), .int (nI (Fn G)), .ref (C 10), .int (nI (Fk G)), .ref (C 11), .int (nI (Fdd G)), .int (nI (Fh G)), .ref (C 12), .ref (C 13)])), ((C 12), .inl (Z 0, 72, .inl (rwF Q)))]) (lv2 := [(0, .ref (C 0)), (1, .int (nI S)), (2, .int (nI ((hb (ag0 Q) S i).1))), (3, .int ((hb (ag0 Q) S i).2)), (4, .int (nI i))]) (st2 := [.int (agoS (ag0 Q) S i)]) (rfl) (rfl) (st_c (vi_c (show agQ Q i 0 = agoS (ag0 Q) S i from by first | exact (if_pos c23).symm | exact (if_neg c23).symm)) (rfl)) ?_
          exact J37_2
        · refine G_iconst (v := nI 0) (q := 27) dX10_heirBy_26 (by decide) rfl ?_
          refine G_goto (q := 37) dX10_heirBy_27 (by decide) ?_
          refine GG.of (ws2 := [((C 0), .inr (10, [.int (nI (Fn E)), .ref (C 1), .int (nI (Fk E)), .ref (C 2), .int (nI (Fh E)), .ref (C 3), .ref (C 4), .int (nI ac), .ref (C 5), .int (nI kp), .ref (C 6), .int (nI sz), .ref (C 7), .ref (C 8), .int (nI ln), .int (nI pa), .ref (C 9), .int (nI (Fn G)), .ref (C 10), .int (nI (Fk G)), .ref (C 11), .int (nI (Fdd G)), .int (nI (Fh G)), .ref (C 12), .ref (C 13)])), ((C 12), .inl (Z 0, 72, .inl (rwF Q)))]) (lv2 := [(0, .ref (C 0)), (1, .int (nI S)), (2, .int (nI ((hb (ag0 Q) S i).1))), (3, .int ((hb (ag0 Q) S i).2)), (4, .int (nI i))]) (st2 := [.int (agoS (ag0 Q) S i)]) (rfl) (rfl) (st_c (vi_c (show nI 0 = agoS (ag0 Q) S i from by first | exact (if_pos c23).symm | exact (if_neg c23).symm)) (rfl)) ?_
          exact J37_2
  refine GG.of (ws2 := [((C 0), .inr (10, [.int (nI (Fn E)), .ref (C 1), .int (nI (Fk E)), .ref (C 2), .int (nI (Fh E)), .ref (C 3), .ref (C 4), .int (nI ac), .ref (C 5), .int (nI kp), .ref (C 6), .int (nI sz), .ref (C 7), .ref (C 8), .int (nI ln), .int (nI pa), .ref (C 9), .int (nI (Fn G)), .ref (C 10), .int (nI (Fk G)), .ref (C 11), .int (nI (Fdd G)), .int (nI (Fh G)), .ref (C 12), .ref (C 13)])), ((C 12), .inl (Z 0, 72, .inl (rwF Q)))]) (lv2 := [(0, .ref (C 0)), (1, .int (nI S)), (2, .int (nI ((hb (ag0 Q) S 0).1))), (3, .int ((hb (ag0 Q) S 0).2)), (4, .int (nI 0))]) (st2 := []) (rfl) (lv_c rfl (lv_c rfl (lv_c (vi_c (show nI 0 = nI ((hb (ag0 Q) S 0).1) from rfl)) (lv_c (vi_c (show -1 = (hb (ag0 Q) S 0).2 from rfl)) (lv_c rfl (rfl)))))) (rfl) ?_
  exact L7_1 ((Fn E) + 1) (0) (Nat.zero_le _) (by omega)  
