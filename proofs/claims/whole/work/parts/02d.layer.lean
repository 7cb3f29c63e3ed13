section
variable {X : GX} {R : Room} {cc : ByteArray} {nL : Nat} {Ts : List Cond} {own : String} {ini sb : Bool} {Z : Nat → ClassId} {Φ : Option Value → va_W → Prop} {mc ms k n : Nat} {ws : va_W} {lv : List (Nat × Value)} {st : List Value} {pc q : Nat}
theorem va_D_iff {A : Nat → Prop} {ws : va_W} : va_D A ws ↔ (ws.map Prod.fst).Nodup ∧ ∀ q ∈ ws, A q.1 := by
  have key : (ws.map Prod.fst).Nodup ↔ ∀ (i j : Nat) (hi : i < ws.length) (hj : j < ws.length), i < j → ws[i].1 ≠ ws[j].1 := by
    unfold List.Nodup
    rw [List.pairwise_iff_getElem]
    constructor
    · intro h i j hi hj hij
      have := h i j (by simpa using hi) (by simpa using hj) hij
      simpa using this
    · intro h i j hi hj hij
      have := h i j (by simpa using hi) (by simpa using hj) hij
      simpa using this
  rw [key]
  constructor
  · intro h
    refine ⟨fun i j hi hj hij e => ?_, fun q hq => ?_⟩
    · have := h.1 i j ws[i] ws[j] (List.getElem?_eq_getElem hi) (List.getElem?_eq_getElem hj) e
      omega
    · obtain ⟨i, hi⟩ := List.getElem?_of_mem hq
      exact h.2 i q hi
  · rintro ⟨h1, h2⟩
    refine ⟨fun i j p q hp hq e => ?_, fun i q hq => h2 q (List.mem_of_getElem? hq)⟩
    obtain ⟨hi, ei⟩ := List.getElem?_eq_some_iff.mp hp
    obtain ⟨hj, ej⟩ := List.getElem?_eq_some_iff.mp hq
    rcases Nat.lt_trichotomy i j with h | h | h
    · exact absurd (by rw [ei, ej, e]) (h1 i j hi hj h)
    · exact h
    · exact absurd (by rw [ei, ej, e]) (h1 j i hj hi h)
theorem va_P_iff {D : va_G} {cl : List vw_C} {ws : va_W} {H : Heap} : va_P D cl ws H ↔ ∀ q ∈ ws, va_at D cl q H :=
  ⟨fun h q hq => by obtain ⟨i, hi⟩ := List.getElem?_of_mem hq; exact h i q hi, fun h i q hq => h q (List.mem_of_getElem? hq)⟩
theorem GG.perm {ws2 : va_W} (h : ws.Perm ws2) (kk : GG X R cc nL Ts own ini sb Z Φ mc ms k n ws2 lv (st) pc) : GG X R cc nL Ts own ini sb Z Φ mc ms k n ws lv (st) pc := by
  obtain ⟨p, l, e, s, m, args, below, meth, c, D, A, Q⟩ := X
  intro S I E F H locs ls hW hl
  obtain ⟨hK, hP, hD, hS, hA⟩ := id hW
  refine kk S I E F H locs ls ⟨hK, va_P_iff.mpr (fun q hq => va_P_iff.mp hP q (h.mem_iff.mpr hq)), va_D_iff.mpr ⟨(h.map Prod.fst).nodup_iff.mp (va_D_iff.mp hD).1, fun q hq => (va_D_iff.mp hD).2 q (h.mem_iff.mpr hq)⟩, hS, hA⟩ hl
/-- blocks in another order -/
theorem blk_perm : ∀ (is : List Nat) (bs bs2 : List va_W), is.map (fun i => bs[i]?) = bs2.map some → (List.range bs.length).all (fun i => is.contains i) = true → va_nd is = true → bs.flatten.Perm bs2.flatten := by
  intro is bs bs2 h hl hn
  have hp : is.Perm (List.range bs.length) := by
    have hnd : is.Nodup := by
      clear h hl
      induction is with
      | nil => exact List.nodup_nil
      | cons i is ih =>
        simp only [va_nd, Bool.and_eq_true] at hn
        refine List.nodup_cons.mpr ⟨fun hi => ?_, ih hn.2⟩
        have h1 := hn.1
        simp [hi] at h1
    have hlt : ∀ i ∈ is, i < bs.length := by
      intro i hi
      have h1 : bs[i]? ∈ is.map (fun i => bs[i]?) := List.mem_map.mpr ⟨i, hi, rfl⟩
      rw [h] at h1
      obtain ⟨c, -, h2⟩ := List.mem_map.mp h1
      exact (List.getElem?_eq_some_iff.mp h2.symm).1
    exact (List.perm_ext_iff_of_nodup hnd List.nodup_range).mpr (fun a => ⟨fun ha => List.mem_range.mpr (hlt a ha), fun ha => by simpa using List.all_eq_true.mp hl a ha⟩)
  have h1 : (is.map (fun i => bs[i]?)).Perm ((List.range bs.length).map (fun i => bs[i]?)) := hp.map _
  have h2 : (List.range bs.length).map (fun i => bs[i]?) = bs.map some := by
    apply List.ext_getElem?
    intro i
    rw [List.getElem?_map, List.getElem?_map]
    by_cases hi : i < bs.length
    · rw [List.getElem?_eq_getElem (by rw [List.length_range]; exact hi), List.getElem_range, List.getElem?_eq_getElem hi]
      show some (bs[i]?) = some (some bs[i])
      rw [List.getElem?_eq_getElem hi]
    · rw [List.getElem?_eq_none (by rw [List.length_range]; omega), List.getElem?_eq_none (by omega)]
      rfl
  rw [h, h2] at h1
  have h3 : bs2.Perm bs := by
    have := h1.filterMap id
    simpa using this
  exact h3.symm.flatten
end
theorem ws_a {a b T T2 : va_W} (h : a = b) (t : T = T2) : a ++ T = b ++ T2 := by subst h; subst t; rfl
/-- a day's state: who asked last, heard, times, said on, speakers, sayings, relatives, day, said today, the deed, asked today, owner -/
abbrev DS : Type := (Nat → Int32) × (Nat → Int32) × (Nat → Int32) × (Nat → Nat) × (Nat → Nat) × (Nat → Nat) × Nat × Nat × Nat × Nat × Bool × Int32
def Sf (S : DS) : Nat → Int32 := S.1
def She (S : DS) : Nat → Int32 := S.2.1
def Sti (S : DS) : Nat → Int32 := S.2.2.1
def Ssn (S : DS) : Nat → Nat := S.2.2.2.1
def Ssp (S : DS) : Nat → Nat := S.2.2.2.2.1
def Ssy (S : DS) : Nat → Nat := S.2.2.2.2.2.1
def Sn (S : DS) : Nat := S.2.2.2.2.2.2.1
def Sdy (S : DS) : Nat := S.2.2.2.2.2.2.2.1
def Sse (S : DS) : Nat := S.2.2.2.2.2.2.2.2.1
def Sde (S : DS) : Nat := S.2.2.2.2.2.2.2.2.2.1
def Sak (S : DS) : Bool := S.2.2.2.2.2.2.2.2.2.2.1
def Sow (S : DS) : Int32 := S.2.2.2.2.2.2.2.2.2.2.2
def mkS (f he ti : Nat → Int32) (sn sp sy : Nat → Nat) (n dy said deed : Nat) (ak : Bool) (ow : Int32) : DS := (f, he, ti, sn, sp, sy, n, dy, said, deed, ak, ow)
/-- the cells of a Days at the addresses A 0, .., A 7 -/
def dW (Z : Nat → ClassId) (A : Nat → Nat) (S : DS) : va_W := [(A 0, .inr (1, [.ref (A 1), .ref (A 3), .ref (A 4), .ref (A 5), .ref (A 6), .ref (A 7), .int (nI (Sse S)), .int (nI (Sde S))])), (A 1, .inr (6, [.ref (A 2), .int (nI (Sn S)), .int (nI (Sdy S)), .int (bI (Sak S)), .int (Sow S)])), (A 2, .inl (Z 0, 6, .inl (Sf S))), (A 3, .inl (Z 0, 60, .inl (She S))), (A 4, .inl (Z 0, 6, .inl (Sti S))), (A 5, .inl (Z 0, 10, .inl (fun j => nI (Ssn S j)))), (A 6, .inl (Z 0, 40, .inl (fun j => nI (Ssp S j)))), (A 7, .inl (Z 0, 40, .inl (fun j => nI (Ssy S j))))]
/-- a pool of Days -/
def poolW (Z : Nat → ClassId) (AD : Nat → Nat → Nat) (ST : Nat → DS) (nr : Nat) : va_W := (List.range nr).flatMap (fun j => dW Z (AD j) (ST j))
def poolX (Z : Nat → ClassId) (AD : Nat → Nat → Nat) (ST : Nat → DS) (nr j : Nat) : va_W := ((List.range nr).filter (fun i => i != j)).flatMap (fun j => dW Z (AD j) (ST j))
theorem rng_perm {nr j : Nat} (hj : j < nr) : (List.range nr).Perm (j :: (List.range nr).filter (fun i => i != j)) := by
  have hnd : (j :: (List.range nr).filter (fun i => i != j)).Nodup := List.nodup_cons.mpr ⟨by simp, List.nodup_range.filter _⟩
  refine (List.perm_ext_iff_of_nodup List.nodup_range hnd).mpr (fun a => ?_)
  simp only [List.mem_range, List.mem_cons, List.mem_filter, bne_iff_ne]
  constructor
  · intro h
    by_cases e : a = j
    · exact Or.inl e
    · exact Or.inr ⟨h, e⟩
  · rintro (h | h)
    · omega
    · exact h.1
theorem pool_out {Z : Nat → ClassId} {AD : Nat → Nat → Nat} {ST : Nat → DS} {nr j : Nat} (hj : j < nr) (Y : va_W) : (Y ++ poolW Z AD ST nr).Perm (Y ++ (dW Z (AD j) (ST j) ++ poolX Z AD ST nr j)) :=
  List.Perm.append_left Y ((rng_perm hj).flatMap_right _)
theorem pool_in {Z : Nat → ClassId} {AD : Nat → Nat → Nat} {ST : Nat → DS} {nr j : Nat} {S : DS} (hj : j < nr) (Y : va_W) : (Y ++ (dW Z (AD j) S ++ poolX Z AD ST nr j)).Perm (Y ++ poolW Z AD (va_up ST j S) nr) := by
  have h := pool_out (Z := Z) (AD := AD) (ST := va_up ST j S) hj Y
  have e1 : va_up ST j S j = S := va_up_self _ _ _
  have e2 : poolX Z AD (va_up ST j S) nr j = poolX Z AD ST nr j := by
    unfold poolX
    show (List.map _ _).flatten = (List.map _ _).flatten
    congr 1
    apply List.map_congr_left
    intro i hi
    have h2 : i ≠ j := by simpa using (List.mem_filter.mp hi).2
    rw [va_up_ne _ _ h2]
  rw [e1, e2] at h
  exact h.symm

