section
variable {X : GX} {R : Room} {cc : ByteArray} {nL : Nat} {Ts : List Cond} {own : String} {ini sb : Bool} {Z : Nat → ClassId} {Φ : Option Value → va_W → Prop} {mc ms k n : Nat} {ws : va_W} {lv : List (Nat × Value)} {st : List Value} {pc q : Nat}
theorem GG.of {ws2 : va_W} {lv2 : List (Nat × Value)} {st2 : List Value} (h1 : ws = ws2) (h2 : lv = lv2) (h3 : st = st2) (kk : GG X R cc nL Ts own ini sb Z Φ mc ms k n ws2 lv2 (st2) pc) : GG X R cc nL Ts own ini sb Z Φ mc ms k n ws lv (st) pc := by
  subst h1; subst h2; subst h3; exact kk
theorem GG.drop {lv2 : List (Nat × Value)} (h : ∀ q ∈ lv2, q ∈ lv) (kk : GG X R cc nL Ts own ini sb Z Φ mc ms k n ws lv2 (st) pc) : GG X R cc nL Ts own ini sb Z Φ mc ms k n ws lv (st) pc := by
  obtain ⟨p, l, e, s, m, args, below, meth, c, D, A, Q⟩ := X
  intro S I E F H locs ls hW hl
  exact kk S I E F H locs ls hW (lv_fewer hl h)
theorem GG.pick {lv2 : List (Nat × Value)} (is : List Nat) (h : lv_pick lv is = lv2) (kk : GG X R cc nL Ts own ini sb Z Φ mc ms k n ws lv2 (st) pc) : GG X R cc nL Ts own ini sb Z Φ mc ms k n ws lv (st) pc := by
  obtain ⟨p, l, e, s, m, args, below, meth, c, D, A, Q⟩ := X
  intro S I E F H locs ls hW hl
  exact kk S I E F H locs ls hW (lv_sub hl is h)
theorem lv_c {i : Nat} {v w : Value} {l l2 : List (Nat × Value)} (h : v = w) (t : l = l2) : ((i, v) :: l) = ((i, w) :: l2) := by subst h; subst t; rfl
theorem ws_c {a b : Nat × va_E} {l l2 : va_W} (h : a = b) (t : l = l2) : a :: l = b :: l2 := by subst h; subst t; rfl
theorem st_c {a b : Value} {l l2 : List Value} (h : a = b) (t : l = l2) : a :: l = b :: l2 := by subst h; subst t; rfl
theorem vi_c {a b : Int32} (h : a = b) : Value.int a = Value.int b := by subst h; rfl
theorem vl_c {a b : Int64} (h : a = b) : Value.long a = Value.long b := by subst h; rfl
theorem G_top {x y : Int32} (h : x = y) (kk : GG X R cc nL Ts own ini sb Z Φ mc ms k n ws lv (.int y :: st) pc) : GG X R cc nL Ts own ini sb Z Φ mc ms k n ws lv (.int x :: st) pc := by subst h; exact kk
theorem G_topl {x y : Int64} (h : x = y) (kk : GG X R cc nL Ts own ini sb Z Φ mc ms k n ws lv (.long y :: st) pc) : GG X R cc nL Ts own ini sb Z Φ mc ms k n ws lv (.long x :: st) pc := by subst h; exact kk
/-- a pooled int array's cell holds f below its length alone -/
theorem arrV_ext {cA : ClassId} {N : Nat} {f g : Nat → Value} (h : ∀ j, j < N → f j = g j) : arrV cA N f = arrV cA N g := by
  unfold arrV
  congr 1
  apply Array.ext
  · simp
  · intro i h1 h2
    simp at h1
    simp [h i h1]
theorem va_at_ext {D : va_G} {cl : List vw_C} {a : Nat} {cA : ClassId} {N : Nat} {f g : Nat → Int32} {H : Heap} (h : ∀ j, j < N → f j = g j) (hp : va_at D cl (a, .inl (cA, N, .inl f)) H) : va_at D cl (a, .inl (cA, N, .inl g)) H := by
  have e : arrV cA N (fun j => Value.int (f j)) = arrV cA N (fun j => Value.int (g j)) := arrV_ext (fun j hj => by rw [h j hj])
  show H[a]? = some (arrV cA N (fun j => Value.int (g j)))
  rw [← e]
  exact hp
/-- cells alike: the same, or int arrays that agree below their length -/
def ceq (a b : Nat × va_E) : Prop := a = b ∨ ∃ (x : Nat) (cA : ClassId) (N : Nat) (f g : Nat → Int32), a = (x, .inl (cA, N, .inl f)) ∧ b = (x, .inl (cA, N, .inl g)) ∧ ∀ j, j < N → f j = g j
def weq : va_W → va_W → Prop
  | [], [] => True
  | a :: l, b :: l2 => ceq a b ∧ weq l l2
  | _, _ => False
theorem ceq.rf {a : Nat × va_E} : ceq a a := Or.inl rfl
theorem ceq.arr {x : Nat} {cA : ClassId} {N : Nat} {f g : Nat → Int32} (h : ∀ j, j < N → f j = g j) : ceq (x, .inl (cA, N, .inl f)) (x, .inl (cA, N, .inl g)) := Or.inr ⟨x, cA, N, f, g, rfl, rfl, h⟩
theorem weq.get : ∀ {w w2 : va_W}, weq w w2 → ∀ (i : Nat) (b : Nat × va_E), w2[i]? = some b → ∃ a, w[i]? = some a ∧ ceq a b
  | [], [], _, i, b, hb => by simp at hb
  | a :: l, b :: l2, h, 0, b', hb => ⟨a, rfl, (show b = b' by simpa using hb) ▸ h.1⟩
  | a :: l, b :: l2, h, i + 1, b', hb => by
    obtain ⟨c, h1, h2⟩ := weq.get h.2 i b' (by simpa using hb)
    exact ⟨c, by simpa using h1, h2⟩
  | [], _ :: _, h, _, _, _ => h.elim
  | _ :: _, [], h, _, _, _ => h.elim
theorem weq.rf : ∀ {w : va_W}, weq w w
  | [] => trivial
  | _ :: _ => ⟨ceq.rf, weq.rf⟩
theorem ceq.fst {a b : Nat × va_E} (h : ceq a b) : a.1 = b.1 := by
  rcases h with rfl | ⟨x, cA, N, f, g, rfl, rfl, -⟩ <;> rfl
theorem weq.P {D : va_G} {cl : List vw_C} {w w2 : va_W} {H : Heap} (h : weq w w2) (hP : va_P D cl w H) : va_P D cl w2 H := by
  intro i b hb
  obtain ⟨a, h1, h2⟩ := h.get i b hb
  have := hP i a h1
  rcases h2 with rfl | ⟨x, cA, N, f, g, rfl, rfl, hfg⟩
  · exact this
  · exact va_at_ext hfg this
theorem weq.D {A : Nat → Prop} {w w2 : va_W} (h : weq w w2) (hD : va_D A w) : va_D A w2 := by
  refine ⟨fun i j p q hp hq e => ?_, fun i q hq => ?_⟩
  · obtain ⟨a, h1, h2⟩ := h.get i p hp
    obtain ⟨b, h3, h4⟩ := h.get j q hq
    exact hD.1 i j a b h1 h3 (by rw [h2.fst, h4.fst]; exact e)
  · obtain ⟨a, h1, h2⟩ := h.get i q hq
    rw [← h2.fst]
    exact hD.2 i a h1
theorem GG.alike {ws2 : va_W} (h : weq ws ws2) (kk : GG X R cc nL Ts own ini sb Z Φ mc ms k n ws2 lv (st) pc) : GG X R cc nL Ts own ini sb Z Φ mc ms k n ws lv (st) pc := by
  obtain ⟨p, l, e, s, m, args, below, meth, c, D, A, Q⟩ := X
  intro S I E F H locs ls hW hl
  obtain ⟨hx, hb, hml, hown, hts⟩ := id S
  obtain ⟨hK, hP, hD, hS, hA⟩ := id hW
  exact kk S I E F H locs ls ⟨hK, h.P hP, h.D hD, hS, hA⟩ hl
-- fields
theorem G_get {index ci N : Nat} {a : Nat} {C : String} {T : u_T} {fs : List Value} {v : Value} (hd : decode cc pc = .ok (.getfield index, 3)) (q0 : Nat) (ha : ws[q0]? = some (a, .inr (ci, fs))) (hc : vwCl[ci]? = some (C, T, N)) (f : Nat) (hf : f < N) (hin : ∀ w ∈ u_ws C T N, w ∈ Ts) (hlink : Cond.fieldLink own index (T f).1 (T f).2.1 (T f).2.2.1 ∈ Ts) (hv : fs[f]? = some v) (hq : pc + 3 = q) (kk : GG X R cc nL Ts own ini sb Z Φ mc ms k n ws lv (v :: st) q) : GG X R cc nL Ts own ini sb Z Φ mc ms k n ws lv (.ref a :: st) pc := by
  obtain ⟨p, l, e, s, m, args, below, meth, c, D, A, Q⟩ := X
  intro S I E F H locs ls hW hl
  obtain ⟨hx, hb, hml, hown, hts⟩ := id S
  obtain ⟨hK, hP, hD, hS, hA⟩ := id hW
  subst hq
  exact va_get hx hb hts hin hown hK hP q0 ha hc f hf (hts _ hlink) (fun _ h => h) hv hd (kk S I E F H locs ls hW hl)
/-- a class's fields: types, apart -/
def CF (T : u_T) (N : Nat) (ty : Nat → FieldType) : Prop := (∀ k, k < N → parseFieldDescriptor (T k).2.2.1 = some (ty k)) ∧ ∀ a, a < N → ∀ b, b < N → a ≠ b → (T a).2.1 ≠ (T b).2.1
theorem G_put {index ci N : Nat} {a : Nat} {C : String} {T : u_T} {ty : Nat → FieldType} {fs : List Value} {v : Value} {ws2 : va_W} (hd : decode cc pc = .ok (.putfield index, 3)) (q0 : Nat) (ha : ws[q0]? = some (a, .inr (ci, fs))) (hc : vwCl[ci]? = some (C, T, N)) (hcf : CF T N ty) (f : Nat) (hf : f < N) (hin : ∀ w ∈ u_ws C T N, w ∈ Ts) (hlink : Cond.fieldLink own index (T f).1 (T f).2.1 (T f).2.2.1 ∈ Ts) (hfin : (T f).2.2.2 = false) (hn : narrow (ty f) v = v) (hfit : fits (ty f) v = true) (hlen : f < fs.length) (hws : ws.set q0 (a, .inr (ci, fs.set f v)) = ws2) (hq : pc + 3 = q) (kk : GG X R cc nL Ts own ini sb Z Φ mc ms k n ws2 lv (st) q) : GG X R cc nL Ts own ini sb Z Φ mc ms k n ws lv (v :: .ref a :: st) pc := by
  obtain ⟨p, l, e, s, m, args, below, meth, c, D, A, Q⟩ := X
  intro S I E F H locs ls hW hl
  obtain ⟨hx, hb, hml, hown, hts⟩ := id S
  obtain ⟨hK, hP, hD, hS, hA⟩ := id hW
  subst hq; subst hws
  exact va_put hx hb hts hin ty hcf.1 hcf.2 hown hK hP hD hS q0 ha hc f hf (hts _ hlink) (fun _ h => h) hfin (hcf.1 f hf) hn hfit hlen hd (fun H1 L1 p1 d1 s1 => kk S I E F H1 L1 ls ⟨hK, p1, d1, s1, hA⟩ hl)
theorem G_putF {index ci N : Nat} {a : Nat} {C : String} {T : u_T} {ty : Nat → FieldType} {fs : List Value} {v : Value} {ws2 : va_W} (hd : decode cc pc = .ok (.putfield index, 3)) (q0 : Nat) (ha : ws[q0]? = some (a, .inr (ci, fs))) (hc : vwCl[ci]? = some (C, T, N)) (hcf : CF T N ty) (f : Nat) (hf : f < N) (hin : ∀ w ∈ u_ws C T N, w ∈ Ts) (hlink : Cond.fieldLink own index (T f).1 (T f).2.1 (T f).2.2.1 ∈ Ts) (hfin : (T f).2.2.2 = true) (hi : ini = true) (hdecl : (T f).1 = own) (hn : narrow (ty f) v = v) (hfit : fits (ty f) v = true) (hlen : f < fs.length) (hws : ws.set q0 (a, .inr (ci, fs.set f v)) = ws2) (hq : pc + 3 = q) (kk : GG X R cc nL Ts own ini sb Z Φ mc ms k n ws2 lv (st) q) : GG X R cc nL Ts own ini sb Z Φ mc ms k n ws lv (v :: .ref a :: st) pc := by
  obtain ⟨p, l, e, s, m, args, below, meth, c, D, A, Q⟩ := X
  intro S I E F H locs ls hW hl
  obtain ⟨hx, hb, hml, hown, hts⟩ := id S
  obtain ⟨hK, hP, hD, hS, hA⟩ := id hW
  subst hq; subst hws
  exact va_putF hx hb hts hin ty hcf.1 hcf.2 hown hK hP hD hS q0 ha hc f hf (hts _ hlink) (fun _ h => h) hfin (I hi) hdecl (hcf.1 f hf) hn hfit hlen hd (fun H1 L1 p1 d1 s1 => kk S I E F H1 L1 ls ⟨hK, p1, d1, s1, hA⟩ hl)

theorem G_iald {a N : Nat} {f : Nat → Int32} {x : Int32} (hd : decode cc pc = .ok (.iaload, 1)) (q0 : Nat) (ha : ws[q0]? = some (a, .inl (Z 0, N, .inl f))) (j : Nat) (hj : x = nI j) (hlt : j < N) (hN : N < 2147483648) (hq : pc + 1 = q) (kk : GG X R cc nL Ts own ini sb Z Φ mc ms k n ws lv (.int (f j) :: st) q) : GG X R cc nL Ts own ini sb Z Φ mc ms k n ws lv (.int x :: .ref a :: st) pc := by
  obtain ⟨p, l, e, s, m, args, below, meth, c, D, A, Q⟩ := X
  intro S I E F H locs ls hW hl
  obtain ⟨hx, hb, hml, hown, hts⟩ := id S
  obtain ⟨hK, hP, hD, hS, hA⟩ := id hW
  subst hq; subst hj
  refine va_iald hx hb hK hP q0 0 ha rfl (vp_in_nI hlt hN) hd ?_
  rw [nI_clamp (Nat.lt_trans hlt hN)]
  exact kk S I E F H locs ls hW hl
theorem G_cald {a N : Nat} {f : Nat → Int32} {x : Int32} (hd : decode cc pc = .ok (.caload, 1)) (q0 : Nat) (ha : ws[q0]? = some (a, .inl (Z 1, N, .inl f))) (j : Nat) (hj : x = nI j) (hlt : j < N) (hN : N < 2147483648) (hq : pc + 1 = q) (kk : GG X R cc nL Ts own ini sb Z Φ mc ms k n ws lv (.int (f j) :: st) q) : GG X R cc nL Ts own ini sb Z Φ mc ms k n ws lv (.int x :: .ref a :: st) pc := by
  obtain ⟨p, l, e, s, m, args, below, meth, c, D, A, Q⟩ := X
  intro S I E F H locs ls hW hl
  obtain ⟨hx, hb, hml, hown, hts⟩ := id S
  obtain ⟨hK, hP, hD, hS, hA⟩ := id hW
  subst hq; subst hj
  refine va_cald hx hb hK hP q0 1 ha rfl (vp_in_nI hlt hN) hd ?_
  rw [nI_clamp (Nat.lt_trans hlt hN)]
  exact kk S I E F H locs ls hW hl
theorem G_zald {a N : Nat} {f : Nat → Int32} {x : Int32} (hd : decode cc pc = .ok (.baload, 1)) (q0 : Nat) (ha : ws[q0]? = some (a, .inl (Z 2, N, .inl f))) (j : Nat) (hj : x = nI j) (hlt : j < N) (hN : N < 2147483648) (hq : pc + 1 = q) (kk : GG X R cc nL Ts own ini sb Z Φ mc ms k n ws lv (.int (f j) :: st) q) : GG X R cc nL Ts own ini sb Z Φ mc ms k n ws lv (.int x :: .ref a :: st) pc := by
  obtain ⟨p, l, e, s, m, args, below, meth, c, D, A, Q⟩ := X
  intro S I E F H locs ls hW hl
  obtain ⟨hx, hb, hml, hown, hts⟩ := id S
  obtain ⟨hK, hP, hD, hS, hA⟩ := id hW
  subst hq; subst hj
  refine va_zald hx hb hK hP q0 2 ha rfl (vp_in_nI hlt hN) hd ?_
  rw [nI_clamp (Nat.lt_trans hlt hN)]
  exact kk S I E F H locs ls hW hl
theorem G_iast {a N : Nat} {f : Nat → Int32} {x v : Int32} {ws2 : va_W} (hd : decode cc pc = .ok (.iastore, 1)) (q0 : Nat) (ha : ws[q0]? = some (a, .inl (Z 0, N, .inl f))) (j : Nat) (hj : x = nI j) (hlt : j < N) (hN : N < 2147483648) (hws : ws.set q0 (a, .inl (Z 0, N, .inl (upd f j v))) = ws2) (hq : pc + 1 = q) (kk : GG X R cc nL Ts own ini sb Z Φ mc ms k n ws2 lv (st) q) : GG X R cc nL Ts own ini sb Z Φ mc ms k n ws lv (.int v :: .int x :: .ref a :: st) pc := by
  obtain ⟨p, l, e, s, m, args, below, meth, c, D, A, Q⟩ := X
  intro S I E F H locs ls hW hl
  obtain ⟨hx, hb, hml, hown, hts⟩ := id S
  obtain ⟨hK, hP, hD, hS, hA⟩ := id hW
  subst hq; subst hj; subst hws
  refine va_iast hx hb hK hP hD hS q0 0 ha rfl (vp_in_nI hlt hN) hd (fun H1 L1 p1 d1 s1 => ?_)
  rw [nI_clamp (Nat.lt_trans hlt hN)] at p1 d1
  exact kk S I E F H1 L1 ls ⟨hK, p1, d1, s1, hA⟩ hl
theorem G_cast {a N : Nat} {f : Nat → Int32} {x v : Int32} {ws2 : va_W} (hd : decode cc pc = .ok (.castore, 1)) (q0 : Nat) (ha : ws[q0]? = some (a, .inl (Z 1, N, .inl f))) (j : Nat) (hj : x = nI j) (hlt : j < N) (hN : N < 2147483648) (hv : vp_nar .char v = v) (hws : ws.set q0 (a, .inl (Z 1, N, .inl (upd f j v))) = ws2) (hq : pc + 1 = q) (kk : GG X R cc nL Ts own ini sb Z Φ mc ms k n ws2 lv (st) q) : GG X R cc nL Ts own ini sb Z Φ mc ms k n ws lv (.int v :: .int x :: .ref a :: st) pc := by
  obtain ⟨p, l, e, s, m, args, below, meth, c, D, A, Q⟩ := X
  intro S I E F H locs ls hW hl
  obtain ⟨hx, hb, hml, hown, hts⟩ := id S
  obtain ⟨hK, hP, hD, hS, hA⟩ := id hW
  subst hq; subst hj; subst hws
  refine va_cast hx hb hK hP hD hS q0 1 ha rfl (vp_in_nI hlt hN) hd (fun H1 L1 p1 d1 s1 => ?_)
  rw [nI_clamp (Nat.lt_trans hlt hN)] at p1 d1
  rw [hv] at p1 d1
  exact kk S I E F H1 L1 ls ⟨hK, p1, d1, s1, hA⟩ hl
theorem G_zast {a N : Nat} {f : Nat → Int32} {x v : Int32} {ws2 : va_W} (hd : decode cc pc = .ok (.bastore, 1)) (q0 : Nat) (ha : ws[q0]? = some (a, .inl (Z 2, N, .inl f))) (j : Nat) (hj : x = nI j) (hlt : j < N) (hN : N < 2147483648) (hv : vp_nar .boolean v = v) (hws : ws.set q0 (a, .inl (Z 2, N, .inl (upd f j v))) = ws2) (hq : pc + 1 = q) (kk : GG X R cc nL Ts own ini sb Z Φ mc ms k n ws2 lv (st) q) : GG X R cc nL Ts own ini sb Z Φ mc ms k n ws lv (.int v :: .int x :: .ref a :: st) pc := by
  obtain ⟨p, l, e, s, m, args, below, meth, c, D, A, Q⟩ := X
  intro S I E F H locs ls hW hl
  obtain ⟨hx, hb, hml, hown, hts⟩ := id S
  obtain ⟨hK, hP, hD, hS, hA⟩ := id hW
  subst hq; subst hj; subst hws
  refine va_zast hx hb hK hP hD hS q0 2 ha rfl (vp_in_nI hlt hN) hd (fun H1 L1 p1 d1 s1 => ?_)
  rw [nI_clamp (Nat.lt_trans hlt hN)] at p1 d1
  rw [hv] at p1 d1
  exact kk S I E F H1 L1 ls ⟨hK, p1, d1, s1, hA⟩ hl
theorem G_alen {a N zi : Nat} {f : (Nat → Int32) ⊕ (Nat → Int64) ⊕ (Nat → UInt32) ⊕ (Nat → UInt64) ⊕ (Nat → Option Nat)} {ty : FieldType} (hd : decode cc pc = .ok (.arraylength, 1)) (q0 : Nat) (ha : ws[q0]? = some (a, .inl (Z zi, N, f))) (hz : (tz Z)[zi]? = some (Z zi, ty)) (hq : pc + 1 = q) (kk : GG X R cc nL Ts own ini sb Z Φ mc ms k n ws lv (.int (nI N) :: st) q) : GG X R cc nL Ts own ini sb Z Φ mc ms k n ws lv (.ref a :: st) pc := by
  obtain ⟨p, l, e, s, m, args, below, meth, c, D, A, Q⟩ := X
  intro S I E F H locs ls hW hl
  obtain ⟨hx, hb, hml, hown, hts⟩ := id S
  obtain ⟨hK, hP, hD, hS, hA⟩ := id hW
  subst hq
  exact va_alen hx hb hK hP q0 zi ha hz rfl hd (kk S I E F H locs ls hW hl)
theorem G_aald {a N r : Nat} {f : Nat → Option Nat} {x : Int32} (hd : decode cc pc = .ok (.aaload, 1)) (q0 : Nat) (ha : ws[q0]? = some (a, .inl (Z 3, N, .inr (.inr (.inr (.inr f)))))) (j : Nat) (hj : x = nI j) (hlt : j < N) (hN : N < 2147483648) (hr : f j = some r) (hq : pc + 1 = q) (kk : GG X R cc nL Ts own ini sb Z Φ mc ms k n ws lv (.ref r :: st) q) : GG X R cc nL Ts own ini sb Z Φ mc ms k n ws lv (.int x :: .ref a :: st) pc := by
  obtain ⟨p, l, e, s, m, args, below, meth, c, D, A, Q⟩ := X
  intro S I E F H locs ls hW hl
  obtain ⟨hx, hb, hml, hown, hts⟩ := id S
  obtain ⟨hK, hP, hD, hS, hA⟩ := id hW
  subst hq; subst hj
  refine va_aldq hx hb hK hP q0 3 ha rfl (vp_in_nI hlt hN) hd ?_
  rw [nI_clamp (Nat.lt_trans hlt hN), hr]
  exact kk S I E F H locs ls hW hl
theorem G_aast {a N v ci : Nat} {r : vw_C} {fs : List Value} {f : Nat → Option Nat} {x : Int32} {ws2 : va_W} (hd : decode cc pc = .ok (.aastore, 1)) (q0 : Nat) (ha : ws[q0]? = some (a, .inl (Z 3, N, .inr (.inr (.inr (.inr f)))))) (hr : r.1 = RX1) (qk : Nat) (hv : ws[qk]? = some (v, .inr (ci, fs))) (hc : vwCl[ci]? = some r) (j : Nat) (hj : x = nI j) (hlt : j < N) (hN : N < 2147483648) (hws : ws.set q0 (a, .inl (Z 3, N, .inr (.inr (.inr (.inr (va_up f j (some v))))))) = ws2) (hq : pc + 1 = q) (kk : GG X R cc nL Ts own ini sb Z Φ mc ms k n ws2 lv (st) q) : GG X R cc nL Ts own ini sb Z Φ mc ms k n ws lv (.ref v :: .int x :: .ref a :: st) pc := by
  obtain ⟨p, l, e, s, m, args, below, meth, c, D, A, Q⟩ := X
  intro S I E F H locs ls hW hl
  obtain ⟨hx, hb, hml, hown, hts⟩ := id S
  obtain ⟨hK, hP, hD, hS, hA⟩ := id hW
  subst hq; subst hj; subst hws
  refine va_astq hx hb hK hP hD hS q0 3 qk ci ha (by rw [hr]; rfl) hv hc (vp_in_nI hlt hN) hd (fun H1 L1 p1 d1 s1 => ?_)
  rw [nI_clamp (Nat.lt_trans hlt hN)] at p1 d1
  exact kk S I E F H1 L1 ls ⟨hK, p1, d1, s1, hA⟩ hl
-- returns
theorem G_ret (hd : decode cc pc = .ok (.return_, 1)) (hk : k = mc) (hn : n = ms) (h : Φ none ws) : GG X R cc nL Ts own ini sb Z Φ mc ms k n ws lv ([]) pc := by
  obtain ⟨p, l, e, s, m, args, below, meth, c, D, A, Q⟩ := X
  intro S I E F H locs ls hW hl
  obtain ⟨hx, hb, hml, hown, hts⟩ := id S
  obtain ⟨hK, hP, hD, hS, hA⟩ := id hW
  subst hk; subst hn
  exact F none ws H locs ls pc h hd hW
theorem G_iret {x : Int32} (hd : decode cc pc = .ok (.ireturn, 1)) (hk : k = mc) (hn : n = ms) (h : Φ (some (.int x)) ws) : GG X R cc nL Ts own ini sb Z Φ mc ms k n ws lv ([.int x]) pc := by
  obtain ⟨p, l, e, s, m, args, below, meth, c, D, A, Q⟩ := X
  intro S I E F H locs ls hW hl
  obtain ⟨hx, hb, hml, hown, hts⟩ := id S
  obtain ⟨hK, hP, hD, hS, hA⟩ := id hW
  subst hk; subst hn
  exact F (some (.int x)) ws H locs ls pc h hd hW
theorem G_lret {x : Int64} (hd : decode cc pc = .ok (.lreturn, 1)) (hk : k = mc) (hn : n = ms) (h : Φ (some (.long x)) ws) : GG X R cc nL Ts own ini sb Z Φ mc ms k n ws lv ([.long x]) pc := by
  obtain ⟨p, l, e, s, m, args, below, meth, c, D, A, Q⟩ := X
  intro S I E F H locs ls hW hl
  obtain ⟨hx, hb, hml, hown, hts⟩ := id S
  obtain ⟨hK, hP, hD, hS, hA⟩ := id hW
  subst hk; subst hn
  exact F (some (.long x)) ws H locs ls pc h hd hW
theorem G_aret {x : Nat} (hd : decode cc pc = .ok (.areturn, 1)) (hk : k = mc) (hn : n = ms) (h : Φ (some (.ref x)) ws) : GG X R cc nL Ts own ini sb Z Φ mc ms k n ws lv ([.ref x]) pc := by
  obtain ⟨p, l, e, s, m, args, below, meth, c, D, A, Q⟩ := X
  intro S I E F H locs ls hW hl
  obtain ⟨hx, hb, hml, hown, hts⟩ := id S
  obtain ⟨hK, hP, hD, hS, hA⟩ := id hW
  subst hk; subst hn
  exact F (some (.ref x)) ws H locs ls pc h hd hW
-- calls
/-- what a caller needs of a method's name and words -/
def CS (y : MethodName) (Tc : List Cond) (bytes : ByteArray) (maxL : Nat) (ret : Option FieldType) (nn : Nat) : Prop :=
  (∃ w2, Tc = Cond.code y bytes maxL ret :: w2) ∧ y.cls ≠ "java/lang/invoke/MethodHandle" ∧ y.cls ≠ "java/lang/invoke/VarHandle" ∧ (parseMethodDescriptor y.desc).map (fun d => d.parameters.length) = some nn
theorem fb_Ct {as : List Value} {sz : Nat} {D : va_G} {w0 : va_W} {sb2 : Bool} {A2 : Nat → Prop} : FrameBlind (va_Pc as (fun U => U.heap.size = sz ∧ va_P D vwCl w0 U.heap ∧ va_K D vwCl (tz Z) U ∧ va_D (fun _ => True) w0 ∧ EE sb2 Z U A2)) :=
  fun a U g mk h => ⟨h.1, h.2.1, h.2.2.1, va_K.moved (u := U) (U := U.calling g mk a) (Vm.Alike.refl U.vm) h.2.2.2.1, h.2.2.2.2.1, h.2.2.2.2.2.same (U2 := U.calling g mk a) rfl rfl⟩
theorem put_get : ∀ (is : List Nat) (w ws : va_W), is.length = w.length → va_nd is = true → (∀ i ∈ is, i < ws.length) → ∀ (j : Nat) (x : Nat × va_E), (putw ws is w)[j]? = some x → (∃ t : Nat, is[t]? = some j ∧ w[t]? = some x) ∨ (j ∉ is ∧ ws[j]? = some x)
  | [], [], ws, _, _, _, j, x, h => Or.inr ⟨List.not_mem_nil, h⟩
  | i :: is, c :: w, ws, hl, hn, hb, j, x, h => by
    simp only [va_nd, Bool.and_eq_true] at hn
    have h2 := put_get is w (ws.set i c) (by simpa using hl) hn.2 (fun t ht => by rw [List.length_set]; exact hb t (List.mem_cons_of_mem _ ht)) j x h
    rcases h2 with ⟨t, h3, h4⟩ | ⟨h3, h4⟩
    · exact Or.inl ⟨t + 1, by simpa using h3, by simpa using h4⟩
    · by_cases hij : i = j
      · subst hij
        rw [List.getElem?_set_self (hb i List.mem_cons_self)] at h4
        exact Or.inl ⟨0, rfl, by simpa using h4⟩
      · rw [List.getElem?_set_ne hij] at h4
        exact Or.inr ⟨fun q => (List.mem_cons.mp q).elim (fun e => hij e.symm) h3, h4⟩
  | [], _ :: _, _, hl, _, _, _, _, _ => by simp at hl
  | _ :: _, [], _, hl, _, _, _, _, _ => by simp at hl
theorem put_fst : ∀ (is : List Nat) (w ws : va_W) (w0 : va_W), is.map (fun i => ws[i]?) = w0.map some → w.map Prod.fst = w0.map Prod.fst → va_nd is = true → (putw ws is w).map Prod.fst = ws.map Prod.fst
  | [], w, ws, w0, _, _, _ => by cases w <;> rfl
  | i :: is, [], ws, w0, hs, hf, _ => rfl
  | i :: is, c :: w, ws, [], hs, hf, _ => by simp at hs
  | i :: is, c :: w, ws, c0 :: w0, hs, hf, hn => by
    simp only [va_nd, Bool.and_eq_true] at hn
    simp only [List.map_cons, List.cons.injEq] at hs hf
    have hni : i ∉ is := by
      intro hi
      have h1 := hn.1
      simp [hi] at h1
    have e : is.map (fun j => (ws.set i c)[j]?) = is.map (fun j => ws[j]?) := by
      apply List.map_congr_left
      intro j hj
      rw [List.getElem?_set_ne (fun q : i = j => hni (by rw [q]; exact hj))]
    show (putw (ws.set i c) is w).map Prod.fst = _
    rw [put_fst is w (ws.set i c) w0 (e.trans hs.2) hf.2 hn.2]
    rw [List.map_set]
    have h3 : ws[i]? = some c0 := hs.1
    obtain ⟨hlt, h4⟩ := List.getElem?_eq_some_iff.mp h3
    apply List.ext_getElem
    · simp
    · intro j h5 h6
      by_cases hij : i = j
      · subst hij
        simp [h4, hf.1]
      · simp [List.getElem_set_ne hij]
theorem fst_get {w w2 : va_W} (h : w.map Prod.fst = w2.map Prod.fst) {i : Nat} {x : Nat × va_E} (hx : w[i]? = some x) : ∃ y, w2[i]? = some y ∧ y.1 = x.1 := by
  have e : (w.map Prod.fst)[i]? = (w2.map Prod.fst)[i]? := by rw [h]
  rw [List.getElem?_map, List.getElem?_map, hx] at e
  cases hy : w2[i]? with
  | none => rw [hy] at e; cases e
  | some y => rw [hy] at e; exact ⟨y, rfl, (Option.some.inj e).symm⟩
theorem put_len {is : List Nat} {ws w0 : va_W} (hs : is.map (fun i => ws[i]?) = w0.map some) : is.length = w0.length ∧ ∀ i ∈ is, i < ws.length := by
  refine ⟨by simpa using congrArg List.length hs, fun i hi => ?_⟩
  have h1 : ws[i]? ∈ is.map (fun i => ws[i]?) := List.mem_map.mpr ⟨i, hi, rfl⟩
  rw [hs] at h1
  obtain ⟨c, -, h2⟩ := List.mem_map.mp h1
  exact (List.getElem?_eq_some_iff.mp h2.symm).1
theorem sub_P {D : va_G} {cl : List vw_C} {H : Heap} {is : List Nat} {ws w0 : va_W} (hs : is.map (fun i => ws[i]?) = w0.map some) (hP : va_P D cl ws H) : va_P D cl w0 H := by
  intro j x hx
  have h1 : (is.map (fun i => ws[i]?))[j]? = some (some x) := by rw [hs, List.getElem?_map, hx]; rfl
  rw [List.getElem?_map] at h1
  cases hi : is[j]? with
  | none => rw [hi] at h1; cases h1
  | some i => rw [hi] at h1; exact hP i x (Option.some.inj h1)
theorem sub_D {A : Nat → Prop} {is : List Nat} {ws w0 : va_W} (hs : is.map (fun i => ws[i]?) = w0.map some) (hn : va_nd is = true) (hD : va_D A ws) : va_D A w0 := hD.sub is hn hs
/-- in place: a callee's cells, as they came back, in the caller's world -/
theorem put_join {A0 : Nat → Prop} {D : va_G} {cl : List vw_C} {is : List Nat} {ws w0 w1 : va_W} {H H1 : Heap} (hP : va_P D cl ws H) (hD : va_D A0 ws) (hs : is.map (fun i => ws[i]?) = w0.map some) (hn : va_nd is = true) (hf : w1.map Prod.fst = w0.map Prod.fst)
    (hk : ∀ q : Nat, q < H.size → ¬ va_A w0 H.size q → H1[q]? = H[q]?) (hP1 : va_P D cl w1 H1) : va_P D cl (putw ws is w1) H1 ∧ va_D A0 (putw ws is w1) := by
  obtain ⟨hl, hb⟩ := put_len hs
  have hl1 : is.length = w1.length := by
    have := congrArg List.length hf
    simp at this
    omega
  refine ⟨fun j x hx => ?_, ?_⟩
  · rcases put_get is w1 ws hl1 hn hb j x hx with ⟨t, -, h2⟩ | ⟨h1, h2⟩
    · exact hP1 t x h2
    · refine (hP j x h2).kept (hk x.1 ((hP j x h2).lt) (fun hA => ?_))
      rcases hA with ⟨t, e, h3⟩ | h3
      · have h4 : (is.map (fun i => ws[i]?))[t]? = some (some (x.1, e)) := by rw [hs, List.getElem?_map, h3]; rfl
        rw [List.getElem?_map] at h4
        cases hi : is[t]? with
        | none => rw [hi] at h4; cases h4
        | some i =>
          rw [hi] at h4
          have := hD.1 i j _ _ (Option.some.inj h4) h2 rfl
          subst this
          exact h1 (List.mem_of_getElem? hi)
      · exact absurd (hP j x h2).lt (Nat.not_lt.mpr h3)
  · have hfst := put_fst is w1 ws w0 hs hf hn
    refine ⟨fun i j x y hx hy he => ?_, fun j x hx => ?_⟩
    · obtain ⟨x', h1, h2⟩ := fst_get hfst hx
      obtain ⟨y', h3, h4⟩ := fst_get hfst hy
      exact hD.1 i j x' y' h1 h3 (by rw [h2, h4]; exact he)
    · obtain ⟨x', h1, h2⟩ := fst_get hfst hx
      rw [← h2]
      exact hD.2 j x' h1
/-- a call whose contract is Ct, its cells standing where they stood -/
theorem G_run {sb2 : Bool} {y : MethodName} {Tc : List Cond} {Rc : Room} {as rest : List Value} {w0 : va_W} {Φc : Option Value → va_W → Prop} {mc2 ms2 : Nat} (is : List Nat) (hs : is.map (fun i => ws[i]?) = w0.map some) (hn : va_nd is = true)
    (hrun : ∀ (p : Program) (l : Launch) (e : Env) (s : State) (m : MethodId) (args : Array Value) (below : List Frame) (meth : Method) (c : Code) (D : va_G) (A : Nat → Prop) (H : Heap) (locs : List Loc) (ls : Array Slot), CallFix p m c cc nL s args Ts own → ls.size = nL → va_K D vwCl (tz Z) s → va_P D vwCl ws H → va_P D vwCl w0 H → va_D (fun _ => True) w0 → (∀ U : State, U.heap = H → s.WarmedH U.vm → EE sb2 Z U (va_A w0 H.size)) → Met l y Tc Rc (va_Pc as (fun U => U.heap.size = H.size ∧ va_P D vwCl w0 U.heap ∧ va_K D vwCl (tz Z) U ∧ va_D (fun _ => True) w0 ∧ EE sb2 Z U (va_A w0 H.size))) (QG D Z Φc (va_A w0 H.size)) mc2 ms2 (va_A w0 H.size) →
      va_Run p l e R s m args below meth c H locs k n mc2 ms2 (F0 m pc ls st) rest (QG D Z Φc (va_A w0 H.size) as.toArray) (va_A w0 H.size))
    (hsb : sb2 = true → sb = true) (hC : Ct sb2 y Tc Rc as Z w0 Φc mc2 ms2)
    (kk : ∀ (v : Option Value) (w1 : va_W), Φc v w1 → w1.map Prod.fst = w0.map Prod.fst → GG X R cc nL Ts own ini sb Z Φ mc ms (k + mc2) (n + ms2) (putw ws is w1) lv (v.toList ++ rest) (pc + 3)) (hfst : ∀ v w1, Φc v w1 → w1.map Prod.fst = w0.map Prod.fst) : GG X R cc nL Ts own ini sb Z Φ mc ms k n ws lv (st) pc := by
  obtain ⟨p, l, e, s, m, args, below, meth, c, D, A, Q⟩ := X
  intro S I E F H locs ls hW hl
  obtain ⟨hx, hb, hml, hown, hts⟩ := id S
  obtain ⟨hK, hP, hD, hS, hA⟩ := id hW
  have hP0 := sub_P hs hP
  have hD0 := sub_D hs hn hD
  have hF : ∀ q, va_A w0 H.size q → A q := fun q h => by
    rcases h with ⟨t, e0, h3⟩ | h3
    · exact hD0.2 t (q, e0) h3
    · exact hA q (Nat.le_trans hS.1 h3)
  have hr := hrun p l e s m args below meth c D A H locs ls S hl.1 hK hP hP0 (hD0.weaken (fun _ _ _ _ => trivial)) (fun U hU hWm => E.call hWm hU hS hF hsb) (hC l D H.size)
  intro T hT XX
  obtain ⟨v, st₀, t, T', L, h0, X', hL, e1, e2, ⟨⟨v2, w1, hv, hΦ, hp1, -⟩, hz, hkeep⟩, stp⟩ := hr T hT XX
  cases hv
  rw [h0] at hz hkeep
  obtain ⟨j1, j2⟩ := put_join hP hD hs hn (hfst v w1 hΦ) hkeep hp1
  obtain ⟨t2, a1, b1⟩ := kk v w1 hΦ (hfst v w1 hΦ) S I E F T'.heap (locs ++ L) ls ⟨hK, by rw [e1]; exact j1, j2, ⟨Nat.le_trans hS.1 (by rw [e1]; exact hz), fun q h1 h2 => by rw [e1, hkeep q (Nat.lt_of_lt_of_le h1 hS.1) (fun z => h2 (hF q z))]; exact hS.2.1 q h1 h2, fun q hq => by
      rcases List.mem_append.mp hq with h | h
      · exact hS.2.2 q h
      · exact hF _ (hL q h)⟩, hA⟩ hl T' rfl X'
  exact ⟨t2, stp t2 a1, b1⟩
/-- an instance's method -/
theorem G_callV {sb2 : Bool} {y : MethodName} {Tc : List Cond} {Rc : Room} {bytes : ByteArray} {maxL nn index b ci : Nat} {ret : Option FieldType} {C : String} {T : u_T} {N : Nat} {fs : List Value} {As rest : List Value} {w0 : va_W} {Φc : Option Value → va_W → Prop} (hd : decode cc pc = .ok (.invokevirtual index, 3)) (is : List Nat)
    (hC : Ct sb2 y Tc Rc (.ref b :: As) Z w0 Φc 0 0) (hsb : sb2 = true → sb = true) (hk : CS y Tc bytes maxL ret nn) (hG : GoodIn Ts (wsV own index C y Tc)) (hcls : y.cls = C) (hR : Rc.frames + 1 ≤ R.frames ∧ 8 + (maxL + 11) + Rc.locals ≤ R.locals) (hrm : Rc.cells = 0 ∧ Rc.slots = 0)
    (q0 : Nat) (hrec : ws[q0]? = some (b, .inr (ci, fs))) (hci : vwCl[ci]? = some (C, T, N)) (hs : is.map (fun i => ws[i]?) = w0.map some) (hnd : va_nd is = true) (hAs : As.length = nn) (hst : st = As.reverse ++ .ref b :: rest) (hcat : (rest.map fun v => v.category).sum ≤ 8) (hroom : k ≤ R.cells ∧ n ≤ R.slots)
    (hfst : ∀ v w1, Φc v w1 → w1.map Prod.fst = w0.map Prod.fst) (hq : pc + 3 = q)
    (kk : ∀ (v : Option Value) (w1 : va_W), Φc v w1 → GG X R cc nL Ts own ini sb Z Φ mc ms k n (putw ws is w1) lv (v.toList ++ rest) q) : GG X R cc nL Ts own ini sb Z Φ mc ms k n ws lv (st) pc := by
  subst hq
  obtain ⟨⟨w2, hw⟩, hy1, hy2, hy3⟩ := hk
  refine G_run (rest := rest) is hs hnd (fun p l e s m args below meth c D A H locs ls S hls hK hP hP0 hD0 hEE hM => ?_) hsb hC (fun v w1 h _ => kk v w1 h) hfst
  exact va_runV S hM (cwV nn S.2.2.2.2 hG hw hrm.1 hrm.2 ⟨hcls, hy1, hy2, hy3⟩ hR) ⟨fb_Ct, va_recv hK hP hci hrec, fun U hU hW => ⟨rfl, by rw [hU], by rw [hU]; exact hP0, va_K.moved hW.alike hK, hD0, hEE U hU hW⟩⟩ rfl hAs hls hst (lv_room hcat) hd hroom
/-- a static method of the same class -/
theorem G_callS {sb2 : Bool} {y : MethodName} {Tc : List Cond} {Rc : Room} {bytes : ByteArray} {maxL nn index : Nat} {ret : Option FieldType} {As rest : List Value} {w0 : va_W} {Φc : Option Value → va_W → Prop} (hd : decode cc pc = .ok (.invokestatic index, 3)) (is : List Nat)
    (hC : Ct sb2 y Tc Rc As Z w0 Φc 0 0) (hsb : sb2 = true → sb = true) (hk : CS y Tc bytes maxL ret nn) (hG : GoodIn Ts (va_wsS own index y Tc)) (hR : Rc.frames + 1 ≤ R.frames ∧ 8 + (maxL + 11) + Rc.locals ≤ R.locals) (hrm : Rc.cells = 0 ∧ Rc.slots = 0)
    (hs : is.map (fun i => ws[i]?) = w0.map some) (hnd : va_nd is = true) (hAs : As.length = nn) (hst : st = As.reverse ++ rest) (hcat : (rest.map fun v => v.category).sum ≤ 8) (hroom : k ≤ R.cells ∧ n ≤ R.slots)
    (hfst : ∀ v w1, Φc v w1 → w1.map Prod.fst = w0.map Prod.fst) (hq : pc + 3 = q)
    (kk : ∀ (v : Option Value) (w1 : va_W), Φc v w1 → GG X R cc nL Ts own ini sb Z Φ mc ms k n (putw ws is w1) lv (v.toList ++ rest) q) : GG X R cc nL Ts own ini sb Z Φ mc ms k n ws lv (st) pc := by
  subst hq
  obtain ⟨⟨w2, hw⟩, hy1, hy2, hy3⟩ := hk
  refine G_run (rest := rest) is hs hnd (fun p l e s m args below meth c D A H locs ls S hls hK hP hP0 hD0 hEE hM => ?_) hsb hC (fun v w1 h _ => kk v w1 h) hfst
  exact va_runS S hM (va_cwS nn S.2.2.2.2 hG hw hrm.1 hrm.2 ⟨hy1, hy2, hy3⟩ hR) ⟨fb_Ct, fun U hU hW => ⟨rfl, by rw [hU], by rw [hU]; exact hP0, va_K.moved hW.alike hK, hD0, hEE U hU hW⟩⟩ rfl hAs hls hst (lv_room hcat) hd hroom
end
