/-! a judgement over the kit's W: code, world, locals and stack alone are told; heap, frame and machine are hidden -/
section
abbrev GX : Type := Program × Launch × Env × State × MethodId × Array Value × List Frame × Method × Code × va_G × (Nat → Prop) × (State → Prop)
def tz (Z : Nat → ClassId) : List (ClassId × FieldType) := [(Z 0, .int), (Z 1, .char), (Z 2, .boolean), (Z 3, .object RX1)]
/-- words on nest mates' constructors -/
def nestW : List (String × Nat × MethodName × String) := [("LastToAsk", 18, ⟨"LastToAsk$Family", "<init>", "()V"⟩, "LastToAsk"), ("LastToAsk", 28, ⟨"LastToAsk$Days", "<init>", "()V"⟩, "LastToAsk"), ("LastToAsk", 47, ⟨"LastToAsk$Told", "<init>", "()V"⟩, "LastToAsk"), ("LastToAsk", 54, ⟨"LastToAsk$Turns", "<init>", "()V"⟩, "LastToAsk"), ("LastToAsk", 61, ⟨"LastToAsk$Chance", "<init>", "()V"⟩, "LastToAsk"), ("LastToAsk", 68, ⟨"LastToAsk$YearAhead", "<init>", "()V"⟩, "LastToAsk"), ("LastToAsk", 9, ⟨"LastToAsk$Text", "<init>", "()V"⟩, "LastToAsk"), ("LastToAsk$Chance", 9, ⟨"LastToAsk$Trust", "<init>", "()V"⟩, "LastToAsk"), ("LastToAsk$Days", 11, ⟨"LastToAsk$Trust", "<init>", "()V"⟩, "LastToAsk"), ("LastToAsk$Past", 21, ⟨"LastToAsk$Days", "<init>", "()V"⟩, "LastToAsk"), ("LastToAsk$Told", 20, ⟨"LastToAsk$Trust", "<init>", "()V"⟩, "LastToAsk"), ("LastToAsk$Turns", 17, ⟨"LastToAsk$Trust", "<init>", "()V"⟩, "LastToAsk"), ("LastToAsk$YearAhead", 9, ⟨"LastToAsk$Trust", "<init>", "()V"⟩, "LastToAsk")]
def NW (s : State) : Prop := ∀ w ∈ nestW, va_Nw (.methodLinkNest w.1 w.2.1 w.2.2.1 w.2.2.2) s
def tx0 : String := "r0,40,1;r1,12,2;r2,55,0;r3,3,1;r4,70,9;s1,1;s6,0;s5,1;s14,0;s8,1;s3,0;d5;h2;"
def bx0 : List Int32 := [114, 48, 44, 52, 48, 44, 49, 59, 114, 49, 44, 49, 50, 44, 50, 59, 114, 50, 44, 53, 53, 44, 48, 59, 114, 51, 44, 51, 44, 49, 59, 114, 52, 44, 55, 48, 44, 57, 59, 115, 49, 44, 49, 59, 115, 54, 44, 48, 59, 115, 53, 44, 49, 59, 115, 49, 52, 44, 48, 59, 115, 56, 44, 49, 59, 115, 51, 44, 48, 59, 100, 53, 59, 104, 50, 59]
/-- what holds of the machine at a method's entry: nest mates, the class of arrays over Days; where sb is true also the String constant -/
def EE (sb : Bool) (Z : Nat → ClassId) (s : State) (A : Nat → Prop) : Prop := NW s ∧ va_AO RX1 s ∧ (sb = true → vk_R RX9 73 tx0 (Z 4) s ∧ vk_S 1 [76] [bx0] (fun _ => Z 4) (fun _ => Z 5) A s s.heap ∧ va_Z "java/lang/String" "COMPACT_STRINGS" "Z" (.int 1) A s s.heap ∧ va_Zq "jdk/internal/util/Preconditions" "SIOOBE_FORMATTER" "Ljava/util/function/BiFunction;" A s s.heap)
theorem EE.same {sb : Bool} {Z : Nat → ClassId} {U U2 : State} {A : Nat → Prop} (hv : U2.vm = U.vm) (hh : U2.heap = U.heap) (h : EE sb Z U A) : EE sb Z U2 A := by
  have ha : U.vm.Alike U2.vm := by rw [hv]; exact Vm.Alike.refl U.vm
  refine ⟨fun w hw => va_tabs rfl hv.symm (h.1 w hw), h.2.1.moved ha, fun q => ?_⟩
  obtain ⟨h1, h2, h3, h4⟩ := h.2.2 q
  exact ⟨vk_R.same hv h1, by rw [hh]; exact h2.moved ha, by rw [hh]; exact h3.moved ha, by rw [hh]; exact h4.moved ha⟩
theorem EE.call {sb sb2 : Bool} {Z : Nat → ClassId} {s U : State} {H : Heap} {locs : List Loc} {A A2 : Nat → Prop} (h : EE sb Z s A) (hW : s.WarmedH U.vm) (hU : U.heap = H) (hS : va_S A s.heap H locs) (hA : ∀ q, A2 q → A q) (hb : sb2 = true → sb = true) : EE sb2 Z U A2 := by
  refine ⟨fun w hw => va_Nw.warmM hW (h.1 w hw), h.2.1.moved hW.alike, fun q => ?_⟩
  obtain ⟨h1, h2, h3, h4⟩ := h.2.2 (hb q)
  exact ⟨vk_R.warm hW h1, by rw [hU]; exact ((h2.kept hS.2.1).narrow hA).moved hW.alike, by rw [hU]; exact ((h3.kept hS.2.1).narrow hA).moved hW.alike, by rw [hU]; exact ((h4.kept hS.2.1).narrow hA).moved hW.alike⟩
def SW (D : va_G) (Z : Nat → ClassId) (A : Nat → Prop) (s : State) (ws : va_W) (H : Heap) (locs : List Loc) : Prop :=
  va_K D vwCl (tz Z) s ∧ va_P D vwCl ws H ∧ va_D A ws ∧ va_S A s.heap H locs ∧ ∀ q : Nat, s.heap.size ≤ q → A q
def retd (cc : ByteArray) (pc : Nat) (v : Option Value) : Prop := match v with
  | none => decode cc pc = .ok (.return_, 1)
  | some (.int _) => decode cc pc = .ok (.ireturn, 1)
  | some (.long _) => decode cc pc = .ok (.lreturn, 1)
  | some (.ref _) => decode cc pc = .ok (.areturn, 1)
  | some .null => decode cc pc = .ok (.areturn, 1)
  | _ => False
def okret (ret : Option FieldType) (v : Option Value) : Prop := match v with
  | none => ret = none
  | some (.int x) => ∃ ty : FieldType, ret = some ty ∧ narrow ty (.int x) = .int x
  | some (.long _) => ret = some .long
  | some (.ref _) => ∃ n, ret = some (.object n)
  | some .null => ∃ n, ret = some (.object n)
  | _ => False
def GG (X : GX) (R : Room) (cc : ByteArray) (nL : Nat) (Ts : List Cond) (own : String) (ini sb : Bool) (Z : Nat → ClassId) (Φ : Option Value → va_W → Prop) (mc ms k n : Nat) (ws : va_W) (lv : List (Nat × Value)) (st : List Value) (pc : Nat) : Prop :=
  match X with
  | (p, l, e, s, m, args, below, meth, c, D, A, Q) =>
    CallFix p m c cc nL s args Ts own → (ini = true → meth.name = "<init>") → EE sb Z s A →
    (∀ (v : Option Value) (ws : va_W) (H : Heap) (locs : List Loc) (ls : Array Slot) (pc : Nat), Φ v ws → retd cc pc v → SW D Z A s ws H locs → W p l e R s m args below meth c H locs mc ms Q (F0 m pc ls v.toList)) →
    ∀ (H : Heap) (locs : List Loc) (ls : Array Slot), SW D Z A s ws H locs → lv_has ls nL lv → W p l e R s m args below meth c H locs k n Q (F0 m pc ls st)
/-- what a contract's world is, behind -/
def QG (D : va_G) (_ : Nat → ClassId) (Φ : Option Value → va_W → Prop) (A : Nat → Prop) : Array Value → State → Outcome → State → Prop := fun _ st oc t =>
  (∃ (v : Option Value) (w : va_W), oc = .returned v ∧ Φ v w ∧ va_P D vwCl w t.heap ∧ va_D A w) ∧ va_F A st t
/-- a method's contract -/
def Ct (sb : Bool) (y : MethodName) (Ts : List Cond) (R : Room) (as : List Value) (Z : Nat → ClassId) (w0 : va_W) (Φ : Option Value → va_W → Prop) (mc ms : Nat) : Prop :=
  ∀ (l : Launch) (D : va_G) (sz : Nat), Met l y Ts R (va_Pc as (fun U => U.heap.size = sz ∧ va_P D vwCl w0 U.heap ∧ va_K D vwCl (tz Z) U ∧ va_D (fun _ => True) w0 ∧ EE sb Z U (va_A w0 sz))) (QG D Z Φ (va_A w0 sz)) mc ms (va_A w0 sz)
/-- answers that are told: an int, nothing, a long, a reference; with the world behind -/
def rX (x : Option Value) (w : va_W) : Option Value → va_W → Prop := fun v w' => v = x ∧ w' = w
abbrev rI (x : Int32) (w : va_W) : Option Value → va_W → Prop := rX (some (.int x)) w
abbrev rV (w : va_W) : Option Value → va_W → Prop := rX none w
abbrev rL (x : Int64) (w : va_W) : Option Value → va_W → Prop := rX (some (.long x)) w
abbrev rA (x : Nat) (w : va_W) : Option Value → va_W → Prop := rX (some (.ref x)) w
set_option maxHeartbeats 4000000 in
theorem Ct_of {y : MethodName} {Ts ws' : List Cond} {R : Room} {as : List Value} {Z : Nat → ClassId} {w0 : va_W} {Φ : Option Value → va_W → Prop} {mc ms : Nat} {cc : ByteArray} {maxL : Nat} {ret : Option FieldType} {own : String} (ini sb : Bool)
    (hy : plainFor y = true) (hw : Ts = Cond.code y cc maxL ret :: ws') (hown : y.cls = own) (hini : ini = true → y.name = "<init>") (hret : ∀ v w, Φ v w → okret ret v) (hla : (lg_sl as).length ≤ maxL)
    (body : ∀ X : GX, GG X R cc maxL Ts own ini sb Z Φ mc ms 0 0 w0 (lv_args 0 as) [] 0) : Ct sb y Ts R as Z w0 Φ mc ms := by
  intro l D sz
  refine va_MetF (cc := cc) (maxL := maxL) (ret := ret) hy hw ?_
  intro p e s m args below meth c s₁ B hml hv
  obtain ⟨rfl, hsz, hP, hK, hD0, hE⟩ := hv
  have hr := B.returns
  have hlocks := B.notSynchronized
  have hnm : meth.name = y.name := (name_of_methodNamed B.named B.method).1
  have hcl : s.vm.findClass own = some m.cls := by rw [← hown]; exact findClass_of_methodNamed B.named
  subst hsz
  have h := body (p, l, e, s, m, as.toArray, below, meth, c, D, va_A w0 s.heap.size, MQ below (QG D Z Φ (va_A w0 s.heap.size)) as.toArray s mc ms (va_A w0 s.heap.size))
  have hl := lv_entry as (n := maxL) hla
  rw [lg_entry_eq]
  refine h ⟨B.exec, B.bytes, hml, hcl, atoms_spec (ws := Ts) B.pre⟩ (fun q => by rw [hnm]; exact hini q) hE ?_ s.heap [] _ ⟨hK, hP, hD0.self, va_S.rf, fun q hq => Or.inr hq⟩ hl
  intro v ws H locs ls pc hΦ hd hS
  obtain ⟨k1, k2, k3, k4, k5⟩ := hS
  have hok := hret v ws hΦ
  match v, hΦ, hd, hok with
  | none, hΦ, hd, hok => exact W.vret B.exec B.bytes (by rw [hr]; exact hok) (fun t ht hW => ⟨⟨none, ws, rfl, hΦ, by rw [ht]; exact k2, k3⟩, k4.F ht⟩) k4.2.2 hd
  | some (.int x), hΦ, hd, hok =>
    obtain ⟨ty, hty, hn⟩ := hok
    exact W.zret (ty := ty) B.exec B.bytes (by rw [hr]; exact hty) hn (fun t ht hW => ⟨⟨some (.int x), ws, rfl, hΦ, by rw [ht]; exact k2, k3⟩, k4.F ht⟩) k4.2.2 hd
  | some (.long x), hΦ, hd, hok => exact W.lret B.exec B.bytes (by rw [hr]; exact hok) (fun t ht hW => ⟨⟨some (.long x), ws, rfl, hΦ, by rw [ht]; exact k2, k3⟩, k4.F ht⟩) k4.2.2 hd
  | some (.ref x), hΦ, hd, hok =>
    obtain ⟨nm, hty⟩ := hok
    exact W.aret (rt := .object nm) B.exec B.bytes (by rw [hr]; exact hty) (Or.inl ⟨nm, rfl⟩) (Or.inr ⟨x, rfl⟩) (fun t ht hW => ⟨⟨some (.ref x), ws, rfl, hΦ, by rw [ht]; exact k2, k3⟩, k4.F ht⟩) k4.2.2 hd
  | some .null, hΦ, hd, hok =>
    obtain ⟨nm, hty⟩ := hok
    exact W.aret (rt := .object nm) B.exec B.bytes (by rw [hr]; exact hty) (Or.inl ⟨nm, rfl⟩) (Or.inl rfl) (fun t ht hW => ⟨⟨some .null, ws, rfl, hΦ, by rw [ht]; exact k2, k3⟩, k4.F ht⟩) k4.2.2 hd
  | some (.float x), hΦ, hd, hok => exact hd.elim
  | some (.double x), hΦ, hd, hok => exact hd.elim
  | some (.retAddr x), hΦ, hd, hok => exact hd.elim
/-- a world's cells put in at places -/
def putw (ws : va_W) : List Nat → va_W → va_W
  | i :: is, q :: w => putw (ws.set i q) is w
  | _, _ => ws
def lvset (lv : List (Nat × Value)) (i : Nat) (v : Value) : List (Nat × Value) := match lv with
  | [] => [(i, v)]
  | (j, w) :: t => if j = i then (i, v) :: t else if i < j then (i, v) :: (j, w) :: t else (j, w) :: lvset t i v
theorem lvset_mem {lv : List (Nat × Value)} {i : Nat} {v : Value} {q : Nat × Value} (h : q ∈ lvset lv i v) : q = (i, v) ∨ q ∈ lv := by
  induction lv with
  | nil => exact Or.inl (List.mem_singleton.mp h)
  | cons a t ih =>
    obtain ⟨j, w⟩ := a
    simp only [lvset] at h
    split at h
    · rcases List.mem_cons.mp h with h | h
      · exact Or.inl h
      · exact Or.inr (List.mem_cons_of_mem _ h)
    · split at h
      · rcases List.mem_cons.mp h with h | h
        · exact Or.inl h
        · exact Or.inr h
      · rcases List.mem_cons.mp h with h | h
        · exact Or.inr (by rw [h]; exact List.mem_cons_self)
        · rcases ih h with h | h
          · exact Or.inl h
          · exact Or.inr (List.mem_cons_of_mem _ h)
theorem lv_fewer {ls : Array Slot} {nL : Nat} {l l' : List (Nat × Value)} (h : lv_has ls nL l) (hm : ∀ q ∈ l', q ∈ l) : lv_has ls nL l' := ⟨h.1, h.2.1, fun q hq => h.2.2 q (hm q hq)⟩
theorem lv_fix {ls : Array Slot} {nL i : Nat} {v : Value} {lv l' : List (Nat × Value)} {f : Nat × Value → Bool} (h : lv_has ls nL ((i, v) :: lv.filter f)) (hl : lvset (lv.filter f) i v = l') : lv_has ls nL l' := by
  subst hl
  exact lv_fewer h (fun q hq => (lvset_mem hq).elim (fun e => by rw [e]; exact List.mem_cons_self) (fun e => List.mem_cons_of_mem _ e))
theorem nz_i {a : Nat} (ha : a < 2147483648) : nI a = 0 ↔ a = 0 := nI_eq (b := 0) ha (by decide)
theorem nz_eqT {a : Nat} (ha : a < 2147483648) (h : nI a = 0) : a = 0 := (nz_i ha).mp h
theorem nz_eqF {a : Nat} (ha : a < 2147483648) (h : ¬ nI a = 0) : a ≠ 0 := fun z => h ((nz_i ha).mpr z)
theorem nz_neT {a : Nat} (ha : a < 2147483648) (h : ¬ nI a = 0) : a ≠ 0 := nz_eqF ha h
theorem nz_neF {a : Nat} (ha : a < 2147483648) (h : nI a = 0) : a = 0 := nz_eqT ha h
theorem nz_ltT {a : Nat} (ha : a < 2147483648) (h : nI a < 0) : False := nI_pos ha h
theorem nz_ltF {a : Nat} (_ : a < 2147483648) (_ : ¬ nI a < 0) : True := trivial
theorem nz_geT {a : Nat} (_ : a < 2147483648) (_ : 0 ≤ nI a) : True := trivial
theorem nz_geF {a : Nat} (ha : a < 2147483648) (h : ¬ 0 ≤ nI a) : False := h (nI_pos' ha)
theorem nz_gtT {a : Nat} (ha : a < 2147483648) (h : 0 < nI a) : a ≠ 0 := Nat.pos_iff_ne_zero.mp ((nI_ltI (a := 0) (by decide) ha).mp h)
theorem nz_gtF {a : Nat} (ha : a < 2147483648) (h : ¬ 0 < nI a) : a = 0 := Nat.eq_zero_of_not_pos fun z => h ((nI_ltI (a := 0) (by decide) ha).mpr z)
theorem nz_leT {a : Nat} (ha : a < 2147483648) (h : nI a ≤ 0) : a = 0 := Nat.le_zero.mp ((nI_leI (b := 0) ha (by decide)).mp h)
theorem nz_leF {a : Nat} (ha : a < 2147483648) (h : ¬ nI a ≤ 0) : a ≠ 0 := fun z => h ((nI_leI (b := 0) ha (by decide)).mpr (Nat.le_of_eq z))
variable {X : GX} {R : Room} {cc : ByteArray} {nL : Nat} {Ts : List Cond} {own : String} {ini sb : Bool} {Z : Nat → ClassId} {Φ : Option Value → va_W → Prop} {mc ms k n : Nat} {ws : va_W} {lv : List (Nat × Value)} {st : List Value} {pc q : Nat}

theorem G_iconst {i : Int} {v : Int32} (hd : decode cc pc = .ok (.iconst i, 1)) (hv : Int32.ofInt i = v) (hq : pc + 1 = q) (kk : GG X R cc nL Ts own ini sb Z Φ mc ms k n ws lv (.int v :: st) q) : GG X R cc nL Ts own ini sb Z Φ mc ms k n ws lv (st) pc := by
  obtain ⟨p, l, e, s, m, args, below, meth, c, D, A, Q⟩ := X
  intro S I E F H locs ls hW hl
  obtain ⟨hx, hb, hml, hown, hts⟩ := id S
  subst hq
  exact lv_iconst hx hb hd hv (kk S I E F H locs ls hW hl)
theorem G_bipush {i : Int} {v : Int32} (hd : decode cc pc = .ok (.bipush i, 2)) (hv : (Int8.ofInt i).toInt32 = v) (hq : pc + 2 = q) (kk : GG X R cc nL Ts own ini sb Z Φ mc ms k n ws lv (.int v :: st) q) : GG X R cc nL Ts own ini sb Z Φ mc ms k n ws lv (st) pc := by
  obtain ⟨p, l, e, s, m, args, below, meth, c, D, A, Q⟩ := X
  intro S I E F H locs ls hW hl
  obtain ⟨hx, hb, hml, hown, hts⟩ := id S
  subst hq
  exact lv_bipush hx hb hd hv (kk S I E F H locs ls hW hl)
theorem G_sipush {i : Int} {v : Int32} (hd : decode cc pc = .ok (.sipush i, 3)) (hv : (Int16.ofInt i).toInt32 = v) (hq : pc + 3 = q) (kk : GG X R cc nL Ts own ini sb Z Φ mc ms k n ws lv (.int v :: st) q) : GG X R cc nL Ts own ini sb Z Φ mc ms k n ws lv (st) pc := by
  obtain ⟨p, l, e, s, m, args, below, meth, c, D, A, Q⟩ := X
  intro S I E F H locs ls hW hl
  obtain ⟨hx, hb, hml, hown, hts⟩ := id S
  subst hq
  exact lv_sipush hx hb hd hv (kk S I E F H locs ls hW hl)
theorem G_lconst {i : Fin 2} {v : Int64} (hd : decode cc pc = .ok (.lconst i, 1)) (hv : Int64.ofNat (i : Nat) = v) (hq : pc + 1 = q) (kk : GG X R cc nL Ts own ini sb Z Φ mc ms k n ws lv (.long v :: st) q) : GG X R cc nL Ts own ini sb Z Φ mc ms k n ws lv (st) pc := by
  obtain ⟨p, l, e, s, m, args, below, meth, c, D, A, Q⟩ := X
  intro S I E F H locs ls hW hl
  obtain ⟨hx, hb, hml, hown, hts⟩ := id S
  subst hq
  exact lv_lconst hx hb hd hv (kk S I E F H locs ls hW hl)
theorem G_ldc {index : Nat} {v : Int32} (hd : decode cc pc = .ok (.ldc index, 2)) (hc : Cond.constant own index v ∈ Ts) (hq : pc + 2 = q) (kk : GG X R cc nL Ts own ini sb Z Φ mc ms k n ws lv (.int v :: st) q) : GG X R cc nL Ts own ini sb Z Φ mc ms k n ws lv (st) pc := by
  obtain ⟨p, l, e, s, m, args, below, meth, c, D, A, Q⟩ := X
  intro S I E F H locs ls hW hl
  obtain ⟨hx, hb, hml, hown, hts⟩ := id S
  subst hq
  exact lv_ldc hx hb hown (hts _ hc) hd (kk S I E F H locs ls hW hl)
theorem G_ldcw {index : Nat} {v : Int32} (hd : decode cc pc = .ok (.ldc_w index, 3)) (hc : Cond.constant own index v ∈ Ts) (hq : pc + 3 = q) (kk : GG X R cc nL Ts own ini sb Z Φ mc ms k n ws lv (.int v :: st) q) : GG X R cc nL Ts own ini sb Z Φ mc ms k n ws lv (st) pc := by
  obtain ⟨p, l, e, s, m, args, below, meth, c, D, A, Q⟩ := X
  intro S I E F H locs ls hW hl
  obtain ⟨hx, hb, hml, hown, hts⟩ := id S
  subst hq
  exact lv_ldcw hx hb hown (hts _ hc) hd (kk S I E F H locs ls hW hl)
theorem G_ldc2 {index : Nat} {v : Int64} (hd : decode cc pc = .ok (.ldc2_w index, 3)) (hc : Cond.constantLong own index v ∈ Ts) (hq : pc + 3 = q) (kk : GG X R cc nL Ts own ini sb Z Φ mc ms k n ws lv (.long v :: st) q) : GG X R cc nL Ts own ini sb Z Φ mc ms k n ws lv (st) pc := by
  obtain ⟨p, l, e, s, m, args, below, meth, c, D, A, Q⟩ := X
  intro S I E F H locs ls hW hl
  obtain ⟨hx, hb, hml, hown, hts⟩ := id S
  subst hq
  exact lv_ldc2 hx hb hown (hts _ hc) hd (kk S I E F H locs ls hW hl)
theorem G_iload_n {i : Fin 4} {j : Nat} {x : Int32} (hd : decode cc pc = .ok (.iload_n i, 1)) (hi : (i : Nat) = j) (a : Nat) (ha : lv[a]? = some (j, .int x)) (hq : pc + 1 = q) (kk : GG X R cc nL Ts own ini sb Z Φ mc ms k n ws lv (.int x :: st) q) : GG X R cc nL Ts own ini sb Z Φ mc ms k n ws lv (st) pc := by
  obtain ⟨p, l, e, s, m, args, below, meth, c, D, A, Q⟩ := X
  intro S I E F H locs ls hW hl
  obtain ⟨hx, hb, hml, hown, hts⟩ := id S
  subst hq
  exact lv_iload_n hx hb hd hi (lv_at hl a ha) (kk S I E F H locs ls hW hl)
theorem G_iload {j : Nat} {x : Int32} (hd : decode cc pc = .ok (.iload j, 2)) (a : Nat) (ha : lv[a]? = some (j, .int x)) (hq : pc + 2 = q) (kk : GG X R cc nL Ts own ini sb Z Φ mc ms k n ws lv (.int x :: st) q) : GG X R cc nL Ts own ini sb Z Φ mc ms k n ws lv (st) pc := by
  obtain ⟨p, l, e, s, m, args, below, meth, c, D, A, Q⟩ := X
  intro S I E F H locs ls hW hl
  obtain ⟨hx, hb, hml, hown, hts⟩ := id S
  subst hq
  exact lv_iload hx hb hd (lv_at hl a ha) (kk S I E F H locs ls hW hl)
theorem G_lload_n {i : Fin 4} {j : Nat} {x : Int64} (hd : decode cc pc = .ok (.lload_n i, 1)) (hi : (i : Nat) = j) (a : Nat) (ha : lv[a]? = some (j, .long x)) (hq : pc + 1 = q) (kk : GG X R cc nL Ts own ini sb Z Φ mc ms k n ws lv (.long x :: st) q) : GG X R cc nL Ts own ini sb Z Φ mc ms k n ws lv (st) pc := by
  obtain ⟨p, l, e, s, m, args, below, meth, c, D, A, Q⟩ := X
  intro S I E F H locs ls hW hl
  obtain ⟨hx, hb, hml, hown, hts⟩ := id S
  subst hq
  exact lv_lload_n hx hb hd hi (lv_at hl a ha) (kk S I E F H locs ls hW hl)
theorem G_lload {j : Nat} {x : Int64} (hd : decode cc pc = .ok (.lload j, 2)) (a : Nat) (ha : lv[a]? = some (j, .long x)) (hq : pc + 2 = q) (kk : GG X R cc nL Ts own ini sb Z Φ mc ms k n ws lv (.long x :: st) q) : GG X R cc nL Ts own ini sb Z Φ mc ms k n ws lv (st) pc := by
  obtain ⟨p, l, e, s, m, args, below, meth, c, D, A, Q⟩ := X
  intro S I E F H locs ls hW hl
  obtain ⟨hx, hb, hml, hown, hts⟩ := id S
  subst hq
  exact lv_lload hx hb hd (lv_at hl a ha) (kk S I E F H locs ls hW hl)
theorem G_aload_n {i : Fin 4} {j : Nat} {x : Nat} (hd : decode cc pc = .ok (.aload_n i, 1)) (hi : (i : Nat) = j) (a : Nat) (ha : lv[a]? = some (j, .ref x)) (hq : pc + 1 = q) (kk : GG X R cc nL Ts own ini sb Z Φ mc ms k n ws lv (.ref x :: st) q) : GG X R cc nL Ts own ini sb Z Φ mc ms k n ws lv (st) pc := by
  obtain ⟨p, l, e, s, m, args, below, meth, c, D, A, Q⟩ := X
  intro S I E F H locs ls hW hl
  obtain ⟨hx, hb, hml, hown, hts⟩ := id S
  subst hq
  exact lv_aload_n hx hb hd hi (lv_at hl a ha) (kk S I E F H locs ls hW hl)
theorem G_aload {j : Nat} {x : Nat} (hd : decode cc pc = .ok (.aload j, 2)) (a : Nat) (ha : lv[a]? = some (j, .ref x)) (hq : pc + 2 = q) (kk : GG X R cc nL Ts own ini sb Z Φ mc ms k n ws lv (.ref x :: st) q) : GG X R cc nL Ts own ini sb Z Φ mc ms k n ws lv (st) pc := by
  obtain ⟨p, l, e, s, m, args, below, meth, c, D, A, Q⟩ := X
  intro S I E F H locs ls hW hl
  obtain ⟨hx, hb, hml, hown, hts⟩ := id S
  subst hq
  exact lv_aload hx hb hd (lv_at hl a ha) (kk S I E F H locs ls hW hl)
theorem G_istore_n {j : Fin 4} {i : Nat} {x : Int32} {lv2 : List (Nat × Value)} (hd : decode cc pc = .ok (.istore_n j, 1)) (hi : (j : Nat) = i) (hn : i < nL) (hv : lvset (lv.filter (fun q => !(q.1 == i) && !(q.1 + 1 == i && q.2.category == 2))) i (.int x) = lv2) (hq : pc + 1 = q) (kk : GG X R cc nL Ts own ini sb Z Φ mc ms k n ws lv2 (st) q) : GG X R cc nL Ts own ini sb Z Φ mc ms k n ws lv (.int x :: st) pc := by
  obtain ⟨p, l, e, s, m, args, below, meth, c, D, A, Q⟩ := X
  intro S I E F H locs ls hW hl
  obtain ⟨hx, hb, hml, hown, hts⟩ := id S
  subst hq
  exact lv_istore_n hx hb hd hi hl hn rfl (fun ls2 hl2 => kk S I E F H locs ls2 hW (lv_fix hl2 hv))
theorem G_istore {i : Nat} {x : Int32} {lv2 : List (Nat × Value)} (hd : decode cc pc = .ok (.istore i, 2)) (hn : i < nL) (hv : lvset (lv.filter (fun q => !(q.1 == i) && !(q.1 + 1 == i && q.2.category == 2))) i (.int x) = lv2) (hq : pc + 2 = q) (kk : GG X R cc nL Ts own ini sb Z Φ mc ms k n ws lv2 (st) q) : GG X R cc nL Ts own ini sb Z Φ mc ms k n ws lv (.int x :: st) pc := by
  obtain ⟨p, l, e, s, m, args, below, meth, c, D, A, Q⟩ := X
  intro S I E F H locs ls hW hl
  obtain ⟨hx, hb, hml, hown, hts⟩ := id S
  subst hq
  exact lv_istore hx hb hd hl hn rfl (fun ls2 hl2 => kk S I E F H locs ls2 hW (lv_fix hl2 hv))
theorem G_lstore_n {j : Fin 4} {i : Nat} {x : Int64} {lv2 : List (Nat × Value)} (hd : decode cc pc = .ok (.lstore_n j, 1)) (hi : (j : Nat) = i) (hn : i + 1 < nL) (hv : lvset (lv.filter (fun q => !(q.1 == i) && (!(q.1 == i + 1) && !(q.1 + 1 == i && q.2.category == 2)))) i (.long x) = lv2) (hq : pc + 1 = q) (kk : GG X R cc nL Ts own ini sb Z Φ mc ms k n ws lv2 (st) q) : GG X R cc nL Ts own ini sb Z Φ mc ms k n ws lv (.long x :: st) pc := by
  obtain ⟨p, l, e, s, m, args, below, meth, c, D, A, Q⟩ := X
  intro S I E F H locs ls hW hl
  obtain ⟨hx, hb, hml, hown, hts⟩ := id S
  subst hq
  exact lv_lstore_n hx hb hd hi hl hn rfl (fun ls2 hl2 => kk S I E F H locs ls2 hW (lv_fix hl2 hv))
theorem G_lstore {i : Nat} {x : Int64} {lv2 : List (Nat × Value)} (hd : decode cc pc = .ok (.lstore i, 2)) (hn : i + 1 < nL) (hv : lvset (lv.filter (fun q => !(q.1 == i) && (!(q.1 == i + 1) && !(q.1 + 1 == i && q.2.category == 2)))) i (.long x) = lv2) (hq : pc + 2 = q) (kk : GG X R cc nL Ts own ini sb Z Φ mc ms k n ws lv2 (st) q) : GG X R cc nL Ts own ini sb Z Φ mc ms k n ws lv (.long x :: st) pc := by
  obtain ⟨p, l, e, s, m, args, below, meth, c, D, A, Q⟩ := X
  intro S I E F H locs ls hW hl
  obtain ⟨hx, hb, hml, hown, hts⟩ := id S
  subst hq
  exact lv_lstore hx hb hd hl hn rfl (fun ls2 hl2 => kk S I E F H locs ls2 hW (lv_fix hl2 hv))
theorem G_astore_n {j : Fin 4} {i : Nat} {x : Nat} {lv2 : List (Nat × Value)} (hd : decode cc pc = .ok (.astore_n j, 1)) (hi : (j : Nat) = i) (hn : i < nL) (hv : lvset (lv.filter (fun q => !(q.1 == i) && !(q.1 + 1 == i && q.2.category == 2))) i (.ref x) = lv2) (hq : pc + 1 = q) (kk : GG X R cc nL Ts own ini sb Z Φ mc ms k n ws lv2 (st) q) : GG X R cc nL Ts own ini sb Z Φ mc ms k n ws lv (.ref x :: st) pc := by
  obtain ⟨p, l, e, s, m, args, below, meth, c, D, A, Q⟩ := X
  intro S I E F H locs ls hW hl
  obtain ⟨hx, hb, hml, hown, hts⟩ := id S
  subst hq
  exact lv_astore_n hx hb hd hi hl hn rfl (fun ls2 hl2 => kk S I E F H locs ls2 hW (lv_fix hl2 hv))
theorem G_astore {i : Nat} {x : Nat} {lv2 : List (Nat × Value)} (hd : decode cc pc = .ok (.astore i, 2)) (hn : i < nL) (hv : lvset (lv.filter (fun q => !(q.1 == i) && !(q.1 + 1 == i && q.2.category == 2))) i (.ref x) = lv2) (hq : pc + 2 = q) (kk : GG X R cc nL Ts own ini sb Z Φ mc ms k n ws lv2 (st) q) : GG X R cc nL Ts own ini sb Z Φ mc ms k n ws lv (.ref x :: st) pc := by
  obtain ⟨p, l, e, s, m, args, below, meth, c, D, A, Q⟩ := X
  intro S I E F H locs ls hW hl
  obtain ⟨hx, hb, hml, hown, hts⟩ := id S
  subst hq
  exact lv_astore hx hb hd hl hn rfl (fun ls2 hl2 => kk S I E F H locs ls2 hW (lv_fix hl2 hv))
theorem G_iinc {i : Nat} {z : Int} {x y : Int32} {lv2 : List (Nat × Value)} (hd : decode cc pc = .ok (.iinc i z, 3)) (a : Nat) (ha : lv[a]? = some (i, .int x)) (hy : x + Int32.ofInt z = y) (hn : i < nL) (hv : lvset (lv.filter (fun q => !(q.1 == i) && !(q.1 + 1 == i && q.2.category == 2))) i (.int y) = lv2) (hq : pc + 3 = q) (kk : GG X R cc nL Ts own ini sb Z Φ mc ms k n ws lv2 (st) q) : GG X R cc nL Ts own ini sb Z Φ mc ms k n ws lv (st) pc := by
  obtain ⟨p, l, e, s, m, args, below, meth, c, D, A, Q⟩ := X
  intro S I E F H locs ls hW hl
  obtain ⟨hx, hb, hml, hown, hts⟩ := id S
  subst hq
  exact lv_iinc hx hb hd hl ha hy hn rfl (fun ls2 hl2 => kk S I E F H locs ls2 hW (lv_fix hl2 hv))
theorem G_iadd {x y : Int32} (hd : decode cc pc = .ok (.iadd, 1))  (hq : pc + 1 = q) (kk : GG X R cc nL Ts own ini sb Z Φ mc ms k n ws lv (.int (x + y) :: st) q) : GG X R cc nL Ts own ini sb Z Φ mc ms k n ws lv (.int y :: .int x :: st) pc := by
  obtain ⟨p, l, e, s, m, args, below, meth, c, D, A, Q⟩ := X
  intro S I E F H locs ls hW hl
  obtain ⟨hx, hb, hml, hown, hts⟩ := id S
  subst hq
  exact lv_iadd hx hb hd (kk S I E F H locs ls hW hl)
theorem G_isub {x y : Int32} (hd : decode cc pc = .ok (.isub, 1))  (hq : pc + 1 = q) (kk : GG X R cc nL Ts own ini sb Z Φ mc ms k n ws lv (.int (x - y) :: st) q) : GG X R cc nL Ts own ini sb Z Φ mc ms k n ws lv (.int y :: .int x :: st) pc := by
  obtain ⟨p, l, e, s, m, args, below, meth, c, D, A, Q⟩ := X
  intro S I E F H locs ls hW hl
  obtain ⟨hx, hb, hml, hown, hts⟩ := id S
  subst hq
  exact lv_isub hx hb hd (kk S I E F H locs ls hW hl)
theorem G_imul {x y : Int32} (hd : decode cc pc = .ok (.imul, 1))  (hq : pc + 1 = q) (kk : GG X R cc nL Ts own ini sb Z Φ mc ms k n ws lv (.int (x * y) :: st) q) : GG X R cc nL Ts own ini sb Z Φ mc ms k n ws lv (.int y :: .int x :: st) pc := by
  obtain ⟨p, l, e, s, m, args, below, meth, c, D, A, Q⟩ := X
  intro S I E F H locs ls hW hl
  obtain ⟨hx, hb, hml, hown, hts⟩ := id S
  subst hq
  exact lv_imul hx hb hd (kk S I E F H locs ls hW hl)
theorem G_iand {x y : Int32} (hd : decode cc pc = .ok (.iand, 1))  (hq : pc + 1 = q) (kk : GG X R cc nL Ts own ini sb Z Φ mc ms k n ws lv (.int (x &&& y) :: st) q) : GG X R cc nL Ts own ini sb Z Φ mc ms k n ws lv (.int y :: .int x :: st) pc := by
  obtain ⟨p, l, e, s, m, args, below, meth, c, D, A, Q⟩ := X
  intro S I E F H locs ls hW hl
  obtain ⟨hx, hb, hml, hown, hts⟩ := id S
  subst hq
  exact lv_iand hx hb hd (kk S I E F H locs ls hW hl)
theorem G_ior {x y : Int32} (hd : decode cc pc = .ok (.ior, 1))  (hq : pc + 1 = q) (kk : GG X R cc nL Ts own ini sb Z Φ mc ms k n ws lv (.int (x ||| y) :: st) q) : GG X R cc nL Ts own ini sb Z Φ mc ms k n ws lv (.int y :: .int x :: st) pc := by
  obtain ⟨p, l, e, s, m, args, below, meth, c, D, A, Q⟩ := X
  intro S I E F H locs ls hW hl
  obtain ⟨hx, hb, hml, hown, hts⟩ := id S
  subst hq
  exact lv_ior hx hb hd (kk S I E F H locs ls hW hl)
theorem G_idiv {x y : Int32} (hd : decode cc pc = .ok (.idiv, 1)) (hne : ¬ y = 0) (hq : pc + 1 = q) (kk : GG X R cc nL Ts own ini sb Z Φ mc ms k n ws lv (.int (x / y) :: st) q) : GG X R cc nL Ts own ini sb Z Φ mc ms k n ws lv (.int y :: .int x :: st) pc := by
  obtain ⟨p, l, e, s, m, args, below, meth, c, D, A, Q⟩ := X
  intro S I E F H locs ls hW hl
  obtain ⟨hx, hb, hml, hown, hts⟩ := id S
  subst hq
  exact lv_idiv hx hb hd hne (kk S I E F H locs ls hW hl)
theorem G_irem {x y : Int32} (hd : decode cc pc = .ok (.irem, 1)) (hne : ¬ y = 0) (hq : pc + 1 = q) (kk : GG X R cc nL Ts own ini sb Z Φ mc ms k n ws lv (.int (x - x / y * y) :: st) q) : GG X R cc nL Ts own ini sb Z Φ mc ms k n ws lv (.int y :: .int x :: st) pc := by
  obtain ⟨p, l, e, s, m, args, below, meth, c, D, A, Q⟩ := X
  intro S I E F H locs ls hW hl
  obtain ⟨hx, hb, hml, hown, hts⟩ := id S
  subst hq
  exact lv_irem hx hb hd hne (kk S I E F H locs ls hW hl)
theorem G_ishl {x y : Int32} (hd : decode cc pc = .ok (.ishl, 1))  (hq : pc + 1 = q) (kk : GG X R cc nL Ts own ini sb Z Φ mc ms k n ws lv (.int (x <<< (y &&& 31)) :: st) q) : GG X R cc nL Ts own ini sb Z Φ mc ms k n ws lv (.int y :: .int x :: st) pc := by
  obtain ⟨p, l, e, s, m, args, below, meth, c, D, A, Q⟩ := X
  intro S I E F H locs ls hW hl
  obtain ⟨hx, hb, hml, hown, hts⟩ := id S
  subst hq
  exact lv_ishl hx hb hd (kk S I E F H locs ls hW hl)
theorem G_ishr {x y : Int32} (hd : decode cc pc = .ok (.ishr, 1))  (hq : pc + 1 = q) (kk : GG X R cc nL Ts own ini sb Z Φ mc ms k n ws lv (.int (x >>> (y &&& 31)) :: st) q) : GG X R cc nL Ts own ini sb Z Φ mc ms k n ws lv (.int y :: .int x :: st) pc := by
  obtain ⟨p, l, e, s, m, args, below, meth, c, D, A, Q⟩ := X
  intro S I E F H locs ls hW hl
  obtain ⟨hx, hb, hml, hown, hts⟩ := id S
  subst hq
  exact lv_ishr hx hb hd (kk S I E F H locs ls hW hl)
theorem G_iushr {x y : Int32} (hd : decode cc pc = .ok (.iushr, 1))  (hq : pc + 1 = q) (kk : GG X R cc nL Ts own ini sb Z Φ mc ms k n ws lv (.int ((x.toUInt32 >>> (y.toUInt32 &&& Int32.toUInt32 31)).toInt32) :: st) q) : GG X R cc nL Ts own ini sb Z Φ mc ms k n ws lv (.int y :: .int x :: st) pc := by
  obtain ⟨p, l, e, s, m, args, below, meth, c, D, A, Q⟩ := X
  intro S I E F H locs ls hW hl
  obtain ⟨hx, hb, hml, hown, hts⟩ := id S
  subst hq
  exact lv_iushr hx hb hd rfl (kk S I E F H locs ls hW hl)
theorem G_ineg {x : Int32} (hd : decode cc pc = .ok (.ineg, 1))  (hq : pc + 1 = q) (kk : GG X R cc nL Ts own ini sb Z Φ mc ms k n ws lv (.int (-x) :: st) q) : GG X R cc nL Ts own ini sb Z Φ mc ms k n ws lv (.int x :: st) pc := by
  obtain ⟨p, l, e, s, m, args, below, meth, c, D, A, Q⟩ := X
  intro S I E F H locs ls hW hl
  obtain ⟨hx, hb, hml, hown, hts⟩ := id S
  subst hq
  exact lv_ineg hx hb hd (kk S I E F H locs ls hW hl)
theorem G_iaddE {x y : Int32} (hd : decode cc pc = .ok (.iadd, 1))  (z : Int32) (hz : x + y = z) (hq : pc + 1 = q) (kk : GG X R cc nL Ts own ini sb Z Φ mc ms k n ws lv (.int z :: st) q) : GG X R cc nL Ts own ini sb Z Φ mc ms k n ws lv (.int y :: .int x :: st) pc := by
  obtain ⟨p, l, e, s, m, args, below, meth, c, D, A, Q⟩ := X
  intro S I E F H locs ls hW hl
  obtain ⟨hx, hb, hml, hown, hts⟩ := id S
  subst hq
  exact lv_iadd hx hb hd (hz ▸ (kk S I E F H locs ls hW hl))
theorem G_isubE {x y : Int32} (hd : decode cc pc = .ok (.isub, 1))  (z : Int32) (hz : x - y = z) (hq : pc + 1 = q) (kk : GG X R cc nL Ts own ini sb Z Φ mc ms k n ws lv (.int z :: st) q) : GG X R cc nL Ts own ini sb Z Φ mc ms k n ws lv (.int y :: .int x :: st) pc := by
  obtain ⟨p, l, e, s, m, args, below, meth, c, D, A, Q⟩ := X
  intro S I E F H locs ls hW hl
  obtain ⟨hx, hb, hml, hown, hts⟩ := id S
  subst hq
  exact lv_isub hx hb hd (hz ▸ (kk S I E F H locs ls hW hl))
theorem G_imulE {x y : Int32} (hd : decode cc pc = .ok (.imul, 1))  (z : Int32) (hz : x * y = z) (hq : pc + 1 = q) (kk : GG X R cc nL Ts own ini sb Z Φ mc ms k n ws lv (.int z :: st) q) : GG X R cc nL Ts own ini sb Z Φ mc ms k n ws lv (.int y :: .int x :: st) pc := by
  obtain ⟨p, l, e, s, m, args, below, meth, c, D, A, Q⟩ := X
  intro S I E F H locs ls hW hl
  obtain ⟨hx, hb, hml, hown, hts⟩ := id S
  subst hq
  exact lv_imul hx hb hd (hz ▸ (kk S I E F H locs ls hW hl))
theorem G_iandE {x y : Int32} (hd : decode cc pc = .ok (.iand, 1))  (z : Int32) (hz : x &&& y = z) (hq : pc + 1 = q) (kk : GG X R cc nL Ts own ini sb Z Φ mc ms k n ws lv (.int z :: st) q) : GG X R cc nL Ts own ini sb Z Φ mc ms k n ws lv (.int y :: .int x :: st) pc := by
  obtain ⟨p, l, e, s, m, args, below, meth, c, D, A, Q⟩ := X
  intro S I E F H locs ls hW hl
  obtain ⟨hx, hb, hml, hown, hts⟩ := id S
  subst hq
  exact lv_iand hx hb hd (hz ▸ (kk S I E F H locs ls hW hl))
theorem G_iorE {x y : Int32} (hd : decode cc pc = .ok (.ior, 1))  (z : Int32) (hz : x ||| y = z) (hq : pc + 1 = q) (kk : GG X R cc nL Ts own ini sb Z Φ mc ms k n ws lv (.int z :: st) q) : GG X R cc nL Ts own ini sb Z Φ mc ms k n ws lv (.int y :: .int x :: st) pc := by
  obtain ⟨p, l, e, s, m, args, below, meth, c, D, A, Q⟩ := X
  intro S I E F H locs ls hW hl
  obtain ⟨hx, hb, hml, hown, hts⟩ := id S
  subst hq
  exact lv_ior hx hb hd (hz ▸ (kk S I E F H locs ls hW hl))
theorem G_ishlE {x y : Int32} (hd : decode cc pc = .ok (.ishl, 1))  (z : Int32) (hz : x <<< (y &&& 31) = z) (hq : pc + 1 = q) (kk : GG X R cc nL Ts own ini sb Z Φ mc ms k n ws lv (.int z :: st) q) : GG X R cc nL Ts own ini sb Z Φ mc ms k n ws lv (.int y :: .int x :: st) pc := by
  obtain ⟨p, l, e, s, m, args, below, meth, c, D, A, Q⟩ := X
  intro S I E F H locs ls hW hl
  obtain ⟨hx, hb, hml, hown, hts⟩ := id S
  subst hq
  exact lv_ishl hx hb hd (hz ▸ (kk S I E F H locs ls hW hl))
theorem G_ishrE {x y : Int32} (hd : decode cc pc = .ok (.ishr, 1))  (z : Int32) (hz : x >>> (y &&& 31) = z) (hq : pc + 1 = q) (kk : GG X R cc nL Ts own ini sb Z Φ mc ms k n ws lv (.int z :: st) q) : GG X R cc nL Ts own ini sb Z Φ mc ms k n ws lv (.int y :: .int x :: st) pc := by
  obtain ⟨p, l, e, s, m, args, below, meth, c, D, A, Q⟩ := X
  intro S I E F H locs ls hW hl
  obtain ⟨hx, hb, hml, hown, hts⟩ := id S
  subst hq
  exact lv_ishr hx hb hd (hz ▸ (kk S I E F H locs ls hW hl))
theorem G_idivE {x y : Int32} (hd : decode cc pc = .ok (.idiv, 1)) (hne : ¬ y = 0) (z : Int32) (hz : x / y = z) (hq : pc + 1 = q) (kk : GG X R cc nL Ts own ini sb Z Φ mc ms k n ws lv (.int z :: st) q) : GG X R cc nL Ts own ini sb Z Φ mc ms k n ws lv (.int y :: .int x :: st) pc := by
  obtain ⟨p, l, e, s, m, args, below, meth, c, D, A, Q⟩ := X
  intro S I E F H locs ls hW hl
  obtain ⟨hx, hb, hml, hown, hts⟩ := id S
  subst hq
  exact lv_idiv hx hb hd hne (hz ▸ (kk S I E F H locs ls hW hl))
theorem G_iremE {x y : Int32} (hd : decode cc pc = .ok (.irem, 1)) (hne : ¬ y = 0) (z : Int32) (hz : x - x / y * y = z) (hq : pc + 1 = q) (kk : GG X R cc nL Ts own ini sb Z Φ mc ms k n ws lv (.int z :: st) q) : GG X R cc nL Ts own ini sb Z Φ mc ms k n ws lv (.int y :: .int x :: st) pc := by
  obtain ⟨p, l, e, s, m, args, below, meth, c, D, A, Q⟩ := X
  intro S I E F H locs ls hW hl
  obtain ⟨hx, hb, hml, hown, hts⟩ := id S
  subst hq
  exact lv_irem hx hb hd hne (hz ▸ (kk S I E F H locs ls hW hl))
theorem G_iushrE {x y : Int32} (hd : decode cc pc = .ok (.iushr, 1))  (z : Int32) (hz : (x.toUInt32 >>> (y.toUInt32 &&& Int32.toUInt32 31)).toInt32 = z) (hq : pc + 1 = q) (kk : GG X R cc nL Ts own ini sb Z Φ mc ms k n ws lv (.int z :: st) q) : GG X R cc nL Ts own ini sb Z Φ mc ms k n ws lv (.int y :: .int x :: st) pc := by
  obtain ⟨p, l, e, s, m, args, below, meth, c, D, A, Q⟩ := X
  intro S I E F H locs ls hW hl
  obtain ⟨hx, hb, hml, hown, hts⟩ := id S
  subst hq
  exact lv_iushr hx hb hd rfl (hz ▸ (kk S I E F H locs ls hW hl))
theorem G_inegE {x : Int32} (hd : decode cc pc = .ok (.ineg, 1)) (z : Int32) (hz : -x = z) (hq : pc + 1 = q) (kk : GG X R cc nL Ts own ini sb Z Φ mc ms k n ws lv (.int z :: st) q) : GG X R cc nL Ts own ini sb Z Φ mc ms k n ws lv (.int x :: st) pc := by
  obtain ⟨p, l, e, s, m, args, below, meth, c, D, A, Q⟩ := X
  intro S I E F H locs ls hW hl
  obtain ⟨hx, hb, hml, hown, hts⟩ := id S
  subst hq
  exact lv_ineg hx hb hd (hz ▸ (kk S I E F H locs ls hW hl))
theorem G_ladd {x y : Int64} (hd : decode cc pc = .ok (.ladd, 1))  (z : Int64) (hz : x + y = z) (hq : pc + 1 = q) (kk : GG X R cc nL Ts own ini sb Z Φ mc ms k n ws lv (.long z :: st) q) : GG X R cc nL Ts own ini sb Z Φ mc ms k n ws lv (.long y :: .long x :: st) pc := by
  obtain ⟨p, l, e, s, m, args, below, meth, c, D, A, Q⟩ := X
  intro S I E F H locs ls hW hl
  obtain ⟨hx, hb, hml, hown, hts⟩ := id S
  subst hq
  exact lv_ladd hx hb hd (hz ▸ (kk S I E F H locs ls hW hl))
theorem G_lsub {x y : Int64} (hd : decode cc pc = .ok (.lsub, 1))  (z : Int64) (hz : x - y = z) (hq : pc + 1 = q) (kk : GG X R cc nL Ts own ini sb Z Φ mc ms k n ws lv (.long z :: st) q) : GG X R cc nL Ts own ini sb Z Φ mc ms k n ws lv (.long y :: .long x :: st) pc := by
  obtain ⟨p, l, e, s, m, args, below, meth, c, D, A, Q⟩ := X
  intro S I E F H locs ls hW hl
  obtain ⟨hx, hb, hml, hown, hts⟩ := id S
  subst hq
  exact lv_lsub hx hb hd (hz ▸ (kk S I E F H locs ls hW hl))
theorem G_lmul {x y : Int64} (hd : decode cc pc = .ok (.lmul, 1))  (z : Int64) (hz : x * y = z) (hq : pc + 1 = q) (kk : GG X R cc nL Ts own ini sb Z Φ mc ms k n ws lv (.long z :: st) q) : GG X R cc nL Ts own ini sb Z Φ mc ms k n ws lv (.long y :: .long x :: st) pc := by
  obtain ⟨p, l, e, s, m, args, below, meth, c, D, A, Q⟩ := X
  intro S I E F H locs ls hW hl
  obtain ⟨hx, hb, hml, hown, hts⟩ := id S
  subst hq
  exact lv_lmul hx hb hd (hz ▸ (kk S I E F H locs ls hW hl))
theorem G_ldiv {x y : Int64} (hd : decode cc pc = .ok (.ldiv, 1)) (hne : ¬ y = 0) (z : Int64) (hz : x / y = z) (hq : pc + 1 = q) (kk : GG X R cc nL Ts own ini sb Z Φ mc ms k n ws lv (.long z :: st) q) : GG X R cc nL Ts own ini sb Z Φ mc ms k n ws lv (.long y :: .long x :: st) pc := by
  obtain ⟨p, l, e, s, m, args, below, meth, c, D, A, Q⟩ := X
  intro S I E F H locs ls hW hl
  obtain ⟨hx, hb, hml, hown, hts⟩ := id S
  subst hq
  exact lv_ldiv hx hb hd hne (hz ▸ (kk S I E F H locs ls hW hl))
theorem G_lrem {x y : Int64} (hd : decode cc pc = .ok (.lrem, 1)) (hne : ¬ y = 0) (z : Int64) (hz : x - x / y * y = z) (hq : pc + 1 = q) (kk : GG X R cc nL Ts own ini sb Z Φ mc ms k n ws lv (.long z :: st) q) : GG X R cc nL Ts own ini sb Z Φ mc ms k n ws lv (.long y :: .long x :: st) pc := by
  obtain ⟨p, l, e, s, m, args, below, meth, c, D, A, Q⟩ := X
  intro S I E F H locs ls hW hl
  obtain ⟨hx, hb, hml, hown, hts⟩ := id S
  subst hq
  exact lv_lrem hx hb hd hne (hz ▸ (kk S I E F H locs ls hW hl))
theorem G_i2l {x : Int32} {z : Int64} (hd : decode cc pc = .ok (.i2l, 1)) (hz : x.toInt64 = z) (hq : pc + 1 = q) (kk : GG X R cc nL Ts own ini sb Z Φ mc ms k n ws lv (.long z :: st) q) : GG X R cc nL Ts own ini sb Z Φ mc ms k n ws lv (.int x :: st) pc := by
  obtain ⟨p, l, e, s, m, args, below, meth, c, D, A, Q⟩ := X
  intro S I E F H locs ls hW hl
  obtain ⟨hx, hb, hml, hown, hts⟩ := id S
  subst hq
  exact lv_i2l hx hb hd hz (kk S I E F H locs ls hW hl)
theorem G_l2i {x : Int64} {z : Int32} (hd : decode cc pc = .ok (.l2i, 1)) (hz : x.toInt32 = z) (hq : pc + 1 = q) (kk : GG X R cc nL Ts own ini sb Z Φ mc ms k n ws lv (.int z :: st) q) : GG X R cc nL Ts own ini sb Z Φ mc ms k n ws lv (.long x :: st) pc := by
  obtain ⟨p, l, e, s, m, args, below, meth, c, D, A, Q⟩ := X
  intro S I E F H locs ls hW hl
  obtain ⟨hx, hb, hml, hown, hts⟩ := id S
  subst hq
  exact lv_l2i hx hb hd hz (kk S I E F H locs ls hW hl)
theorem G_i2c {x z : Int32} (hd : decode cc pc = .ok (.i2c, 1)) (hz : (x.toUInt32 % 65536).toInt32 = z) (hq : pc + 1 = q) (kk : GG X R cc nL Ts own ini sb Z Φ mc ms k n ws lv (.int z :: st) q) : GG X R cc nL Ts own ini sb Z Φ mc ms k n ws lv (.int x :: st) pc := by
  obtain ⟨p, l, e, s, m, args, below, meth, c, D, A, Q⟩ := X
  intro S I E F H locs ls hW hl
  obtain ⟨hx, hb, hml, hown, hts⟩ := id S
  subst hq
  exact lv_i2c hx hb hd hz (kk S I E F H locs ls hW hl)
theorem G_dup {v : Value} (hd : decode cc pc = .ok (.dup, 1)) (hc : v.category = 1) (hq : pc + 1 = q) (kk : GG X R cc nL Ts own ini sb Z Φ mc ms k n ws lv (v :: v :: st) q) : GG X R cc nL Ts own ini sb Z Φ mc ms k n ws lv (v :: st) pc := by
  obtain ⟨p, l, e, s, m, args, below, meth, c, D, A, Q⟩ := X
  intro S I E F H locs ls hW hl
  obtain ⟨hx, hb, hml, hown, hts⟩ := id S
  subst hq
  exact lv_dup hx hb hd hc (kk S I E F H locs ls hW hl)
theorem G_pop {v : Value} (hd : decode cc pc = .ok (.pop, 1)) (hc : v.category = 1) (hq : pc + 1 = q) (kk : GG X R cc nL Ts own ini sb Z Φ mc ms k n ws lv (st) q) : GG X R cc nL Ts own ini sb Z Φ mc ms k n ws lv (v :: st) pc := by
  obtain ⟨p, l, e, s, m, args, below, meth, c, D, A, Q⟩ := X
  intro S I E F H locs ls hW hl
  obtain ⟨hx, hb, hml, hown, hts⟩ := id S
  subst hq
  exact lv_pop hx hb hd hc (kk S I E F H locs ls hW hl)
theorem G_dup2 {v w : Value} (hd : decode cc pc = .ok (.dup2, 1)) (hc : v.category = 1) (hc2 : w.category = 1) (hq : pc + 1 = q) (kk : GG X R cc nL Ts own ini sb Z Φ mc ms k n ws lv (v :: w :: v :: w :: st) q) : GG X R cc nL Ts own ini sb Z Φ mc ms k n ws lv (v :: w :: st) pc := by
  obtain ⟨p, l, e, s, m, args, below, meth, c, D, A, Q⟩ := X
  intro S I E F H locs ls hW hl
  obtain ⟨hx, hb, hml, hown, hts⟩ := id S
  subst hq
  exact lv_dup2_11 hx hb hd hc hc2 (kk S I E F H locs ls hW hl)
theorem G_dup2l {v : Value} (hd : decode cc pc = .ok (.dup2, 1)) (hc : v.category = 2) (hq : pc + 1 = q) (kk : GG X R cc nL Ts own ini sb Z Φ mc ms k n ws lv (v :: v :: st) q) : GG X R cc nL Ts own ini sb Z Φ mc ms k n ws lv (v :: st) pc := by
  obtain ⟨p, l, e, s, m, args, below, meth, c, D, A, Q⟩ := X
  intro S I E F H locs ls hW hl
  obtain ⟨hx, hb, hml, hown, hts⟩ := id S
  subst hq
  exact lv_dup2_2 hx hb hd hc (kk S I E F H locs ls hW hl)
theorem G_null  (hd : decode cc pc = .ok (.aconst_null, 1))  (hq : pc + 1 = q) (kk : GG X R cc nL Ts own ini sb Z Φ mc ms k n ws lv (.null :: st) q) : GG X R cc nL Ts own ini sb Z Φ mc ms k n ws lv (st) pc := by
  obtain ⟨p, l, e, s, m, args, below, meth, c, D, A, Q⟩ := X
  intro S I E F H locs ls hW hl
  obtain ⟨hx, hb, hml, hown, hts⟩ := id S
  subst hq
  exact lv_null hx hb hd (kk S I E F H locs ls hW hl)
theorem G_goto {off : Int} (hd : decode cc pc = .ok (.goto off, 3)) (hq : (pc : Int) + off = (q : Int)) (kk : GG X R cc nL Ts own ini sb Z Φ mc ms k n ws lv (st) q) : GG X R cc nL Ts own ini sb Z Φ mc ms k n ws lv (st) pc := by
  obtain ⟨p, l, e, s, m, args, below, meth, c, D, A, Q⟩ := X
  intro S I E F H locs ls hW hl
  exact lv_goto S.1 S.2.1 hd hq (kk S I E F H locs ls hW hl)
theorem G_if_eq {x : Int32} {off : Int} {tgt : Nat} (hd : decode cc pc = .ok (.ifCond .eq off, 3)) (ht : (pc : Int) + off = (tgt : Int)) (hq : pc + 3 = q) (kt : x = 0 → GG X R cc nL Ts own ini sb Z Φ mc ms k n ws lv (st) tgt) (kf : ¬ x = 0 → GG X R cc nL Ts own ini sb Z Φ mc ms k n ws lv (st) q) : GG X R cc nL Ts own ini sb Z Φ mc ms k n ws lv (.int x :: st) pc := by
  obtain ⟨p, l, e, s, m, args, below, meth, c, D, A, Q⟩ := X
  intro S I E F H locs ls hW hl
  obtain ⟨hx, hb, hml, hown, hts⟩ := id S
  subst hq
  exact lv_if_eq hx hb hd ht (fun h => kt h S I E F H locs ls hW hl) (fun h => kf h S I E F H locs ls hW hl)
theorem G_if_eqT {x : Int32} {off : Int} {tgt : Nat} (hd : decode cc pc = .ok (.ifCond .eq off, 3)) (ht : (pc : Int) + off = (tgt : Int)) (h : x = 0) (kt : GG X R cc nL Ts own ini sb Z Φ mc ms k n ws lv (st) tgt) : GG X R cc nL Ts own ini sb Z Φ mc ms k n ws lv (.int x :: st) pc :=
  G_if_eq hd ht rfl (fun _ => kt) (fun h2 => by first | exact absurd h h2 | exact absurd h2 h)
theorem G_if_eqF {x : Int32} {off : Int} {tgt : Nat} (hd : decode cc pc = .ok (.ifCond .eq off, 3)) (ht : (pc : Int) + off = (tgt : Int)) (hq : pc + 3 = q) (h : ¬ x = 0) (kf : GG X R cc nL Ts own ini sb Z Φ mc ms k n ws lv (st) q) : GG X R cc nL Ts own ini sb Z Φ mc ms k n ws lv (.int x :: st) pc :=
  G_if_eq hd ht hq (fun h2 => by first | exact absurd h h2 | exact absurd h2 h) (fun _ => kf)
theorem G_if_eqN {a : Nat} {off : Int} {tgt : Nat} (hd : decode cc pc = .ok (.ifCond .eq off, 3)) (ht : (pc : Int) + off = (tgt : Int)) (hq : pc + 3 = q) (ha : a < 2147483648) (kt : a = 0 → GG X R cc nL Ts own ini sb Z Φ mc ms k n ws lv (st) tgt) (kf : a ≠ 0 → GG X R cc nL Ts own ini sb Z Φ mc ms k n ws lv (st) q) : GG X R cc nL Ts own ini sb Z Φ mc ms k n ws lv (.int (nI a) :: st) pc :=
  G_if_eq hd ht hq (fun h => kt (nz_eqT ha h)) (fun h => kf (nz_eqF ha h))
theorem G_icmp_eq {x y : Int32} {off : Int} {tgt : Nat} (hd : decode cc pc = .ok (.if_icmp .eq off, 3)) (ht : (pc : Int) + off = (tgt : Int)) (hq : pc + 3 = q) (kt : x = y → GG X R cc nL Ts own ini sb Z Φ mc ms k n ws lv (st) tgt) (kf : ¬ x = y → GG X R cc nL Ts own ini sb Z Φ mc ms k n ws lv (st) q) : GG X R cc nL Ts own ini sb Z Φ mc ms k n ws lv (.int y :: .int x :: st) pc := by
  obtain ⟨p, l, e, s, m, args, below, meth, c, D, A, Q⟩ := X
  intro S I E F H locs ls hW hl
  obtain ⟨hx, hb, hml, hown, hts⟩ := id S
  subst hq
  exact lv_icmp_eq hx hb hd ht (fun h => kt h S I E F H locs ls hW hl) (fun h => kf h S I E F H locs ls hW hl)
theorem G_icmp_eqT {x y : Int32} {off : Int} {tgt : Nat} (hd : decode cc pc = .ok (.if_icmp .eq off, 3)) (ht : (pc : Int) + off = (tgt : Int)) (h : x = y) (kt : GG X R cc nL Ts own ini sb Z Φ mc ms k n ws lv (st) tgt) : GG X R cc nL Ts own ini sb Z Φ mc ms k n ws lv (.int y :: .int x :: st) pc :=
  G_icmp_eq hd ht rfl (fun _ => kt) (fun h2 => by first | exact absurd h h2 | exact absurd h2 h)
theorem G_icmp_eqF {x y : Int32} {off : Int} {tgt : Nat} (hd : decode cc pc = .ok (.if_icmp .eq off, 3)) (ht : (pc : Int) + off = (tgt : Int)) (hq : pc + 3 = q) (h : ¬ x = y) (kf : GG X R cc nL Ts own ini sb Z Φ mc ms k n ws lv (st) q) : GG X R cc nL Ts own ini sb Z Φ mc ms k n ws lv (.int y :: .int x :: st) pc :=
  G_icmp_eq hd ht hq (fun h2 => by first | exact absurd h h2 | exact absurd h2 h) (fun _ => kf)
theorem G_icmp_eqN {a b : Nat} {off : Int} {tgt : Nat} (hd : decode cc pc = .ok (.if_icmp .eq off, 3)) (ht : (pc : Int) + off = (tgt : Int)) (hq : pc + 3 = q) (ha : a < 2147483648) (hb2 : b < 2147483648) (kt : a = b → GG X R cc nL Ts own ini sb Z Φ mc ms k n ws lv (st) tgt) (kf : ¬ a = b → GG X R cc nL Ts own ini sb Z Φ mc ms k n ws lv (st) q) : GG X R cc nL Ts own ini sb Z Φ mc ms k n ws lv (.int (nI b) :: .int (nI a) :: st) pc :=
  G_icmp_eq hd ht hq (fun h => kt (by have e := nI_eq ha hb2; first | exact e.mp h | exact fun z => h (e.mpr z))) (fun h => kf (by have e := nI_eq ha hb2; first | exact e.mp h | exact (fun z => h (e.mpr z)) | exact Nat.lt_of_not_le (fun z => h (e.mpr z)) | exact Nat.le_of_not_lt (fun z => h (e.mpr z)) | (exact e.mp (Classical.byContradiction h))))
theorem G_if_ne {x : Int32} {off : Int} {tgt : Nat} (hd : decode cc pc = .ok (.ifCond .ne off, 3)) (ht : (pc : Int) + off = (tgt : Int)) (hq : pc + 3 = q) (kt : ¬ x = 0 → GG X R cc nL Ts own ini sb Z Φ mc ms k n ws lv (st) tgt) (kf : x = 0 → GG X R cc nL Ts own ini sb Z Φ mc ms k n ws lv (st) q) : GG X R cc nL Ts own ini sb Z Φ mc ms k n ws lv (.int x :: st) pc := by
  obtain ⟨p, l, e, s, m, args, below, meth, c, D, A, Q⟩ := X
  intro S I E F H locs ls hW hl
  obtain ⟨hx, hb, hml, hown, hts⟩ := id S
  subst hq
  exact lv_if_ne hx hb hd ht (fun h => kt h S I E F H locs ls hW hl) (fun h => kf h S I E F H locs ls hW hl)
theorem G_if_neT {x : Int32} {off : Int} {tgt : Nat} (hd : decode cc pc = .ok (.ifCond .ne off, 3)) (ht : (pc : Int) + off = (tgt : Int)) (h : ¬ x = 0) (kt : GG X R cc nL Ts own ini sb Z Φ mc ms k n ws lv (st) tgt) : GG X R cc nL Ts own ini sb Z Φ mc ms k n ws lv (.int x :: st) pc :=
  G_if_ne hd ht rfl (fun _ => kt) (fun h2 => by first | exact absurd h h2 | exact absurd h2 h)
theorem G_if_neF {x : Int32} {off : Int} {tgt : Nat} (hd : decode cc pc = .ok (.ifCond .ne off, 3)) (ht : (pc : Int) + off = (tgt : Int)) (hq : pc + 3 = q) (h : x = 0) (kf : GG X R cc nL Ts own ini sb Z Φ mc ms k n ws lv (st) q) : GG X R cc nL Ts own ini sb Z Φ mc ms k n ws lv (.int x :: st) pc :=
  G_if_ne hd ht hq (fun h2 => by first | exact absurd h h2 | exact absurd h2 h) (fun _ => kf)
theorem G_if_neN {a : Nat} {off : Int} {tgt : Nat} (hd : decode cc pc = .ok (.ifCond .ne off, 3)) (ht : (pc : Int) + off = (tgt : Int)) (hq : pc + 3 = q) (ha : a < 2147483648) (kt : a ≠ 0 → GG X R cc nL Ts own ini sb Z Φ mc ms k n ws lv (st) tgt) (kf : a = 0 → GG X R cc nL Ts own ini sb Z Φ mc ms k n ws lv (st) q) : GG X R cc nL Ts own ini sb Z Φ mc ms k n ws lv (.int (nI a) :: st) pc :=
  G_if_ne hd ht hq (fun h => kt (nz_neT ha h)) (fun h => kf (nz_neF ha h))
theorem G_icmp_ne {x y : Int32} {off : Int} {tgt : Nat} (hd : decode cc pc = .ok (.if_icmp .ne off, 3)) (ht : (pc : Int) + off = (tgt : Int)) (hq : pc + 3 = q) (kt : ¬ x = y → GG X R cc nL Ts own ini sb Z Φ mc ms k n ws lv (st) tgt) (kf : x = y → GG X R cc nL Ts own ini sb Z Φ mc ms k n ws lv (st) q) : GG X R cc nL Ts own ini sb Z Φ mc ms k n ws lv (.int y :: .int x :: st) pc := by
  obtain ⟨p, l, e, s, m, args, below, meth, c, D, A, Q⟩ := X
  intro S I E F H locs ls hW hl
  obtain ⟨hx, hb, hml, hown, hts⟩ := id S
  subst hq
  exact lv_icmp_ne hx hb hd ht (fun h => kt h S I E F H locs ls hW hl) (fun h => kf h S I E F H locs ls hW hl)
theorem G_icmp_neT {x y : Int32} {off : Int} {tgt : Nat} (hd : decode cc pc = .ok (.if_icmp .ne off, 3)) (ht : (pc : Int) + off = (tgt : Int)) (h : ¬ x = y) (kt : GG X R cc nL Ts own ini sb Z Φ mc ms k n ws lv (st) tgt) : GG X R cc nL Ts own ini sb Z Φ mc ms k n ws lv (.int y :: .int x :: st) pc :=
  G_icmp_ne hd ht rfl (fun _ => kt) (fun h2 => by first | exact absurd h h2 | exact absurd h2 h)
theorem G_icmp_neF {x y : Int32} {off : Int} {tgt : Nat} (hd : decode cc pc = .ok (.if_icmp .ne off, 3)) (ht : (pc : Int) + off = (tgt : Int)) (hq : pc + 3 = q) (h : x = y) (kf : GG X R cc nL Ts own ini sb Z Φ mc ms k n ws lv (st) q) : GG X R cc nL Ts own ini sb Z Φ mc ms k n ws lv (.int y :: .int x :: st) pc :=
  G_icmp_ne hd ht hq (fun h2 => by first | exact absurd h h2 | exact absurd h2 h) (fun _ => kf)
theorem G_icmp_neN {a b : Nat} {off : Int} {tgt : Nat} (hd : decode cc pc = .ok (.if_icmp .ne off, 3)) (ht : (pc : Int) + off = (tgt : Int)) (hq : pc + 3 = q) (ha : a < 2147483648) (hb2 : b < 2147483648) (kt : ¬ a = b → GG X R cc nL Ts own ini sb Z Φ mc ms k n ws lv (st) tgt) (kf : a = b → GG X R cc nL Ts own ini sb Z Φ mc ms k n ws lv (st) q) : GG X R cc nL Ts own ini sb Z Φ mc ms k n ws lv (.int (nI b) :: .int (nI a) :: st) pc :=
  G_icmp_ne hd ht hq (fun h => kt (by have e := nI_eq ha hb2; first | exact e.mp h | exact fun z => h (e.mpr z))) (fun h => kf (by have e := nI_eq ha hb2; first | exact e.mp h | exact (fun z => h (e.mpr z)) | exact Nat.lt_of_not_le (fun z => h (e.mpr z)) | exact Nat.le_of_not_lt (fun z => h (e.mpr z)) | (exact e.mp (Classical.byContradiction h))))
theorem G_if_lt {x : Int32} {off : Int} {tgt : Nat} (hd : decode cc pc = .ok (.ifCond .lt off, 3)) (ht : (pc : Int) + off = (tgt : Int)) (hq : pc + 3 = q) (kt : x < 0 → GG X R cc nL Ts own ini sb Z Φ mc ms k n ws lv (st) tgt) (kf : ¬ x < 0 → GG X R cc nL Ts own ini sb Z Φ mc ms k n ws lv (st) q) : GG X R cc nL Ts own ini sb Z Φ mc ms k n ws lv (.int x :: st) pc := by
  obtain ⟨p, l, e, s, m, args, below, meth, c, D, A, Q⟩ := X
  intro S I E F H locs ls hW hl
  obtain ⟨hx, hb, hml, hown, hts⟩ := id S
  subst hq
  exact lv_if_lt hx hb hd ht (fun h => kt h S I E F H locs ls hW hl) (fun h => kf h S I E F H locs ls hW hl)
theorem G_if_ltT {x : Int32} {off : Int} {tgt : Nat} (hd : decode cc pc = .ok (.ifCond .lt off, 3)) (ht : (pc : Int) + off = (tgt : Int)) (h : x < 0) (kt : GG X R cc nL Ts own ini sb Z Φ mc ms k n ws lv (st) tgt) : GG X R cc nL Ts own ini sb Z Φ mc ms k n ws lv (.int x :: st) pc :=
  G_if_lt hd ht rfl (fun _ => kt) (fun h2 => by first | exact absurd h h2 | exact absurd h2 h)
theorem G_if_ltF {x : Int32} {off : Int} {tgt : Nat} (hd : decode cc pc = .ok (.ifCond .lt off, 3)) (ht : (pc : Int) + off = (tgt : Int)) (hq : pc + 3 = q) (h : ¬ x < 0) (kf : GG X R cc nL Ts own ini sb Z Φ mc ms k n ws lv (st) q) : GG X R cc nL Ts own ini sb Z Φ mc ms k n ws lv (.int x :: st) pc :=
  G_if_lt hd ht hq (fun h2 => by first | exact absurd h h2 | exact absurd h2 h) (fun _ => kf)
theorem G_if_ltN {a : Nat} {off : Int} {tgt : Nat} (hd : decode cc pc = .ok (.ifCond .lt off, 3)) (ht : (pc : Int) + off = (tgt : Int)) (hq : pc + 3 = q) (ha : a < 2147483648) (kt : False → GG X R cc nL Ts own ini sb Z Φ mc ms k n ws lv (st) tgt) (kf : True → GG X R cc nL Ts own ini sb Z Φ mc ms k n ws lv (st) q) : GG X R cc nL Ts own ini sb Z Φ mc ms k n ws lv (.int (nI a) :: st) pc :=
  G_if_lt hd ht hq (fun h => kt (nz_ltT ha h)) (fun h => kf (nz_ltF ha h))
theorem G_icmp_lt {x y : Int32} {off : Int} {tgt : Nat} (hd : decode cc pc = .ok (.if_icmp .lt off, 3)) (ht : (pc : Int) + off = (tgt : Int)) (hq : pc + 3 = q) (kt : x < y → GG X R cc nL Ts own ini sb Z Φ mc ms k n ws lv (st) tgt) (kf : ¬ x < y → GG X R cc nL Ts own ini sb Z Φ mc ms k n ws lv (st) q) : GG X R cc nL Ts own ini sb Z Φ mc ms k n ws lv (.int y :: .int x :: st) pc := by
  obtain ⟨p, l, e, s, m, args, below, meth, c, D, A, Q⟩ := X
  intro S I E F H locs ls hW hl
  obtain ⟨hx, hb, hml, hown, hts⟩ := id S
  subst hq
  exact lv_icmp_lt hx hb hd ht (fun h => kt h S I E F H locs ls hW hl) (fun h => kf h S I E F H locs ls hW hl)
theorem G_icmp_ltT {x y : Int32} {off : Int} {tgt : Nat} (hd : decode cc pc = .ok (.if_icmp .lt off, 3)) (ht : (pc : Int) + off = (tgt : Int)) (h : x < y) (kt : GG X R cc nL Ts own ini sb Z Φ mc ms k n ws lv (st) tgt) : GG X R cc nL Ts own ini sb Z Φ mc ms k n ws lv (.int y :: .int x :: st) pc :=
  G_icmp_lt hd ht rfl (fun _ => kt) (fun h2 => by first | exact absurd h h2 | exact absurd h2 h)
theorem G_icmp_ltF {x y : Int32} {off : Int} {tgt : Nat} (hd : decode cc pc = .ok (.if_icmp .lt off, 3)) (ht : (pc : Int) + off = (tgt : Int)) (hq : pc + 3 = q) (h : ¬ x < y) (kf : GG X R cc nL Ts own ini sb Z Φ mc ms k n ws lv (st) q) : GG X R cc nL Ts own ini sb Z Φ mc ms k n ws lv (.int y :: .int x :: st) pc :=
  G_icmp_lt hd ht hq (fun h2 => by first | exact absurd h h2 | exact absurd h2 h) (fun _ => kf)
theorem G_icmp_ltN {a b : Nat} {off : Int} {tgt : Nat} (hd : decode cc pc = .ok (.if_icmp .lt off, 3)) (ht : (pc : Int) + off = (tgt : Int)) (hq : pc + 3 = q) (ha : a < 2147483648) (hb2 : b < 2147483648) (kt : a < b → GG X R cc nL Ts own ini sb Z Φ mc ms k n ws lv (st) tgt) (kf : b ≤ a → GG X R cc nL Ts own ini sb Z Φ mc ms k n ws lv (st) q) : GG X R cc nL Ts own ini sb Z Φ mc ms k n ws lv (.int (nI b) :: .int (nI a) :: st) pc :=
  G_icmp_lt hd ht hq (fun h => kt (by have e := nI_ltI ha hb2; first | exact e.mp h | exact fun z => h (e.mpr z))) (fun h => kf (by have e := nI_ltI ha hb2; first | exact e.mp h | exact (fun z => h (e.mpr z)) | exact Nat.lt_of_not_le (fun z => h (e.mpr z)) | exact Nat.le_of_not_lt (fun z => h (e.mpr z)) | (exact e.mp (Classical.byContradiction h))))
theorem G_if_ge {x : Int32} {off : Int} {tgt : Nat} (hd : decode cc pc = .ok (.ifCond .ge off, 3)) (ht : (pc : Int) + off = (tgt : Int)) (hq : pc + 3 = q) (kt : 0 ≤ x → GG X R cc nL Ts own ini sb Z Φ mc ms k n ws lv (st) tgt) (kf : ¬ 0 ≤ x → GG X R cc nL Ts own ini sb Z Φ mc ms k n ws lv (st) q) : GG X R cc nL Ts own ini sb Z Φ mc ms k n ws lv (.int x :: st) pc := by
  obtain ⟨p, l, e, s, m, args, below, meth, c, D, A, Q⟩ := X
  intro S I E F H locs ls hW hl
  obtain ⟨hx, hb, hml, hown, hts⟩ := id S
  subst hq
  exact lv_if_ge hx hb hd ht (fun h => kt h S I E F H locs ls hW hl) (fun h => kf h S I E F H locs ls hW hl)
theorem G_if_geT {x : Int32} {off : Int} {tgt : Nat} (hd : decode cc pc = .ok (.ifCond .ge off, 3)) (ht : (pc : Int) + off = (tgt : Int)) (h : 0 ≤ x) (kt : GG X R cc nL Ts own ini sb Z Φ mc ms k n ws lv (st) tgt) : GG X R cc nL Ts own ini sb Z Φ mc ms k n ws lv (.int x :: st) pc :=
  G_if_ge hd ht rfl (fun _ => kt) (fun h2 => by first | exact absurd h h2 | exact absurd h2 h)
theorem G_if_geF {x : Int32} {off : Int} {tgt : Nat} (hd : decode cc pc = .ok (.ifCond .ge off, 3)) (ht : (pc : Int) + off = (tgt : Int)) (hq : pc + 3 = q) (h : ¬ 0 ≤ x) (kf : GG X R cc nL Ts own ini sb Z Φ mc ms k n ws lv (st) q) : GG X R cc nL Ts own ini sb Z Φ mc ms k n ws lv (.int x :: st) pc :=
  G_if_ge hd ht hq (fun h2 => by first | exact absurd h h2 | exact absurd h2 h) (fun _ => kf)
theorem G_if_geN {a : Nat} {off : Int} {tgt : Nat} (hd : decode cc pc = .ok (.ifCond .ge off, 3)) (ht : (pc : Int) + off = (tgt : Int)) (hq : pc + 3 = q) (ha : a < 2147483648) (kt : True → GG X R cc nL Ts own ini sb Z Φ mc ms k n ws lv (st) tgt) (kf : False → GG X R cc nL Ts own ini sb Z Φ mc ms k n ws lv (st) q) : GG X R cc nL Ts own ini sb Z Φ mc ms k n ws lv (.int (nI a) :: st) pc :=
  G_if_ge hd ht hq (fun h => kt (nz_geT ha h)) (fun h => kf (nz_geF ha h))
theorem G_icmp_ge {x y : Int32} {off : Int} {tgt : Nat} (hd : decode cc pc = .ok (.if_icmp .ge off, 3)) (ht : (pc : Int) + off = (tgt : Int)) (hq : pc + 3 = q) (kt : y ≤ x → GG X R cc nL Ts own ini sb Z Φ mc ms k n ws lv (st) tgt) (kf : ¬ y ≤ x → GG X R cc nL Ts own ini sb Z Φ mc ms k n ws lv (st) q) : GG X R cc nL Ts own ini sb Z Φ mc ms k n ws lv (.int y :: .int x :: st) pc := by
  obtain ⟨p, l, e, s, m, args, below, meth, c, D, A, Q⟩ := X
  intro S I E F H locs ls hW hl
  obtain ⟨hx, hb, hml, hown, hts⟩ := id S
  subst hq
  exact lv_icmp_ge hx hb hd ht (fun h => kt h S I E F H locs ls hW hl) (fun h => kf h S I E F H locs ls hW hl)
theorem G_icmp_geT {x y : Int32} {off : Int} {tgt : Nat} (hd : decode cc pc = .ok (.if_icmp .ge off, 3)) (ht : (pc : Int) + off = (tgt : Int)) (h : y ≤ x) (kt : GG X R cc nL Ts own ini sb Z Φ mc ms k n ws lv (st) tgt) : GG X R cc nL Ts own ini sb Z Φ mc ms k n ws lv (.int y :: .int x :: st) pc :=
  G_icmp_ge hd ht rfl (fun _ => kt) (fun h2 => by first | exact absurd h h2 | exact absurd h2 h)
theorem G_icmp_geF {x y : Int32} {off : Int} {tgt : Nat} (hd : decode cc pc = .ok (.if_icmp .ge off, 3)) (ht : (pc : Int) + off = (tgt : Int)) (hq : pc + 3 = q) (h : ¬ y ≤ x) (kf : GG X R cc nL Ts own ini sb Z Φ mc ms k n ws lv (st) q) : GG X R cc nL Ts own ini sb Z Φ mc ms k n ws lv (.int y :: .int x :: st) pc :=
  G_icmp_ge hd ht hq (fun h2 => by first | exact absurd h h2 | exact absurd h2 h) (fun _ => kf)
theorem G_icmp_geN {a b : Nat} {off : Int} {tgt : Nat} (hd : decode cc pc = .ok (.if_icmp .ge off, 3)) (ht : (pc : Int) + off = (tgt : Int)) (hq : pc + 3 = q) (ha : a < 2147483648) (hb2 : b < 2147483648) (kt : b ≤ a → GG X R cc nL Ts own ini sb Z Φ mc ms k n ws lv (st) tgt) (kf : a < b → GG X R cc nL Ts own ini sb Z Φ mc ms k n ws lv (st) q) : GG X R cc nL Ts own ini sb Z Φ mc ms k n ws lv (.int (nI b) :: .int (nI a) :: st) pc :=
  G_icmp_ge hd ht hq (fun h => kt (by have e := nI_leI hb2 ha; first | exact e.mp h | exact fun z => h (e.mpr z))) (fun h => kf (by have e := nI_leI hb2 ha; first | exact e.mp h | exact (fun z => h (e.mpr z)) | exact Nat.lt_of_not_le (fun z => h (e.mpr z)) | exact Nat.le_of_not_lt (fun z => h (e.mpr z)) | (exact e.mp (Classical.byContradiction h))))
theorem G_if_gt {x : Int32} {off : Int} {tgt : Nat} (hd : decode cc pc = .ok (.ifCond .gt off, 3)) (ht : (pc : Int) + off = (tgt : Int)) (hq : pc + 3 = q) (kt : 0 < x → GG X R cc nL Ts own ini sb Z Φ mc ms k n ws lv (st) tgt) (kf : ¬ 0 < x → GG X R cc nL Ts own ini sb Z Φ mc ms k n ws lv (st) q) : GG X R cc nL Ts own ini sb Z Φ mc ms k n ws lv (.int x :: st) pc := by
  obtain ⟨p, l, e, s, m, args, below, meth, c, D, A, Q⟩ := X
  intro S I E F H locs ls hW hl
  obtain ⟨hx, hb, hml, hown, hts⟩ := id S
  subst hq
  exact lv_if_gt hx hb hd ht (fun h => kt h S I E F H locs ls hW hl) (fun h => kf h S I E F H locs ls hW hl)
theorem G_if_gtT {x : Int32} {off : Int} {tgt : Nat} (hd : decode cc pc = .ok (.ifCond .gt off, 3)) (ht : (pc : Int) + off = (tgt : Int)) (h : 0 < x) (kt : GG X R cc nL Ts own ini sb Z Φ mc ms k n ws lv (st) tgt) : GG X R cc nL Ts own ini sb Z Φ mc ms k n ws lv (.int x :: st) pc :=
  G_if_gt hd ht rfl (fun _ => kt) (fun h2 => by first | exact absurd h h2 | exact absurd h2 h)
theorem G_if_gtF {x : Int32} {off : Int} {tgt : Nat} (hd : decode cc pc = .ok (.ifCond .gt off, 3)) (ht : (pc : Int) + off = (tgt : Int)) (hq : pc + 3 = q) (h : ¬ 0 < x) (kf : GG X R cc nL Ts own ini sb Z Φ mc ms k n ws lv (st) q) : GG X R cc nL Ts own ini sb Z Φ mc ms k n ws lv (.int x :: st) pc :=
  G_if_gt hd ht hq (fun h2 => by first | exact absurd h h2 | exact absurd h2 h) (fun _ => kf)
theorem G_if_gtN {a : Nat} {off : Int} {tgt : Nat} (hd : decode cc pc = .ok (.ifCond .gt off, 3)) (ht : (pc : Int) + off = (tgt : Int)) (hq : pc + 3 = q) (ha : a < 2147483648) (kt : a ≠ 0 → GG X R cc nL Ts own ini sb Z Φ mc ms k n ws lv (st) tgt) (kf : a = 0 → GG X R cc nL Ts own ini sb Z Φ mc ms k n ws lv (st) q) : GG X R cc nL Ts own ini sb Z Φ mc ms k n ws lv (.int (nI a) :: st) pc :=
  G_if_gt hd ht hq (fun h => kt (nz_gtT ha h)) (fun h => kf (nz_gtF ha h))
theorem G_icmp_gt {x y : Int32} {off : Int} {tgt : Nat} (hd : decode cc pc = .ok (.if_icmp .gt off, 3)) (ht : (pc : Int) + off = (tgt : Int)) (hq : pc + 3 = q) (kt : y < x → GG X R cc nL Ts own ini sb Z Φ mc ms k n ws lv (st) tgt) (kf : ¬ y < x → GG X R cc nL Ts own ini sb Z Φ mc ms k n ws lv (st) q) : GG X R cc nL Ts own ini sb Z Φ mc ms k n ws lv (.int y :: .int x :: st) pc := by
  obtain ⟨p, l, e, s, m, args, below, meth, c, D, A, Q⟩ := X
  intro S I E F H locs ls hW hl
  obtain ⟨hx, hb, hml, hown, hts⟩ := id S
  subst hq
  exact lv_icmp_gt hx hb hd ht (fun h => kt h S I E F H locs ls hW hl) (fun h => kf h S I E F H locs ls hW hl)
theorem G_icmp_gtT {x y : Int32} {off : Int} {tgt : Nat} (hd : decode cc pc = .ok (.if_icmp .gt off, 3)) (ht : (pc : Int) + off = (tgt : Int)) (h : y < x) (kt : GG X R cc nL Ts own ini sb Z Φ mc ms k n ws lv (st) tgt) : GG X R cc nL Ts own ini sb Z Φ mc ms k n ws lv (.int y :: .int x :: st) pc :=
  G_icmp_gt hd ht rfl (fun _ => kt) (fun h2 => by first | exact absurd h h2 | exact absurd h2 h)
theorem G_icmp_gtF {x y : Int32} {off : Int} {tgt : Nat} (hd : decode cc pc = .ok (.if_icmp .gt off, 3)) (ht : (pc : Int) + off = (tgt : Int)) (hq : pc + 3 = q) (h : ¬ y < x) (kf : GG X R cc nL Ts own ini sb Z Φ mc ms k n ws lv (st) q) : GG X R cc nL Ts own ini sb Z Φ mc ms k n ws lv (.int y :: .int x :: st) pc :=
  G_icmp_gt hd ht hq (fun h2 => by first | exact absurd h h2 | exact absurd h2 h) (fun _ => kf)
theorem G_icmp_gtN {a b : Nat} {off : Int} {tgt : Nat} (hd : decode cc pc = .ok (.if_icmp .gt off, 3)) (ht : (pc : Int) + off = (tgt : Int)) (hq : pc + 3 = q) (ha : a < 2147483648) (hb2 : b < 2147483648) (kt : b < a → GG X R cc nL Ts own ini sb Z Φ mc ms k n ws lv (st) tgt) (kf : a ≤ b → GG X R cc nL Ts own ini sb Z Φ mc ms k n ws lv (st) q) : GG X R cc nL Ts own ini sb Z Φ mc ms k n ws lv (.int (nI b) :: .int (nI a) :: st) pc :=
  G_icmp_gt hd ht hq (fun h => kt (by have e := nI_ltI hb2 ha; first | exact e.mp h | exact fun z => h (e.mpr z))) (fun h => kf (by have e := nI_ltI hb2 ha; first | exact e.mp h | exact (fun z => h (e.mpr z)) | exact Nat.lt_of_not_le (fun z => h (e.mpr z)) | exact Nat.le_of_not_lt (fun z => h (e.mpr z)) | (exact e.mp (Classical.byContradiction h))))
theorem G_if_le {x : Int32} {off : Int} {tgt : Nat} (hd : decode cc pc = .ok (.ifCond .le off, 3)) (ht : (pc : Int) + off = (tgt : Int)) (hq : pc + 3 = q) (kt : x ≤ 0 → GG X R cc nL Ts own ini sb Z Φ mc ms k n ws lv (st) tgt) (kf : ¬ x ≤ 0 → GG X R cc nL Ts own ini sb Z Φ mc ms k n ws lv (st) q) : GG X R cc nL Ts own ini sb Z Φ mc ms k n ws lv (.int x :: st) pc := by
  obtain ⟨p, l, e, s, m, args, below, meth, c, D, A, Q⟩ := X
  intro S I E F H locs ls hW hl
  obtain ⟨hx, hb, hml, hown, hts⟩ := id S
  subst hq
  exact lv_if_le hx hb hd ht (fun h => kt h S I E F H locs ls hW hl) (fun h => kf h S I E F H locs ls hW hl)
theorem G_if_leT {x : Int32} {off : Int} {tgt : Nat} (hd : decode cc pc = .ok (.ifCond .le off, 3)) (ht : (pc : Int) + off = (tgt : Int)) (h : x ≤ 0) (kt : GG X R cc nL Ts own ini sb Z Φ mc ms k n ws lv (st) tgt) : GG X R cc nL Ts own ini sb Z Φ mc ms k n ws lv (.int x :: st) pc :=
  G_if_le hd ht rfl (fun _ => kt) (fun h2 => by first | exact absurd h h2 | exact absurd h2 h)
theorem G_if_leF {x : Int32} {off : Int} {tgt : Nat} (hd : decode cc pc = .ok (.ifCond .le off, 3)) (ht : (pc : Int) + off = (tgt : Int)) (hq : pc + 3 = q) (h : ¬ x ≤ 0) (kf : GG X R cc nL Ts own ini sb Z Φ mc ms k n ws lv (st) q) : GG X R cc nL Ts own ini sb Z Φ mc ms k n ws lv (.int x :: st) pc :=
  G_if_le hd ht hq (fun h2 => by first | exact absurd h h2 | exact absurd h2 h) (fun _ => kf)
theorem G_if_leN {a : Nat} {off : Int} {tgt : Nat} (hd : decode cc pc = .ok (.ifCond .le off, 3)) (ht : (pc : Int) + off = (tgt : Int)) (hq : pc + 3 = q) (ha : a < 2147483648) (kt : a = 0 → GG X R cc nL Ts own ini sb Z Φ mc ms k n ws lv (st) tgt) (kf : a ≠ 0 → GG X R cc nL Ts own ini sb Z Φ mc ms k n ws lv (st) q) : GG X R cc nL Ts own ini sb Z Φ mc ms k n ws lv (.int (nI a) :: st) pc :=
  G_if_le hd ht hq (fun h => kt (nz_leT ha h)) (fun h => kf (nz_leF ha h))
theorem G_icmp_le {x y : Int32} {off : Int} {tgt : Nat} (hd : decode cc pc = .ok (.if_icmp .le off, 3)) (ht : (pc : Int) + off = (tgt : Int)) (hq : pc + 3 = q) (kt : x ≤ y → GG X R cc nL Ts own ini sb Z Φ mc ms k n ws lv (st) tgt) (kf : ¬ x ≤ y → GG X R cc nL Ts own ini sb Z Φ mc ms k n ws lv (st) q) : GG X R cc nL Ts own ini sb Z Φ mc ms k n ws lv (.int y :: .int x :: st) pc := by
  obtain ⟨p, l, e, s, m, args, below, meth, c, D, A, Q⟩ := X
  intro S I E F H locs ls hW hl
  obtain ⟨hx, hb, hml, hown, hts⟩ := id S
  subst hq
  exact lv_icmp_le hx hb hd ht (fun h => kt h S I E F H locs ls hW hl) (fun h => kf h S I E F H locs ls hW hl)
theorem G_icmp_leT {x y : Int32} {off : Int} {tgt : Nat} (hd : decode cc pc = .ok (.if_icmp .le off, 3)) (ht : (pc : Int) + off = (tgt : Int)) (h : x ≤ y) (kt : GG X R cc nL Ts own ini sb Z Φ mc ms k n ws lv (st) tgt) : GG X R cc nL Ts own ini sb Z Φ mc ms k n ws lv (.int y :: .int x :: st) pc :=
  G_icmp_le hd ht rfl (fun _ => kt) (fun h2 => by first | exact absurd h h2 | exact absurd h2 h)
theorem G_icmp_leF {x y : Int32} {off : Int} {tgt : Nat} (hd : decode cc pc = .ok (.if_icmp .le off, 3)) (ht : (pc : Int) + off = (tgt : Int)) (hq : pc + 3 = q) (h : ¬ x ≤ y) (kf : GG X R cc nL Ts own ini sb Z Φ mc ms k n ws lv (st) q) : GG X R cc nL Ts own ini sb Z Φ mc ms k n ws lv (.int y :: .int x :: st) pc :=
  G_icmp_le hd ht hq (fun h2 => by first | exact absurd h h2 | exact absurd h2 h) (fun _ => kf)
theorem G_icmp_leN {a b : Nat} {off : Int} {tgt : Nat} (hd : decode cc pc = .ok (.if_icmp .le off, 3)) (ht : (pc : Int) + off = (tgt : Int)) (hq : pc + 3 = q) (ha : a < 2147483648) (hb2 : b < 2147483648) (kt : a ≤ b → GG X R cc nL Ts own ini sb Z Φ mc ms k n ws lv (st) tgt) (kf : b < a → GG X R cc nL Ts own ini sb Z Φ mc ms k n ws lv (st) q) : GG X R cc nL Ts own ini sb Z Φ mc ms k n ws lv (.int (nI b) :: .int (nI a) :: st) pc :=
  G_icmp_le hd ht hq (fun h => kt (by have e := nI_leI ha hb2; first | exact e.mp h | exact fun z => h (e.mpr z))) (fun h => kf (by have e := nI_leI ha hb2; first | exact e.mp h | exact (fun z => h (e.mpr z)) | exact Nat.lt_of_not_le (fun z => h (e.mpr z)) | exact Nat.le_of_not_lt (fun z => h (e.mpr z)) | (exact e.mp (Classical.byContradiction h))))
end
