section
variable {X : GX} {R : Room} {cc : ByteArray} {nL : Nat} {Ts : List Cond} {own : String} {ini sb : Bool} {Z : Nat → ClassId} {Φ : Option Value → va_W → Prop} {mc ms k n : Nat} {ws : va_W} {lv : List (Nat × Value)} {st : List Value} {pc q : Nat}
/-- an array of references by what it holds below its length -/
theorem GG.qarr {a N : Nat} {f f2 : Nat → Option Nat} {ws2 : va_W} (i : Nat) (hi : ws[i]? = some (a, .inl (Z 3, N, .inr (.inr (.inr (.inr f)))))) (h : ∀ j, j < N → f j = f2 j) (hws : ws.set i (a, .inl (Z 3, N, .inr (.inr (.inr (.inr f2))))) = ws2) (kk : GG X R cc nL Ts own ini sb Z Φ mc ms k n ws2 lv (st) pc) : GG X R cc nL Ts own ini sb Z Φ mc ms k n ws lv (st) pc := by
  obtain ⟨p, l, e, s, m, args, below, meth, c, D, A, Q⟩ := X
  intro S I E F H locs ls hW hl
  obtain ⟨hK, hP, hD, hS, hA⟩ := id hW
  subst hws
  have hlt := (List.getElem?_eq_some_iff.mp hi).1
  have ee : arrV (Z 3) N (fun j => va_rf (f j)) = arrV (Z 3) N (fun j => va_rf (f2 j)) := arrV_ext (fun j hj => by rw [h j hj])
  refine kk S I E F H locs ls ⟨hK, fun j x hx => ?_, hD.set hi, hS, hA⟩ hl
  by_cases hij : i = j
  · subst hij
    rw [List.getElem?_set_self hlt] at hx
    have hx2 := Option.some.inj hx
    subst hx2
    have h1 := hP i _ hi
    show H[a]? = some (arrV (Z 3) N (fun j => va_rf (f2 j)))
    rw [← ee]
    exact h1
  · rw [List.getElem?_set_ne hij] at hx
    exact hP j x hx
theorem nd_range' : ∀ (n b : Nat), va_nd (List.range' b n) = true
  | 0, _ => rfl
  | n + 1, b => by
    have h := nd_range' n (b + 1)
    rw [List.range'_succ]
    simp only [va_nd, Bool.and_eq_true]
    refine ⟨?_, h⟩
    simp [List.mem_range']
    try omega
theorem sub_pre (w0 Y : va_W) : (List.range w0.length).map (fun i => (w0 ++ Y)[i]?) = w0.map some := by
  apply List.ext_getElem?
  intro i
  rw [List.getElem?_map, List.getElem?_map]
  by_cases hi : i < w0.length
  · rw [List.getElem?_eq_getElem (by rw [List.length_range]; exact hi), List.getElem_range, List.getElem?_eq_getElem hi]
    show some ((w0 ++ Y)[i]?) = some (some w0[i])
    rw [List.getElem?_append_left hi, List.getElem?_eq_getElem hi]
  · rw [List.getElem?_eq_none (by rw [List.length_range]; omega), List.getElem?_eq_none (by omega)]
    rfl
theorem put_pre : ∀ (w0 w1 pre Y : va_W), w1.length = w0.length → putw (pre ++ (w0 ++ Y)) (List.range' pre.length w0.length) w1 = pre ++ (w1 ++ Y)
  | [], [], pre, Y, _ => rfl
  | a :: w0, b :: w1, pre, Y, h => by
    have ih := put_pre w0 w1 (pre ++ [b]) Y (by simpa using h)
    show putw ((pre ++ (a :: (w0 ++ Y))).set pre.length b) (List.range' (pre.length + 1) w0.length) w1 = _
    have e : (pre ++ (a :: (w0 ++ Y))).set pre.length b = (pre ++ [b]) ++ (w0 ++ Y) := by
      rw [List.set_append_right _ _ (Nat.le_refl _), Nat.sub_self]
      simp
    rw [e]
    rw [show (pre ++ [b]).length = pre.length + 1 by simp] at ih
    rw [ih]
    simp
  | [], _ :: _, _, _, h => by simp at h
  | _ :: _, [], _, _, h => by simp at h
/-- a call whose cells stand first -/
theorem G_callVF {sb2 : Bool} {y : MethodName} {Tc : List Cond} {Rc : Room} {bytes : ByteArray} {maxL nn index b ci : Nat} {ret : Option FieldType} {C : String} {T : u_T} {N : Nat} {fs : List Value} {As rest st2 : List Value} {w0 w1 Y : va_W} {v : Option Value} (hd : decode cc pc = .ok (.invokevirtual index, 3))
    (hC : Ct sb2 y Tc Rc (.ref b :: As) Z w0 (rX v w1) 0 0) (hsb : sb2 = true → sb = true) (hk : CS y Tc bytes maxL ret nn) (hG : GoodIn Ts (wsV own index C y Tc)) (hcls : y.cls = C) (hR : Rc.frames + 1 ≤ R.frames ∧ 8 + (maxL + 11) + Rc.locals ≤ R.locals) (hrm : Rc.cells = 0 ∧ Rc.slots = 0)
    (q0 : Nat) (hrec : ws[q0]? = some (b, .inr (ci, fs))) (hci : vwCl[ci]? = some (C, T, N)) (hws : ws = w0 ++ Y) (hAs : As.length = nn) (hst : st = As.reverse ++ .ref b :: rest) (hcat : (rest.map fun v => v.category).sum ≤ 8) (hroom : k ≤ R.cells ∧ n ≤ R.slots) (hf1 : w1.map Prod.fst = w0.map Prod.fst) (hst2 : v.toList ++ rest = st2) (hq : pc + 3 = q) (kk : GG X R cc nL Ts own ini sb Z Φ mc ms k n (w1 ++ Y) lv (st2) q) : GG X R cc nL Ts own ini sb Z Φ mc ms k n ws lv (st) pc := by
  subst hws
  have hl : w1.length = w0.length := by simpa using congrArg List.length hf1
  have hp := put_pre w0 w1 [] Y hl
  refine G_callVX hd (List.range w0.length) hC hsb hk hG hcls hR hrm q0 hrec hci (sub_pre w0 Y) (by rw [List.range_eq_range']; exact nd_range' _ _) hAs hst hcat hroom hf1 (ws2 := w1 ++ Y) (by rw [List.range_eq_range']; exact hp) hst2 hq kk
end
theorem pool_fst {Z : Nat → ClassId} {AD : Nat → Nat → Nat} {ST ST2 : Nat → DS} {nr : Nat} : (poolW Z AD ST nr).map Prod.fst = (poolW Z AD ST2 nr).map Prod.fst := by
  unfold poolW
  rw [List.map_flatMap, List.map_flatMap]
  rfl
theorem fst_app {a b c d : va_W} (h : a.map Prod.fst = c.map Prod.fst) (h2 : b.map Prod.fst = d.map Prod.fst) : (a ++ b).map Prod.fst = (c ++ d).map Prod.fst := by
  rw [List.map_append, List.map_append, h, h2]

