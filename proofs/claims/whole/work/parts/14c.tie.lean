
/-- the chance -/
def sumN (g : Nat → Nat) : Nat → Nat
  | 0 => 0
  | s + 1 => sumN g s + g s
theorem sumN_cong {g h : Nat → Nat} : ∀ {m : Nat}, (∀ s, s < m → g s = h s) → sumN g m = sumN h m
  | 0, _ => rfl
  | m + 1, e => by rw [sumN, sumN, sumN_cong (fun s hs => e s (by omega)), e m (Nat.lt_succ_self m)]
theorem sumN_add (g : Nat → Nat) (a : Nat) : ∀ b, sumN g (a + b) = sumN g a + sumN (fun s => g (a + s)) b
  | 0 => rfl
  | b + 1 => by
    show sumN g (a + b) + g (a + b) = sumN g a + (sumN (fun s => g (a + s)) b + g (a + b))
    rw [sumN_add g a b]; omega
theorem sumN_mul (g : Nat → Nat) (c : Nat) : ∀ m, sumN (fun s => g s * c) m = sumN g m * c
  | 0 => (Nat.zero_mul c).symm
  | m + 1 => by rw [sumN, sumN, sumN_mul g c m, Nat.add_mul]
theorem sumN_0 : ∀ m, sumN (fun _ => 0) m = 0
  | 0 => rfl
  | m + 1 => by rw [sumN, sumN_0 m]
theorem laA_sum {x ch n nd : Nat} {R : QS} : ∀ m, laA x ch n nd R m = sumN (fun s => if Qow (laT s ch n R nd) = Qow R then wtS x s nd else 0) m
  | 0 => rfl
  | m + 1 => by rw [laA, sumN, laA_sum m]
/-- whose it is on a set of days -/
def owS (set ch n : Nat) (f : Nat → Int32) (dy : Nat) (ak : Bool) (ow : Int32) : Nat → Int32
  | 0 => ow
  | k + 1 => if (set >>> k) &&& 1 = 1 then nI (hbw (agoF (nI (dy + k)) f) n (1 <<< ch)) else if k = 0 then (if ak = true then nI (hbw (agoF (nI dy) f) n 0) else ow) else owS set ch n f dy ak ow k
theorem agoS_0 {ago : Nat → Int32} {i : Nat} : agoS ago 0 i = ago i := by
  unfold agoS; rw [Nat.zero_shiftRight]; rfl
theorem agoS_1 {ago : Nat → Int32} {ch i : Nat} : agoS ago (1 <<< ch) i = if i = ch then nI 0 else ago i := by
  unfold agoS
  by_cases h : i = ch
  · subst h
    rw [if_pos rfl, if_pos]
    rw [bit_iff, Nat.testBit_shiftLeft]; simp
  · rw [if_neg h, if_neg]
    intro z
    rw [bit_iff, Nat.testBit_shiftLeft, bt_one] at z
    simp at z
    omega
theorem hb_cong2 {ago ago2 : Nat → Int32} {S S2 : Nat} : ∀ {n : Nat}, (∀ j, j < n → agoS ago S j = agoS ago2 S2 j) → hb ago S n = hb ago2 S2 n
  | 0, _ => rfl
  | i + 1, h => by
    have h1 := hb_cong2 (n := i) (fun j hj => h j (by omega))
    rw [hb, hb, h1, h i (Nat.lt_succ_self i)]
theorem hbw_cong2 {ago ago2 : Nat → Int32} {S S2 n : Nat} (h : ∀ j, j < n → agoS ago S j = agoS ago2 S2 j) : hbw ago n S = hbw ago2 n S2 := by unfold hbw; rw [hb_cong2 h]
/-- on a set of days: the row, with a trust in which the others have not asked -/
theorem la_tie {n : Nat} {R : QS} {f : Nat → Int32} {dy : Nat} {ak : Bool} {ow : Int32} {ch : Nat} (set : Nat) (h : TQ n R f dy ak ow) (hn : n ≤ 6) (h0 : 0 < n) (hc : ch < n) :
    ∀ k, ∃ g, (∀ i, i < n → i ≠ ch → g i = f i) ∧ (k = 0 → g = f) ∧ TQ n (laT set ch n R k) g (dy + k) (decide (k = 0) && ak) (owS set ch n f dy ak ow k)
  | 0 => ⟨f, fun _ _ _ => rfl, fun _ => rfl, h⟩
  | k + 1 => by
    obtain ⟨g, g1, g2, ih⟩ := la_tie set h hn h0 hc k
    by_cases hb : (set >>> k) &&& 1 = 1
    · refine ⟨upd g ch (nI (dy + k)), fun i hi e => by rw [upd_ne e]; exact g1 i hi e, fun z => absurd z (Nat.succ_ne_zero k), ?_⟩
      have h1 := TQ_noo (TQ_ask ih hc) hn h0
      rw [if_pos rfl] at h1
      have e : hbw (agoF (nI (dy + k)) (upd g ch (nI (dy + k)))) n 0 = hbw (agoF (nI (dy + k)) f) n (1 <<< ch) := hbw_cong2 (fun j hj => by
        rw [agoS_0, agoS_1]
        unfold agoF
        by_cases e : j = ch
        · rw [if_pos e, e, upd_self, Int32.sub_self]; rfl
        · rw [if_neg e, upd_ne e, g1 j hj e])
      rw [e] at h1
      rw [← la_t hb, owS, if_pos hb]
      exact h1
    · refine ⟨g, g1, fun z => absurd z (Nat.succ_ne_zero k), ?_⟩
      have h1 := TQ_noo ih hn h0
      rw [← la_f hb, owS, if_neg hb]
      by_cases hk : k = 0
      · subst hk
        have eg := g2 rfl
        rw [eg] at h1 ⊢
        rw [if_pos rfl]
        cases ak <;> exact h1
      · rw [if_neg hk]
        rw [decide_eq_false hk, Bool.false_and, if_neg (by decide)] at h1
        exact h1
theorem owS_cong {s t ch n : Nat} {f : Nat → Int32} {dy : Nat} {ak : Bool} {ow : Int32} : ∀ k, (∀ j, j < k → s.testBit j = t.testBit j) → owS s ch n f dy ak ow k = owS t ch n f dy ak ow k
  | 0, _ => rfl
  | k + 1, h => by
    have e := owS_cong (ch := ch) (n := n) (f := f) (dy := dy) (ak := ak) (ow := ow) k (fun j hj => h j (by omega))
    have e2 : ((s >>> k) &&& 1 = 1) = ((t >>> k) &&& 1 = 1) := by rw [bit_iff, bit_iff, h k (Nat.lt_succ_self k)]
    rw [owS, owS, e]
    by_cases c : (t >>> k) &&& 1 = 1
    · rw [if_pos c, if_pos (e2 ▸ c)]
    · rw [if_neg c, if_neg (e2 ▸ c)]
theorem wtS_cong {s t x : Nat} : ∀ k, (∀ j, j < k → s.testBit j = t.testBit j) → wtS x s k = wtS x t k
  | 0, _ => rfl
  | k + 1, h => by
    have e := wtS_cong (x := x) k (fun j hj => h j (by omega))
    have e2 : ((s >>> k) &&& 1 = 1) = ((t >>> k) &&& 1 = 1) := by rw [bit_iff, bit_iff, h k (Nat.lt_succ_self k)]
    rw [wtS, wtS, e]
    by_cases c : (t >>> k) &&& 1 = 1
    · rw [if_pos c, if_pos (e2 ▸ c)]
    · rw [if_neg c, if_neg (e2 ▸ c)]
theorem wt_all {x : Nat} (hx : x ≤ 10) : ∀ k, sumN (fun s => wtS x s k) (2 ^ k) = 10 ^ k
  | 0 => rfl
  | k + 1 => by
    rw [show 2 ^ (k + 1) = 2 ^ k + 2 ^ k by rw [Nat.pow_succ]; omega, sumN_add]
    have e1 : sumN (fun s => wtS x s (k + 1)) (2 ^ k) = 10 ^ k * (10 - x) := by
      rw [← wt_all hx k, ← sumN_mul]
      refine sumN_cong (fun s hs => ?_)
      rw [wtS, if_neg (by rw [bit_iff, Nat.testBit_lt_two_pow hs]; decide)]
    have e2 : sumN (fun s => wtS x (2 ^ k + s) (k + 1)) (2 ^ k) = 10 ^ k * x := by
      rw [← wt_all hx k, ← sumN_mul]
      refine sumN_cong (fun s hs => ?_)
      rw [wtS, if_pos (by rw [bit_iff, Nat.testBit_two_pow_add_eq, Nat.testBit_lt_two_pow hs]; rfl), wtS_cong k (fun j hj => Nat.testBit_two_pow_add_gt hj s)]
    rw [e1, e2, ← Nat.mul_add, Nat.pow_succ]
    congr 1
    omega
theorem ch_sum {f : Nat → Int32} {n dy : Nat} {ak : Bool} {ow : Int32} {ch x : Nat} (hx : x ≤ 10) : ∀ k, sumN (fun s => if owS s ch n f dy ak ow k = ow then wtS x s k else 0) (2 ^ k) = chN f n dy ak ow ch x k
  | 0 => by
    show 0 + (if ow = ow then 1 else 0) = 1
    rw [if_pos rfl]
  | k + 1 => by
    have ih := ch_sum (f := f) (n := n) (dy := dy) (ak := ak) (ow := ow) (ch := ch) hx k
    rw [show 2 ^ (k + 1) = 2 ^ k + 2 ^ k by rw [Nat.pow_succ]; omega, sumN_add, chN]
    congr 1
    · by_cases hk : k = 0 ∧ (if ak = true then nI (hbw (agoF (nI dy) f) n 0) else ow) ≠ ow
      · rw [if_pos hk, Nat.zero_mul]
        rw [sumN_cong (h := fun _ => 0) (fun s hs => ?_), sumN_0]
        have e1 : ¬ (s >>> k) &&& 1 = 1 := by rw [bit_iff, Nat.testBit_lt_two_pow hs]; decide
        have e2 : owS s ch n f dy ak ow (k + 1) = (if ak = true then nI (hbw (agoF (nI dy) f) n 0) else ow) := by rw [owS, if_neg e1, if_pos hk.1]
        rw [e2, if_neg hk.2]
      · rw [if_neg hk, ← ih, ← sumN_mul]
        refine sumN_cong (fun s hs => ?_)
        have e1 : ¬ (s >>> k) &&& 1 = 1 := by rw [bit_iff, Nat.testBit_lt_two_pow hs]; decide
        rw [owS, if_neg e1, wtS, if_neg e1]
        by_cases h0 : k = 0
        · rw [if_pos h0]
          have h2 : (if ak = true then nI (hbw (agoF (nI dy) f) n 0) else ow) = ow := Classical.byContradiction (fun z => hk ⟨h0, z⟩)
          rw [if_pos h2]
          subst h0
          show _ = (if ow = ow then wtS x s 0 else 0) * (10 - x)
          rw [if_pos rfl]
        · rw [if_neg h0]
          by_cases h3 : owS s ch n f dy ak ow k = ow
          · rw [if_pos h3, if_pos h3]
          · rw [if_neg h3, if_neg h3, Nat.zero_mul]
    · have e1 : ∀ s, s < 2 ^ k → ((2 ^ k + s) >>> k) &&& 1 = 1 := fun s hs => by
        rw [bit_iff, Nat.testBit_two_pow_add_eq, Nat.testBit_lt_two_pow hs]; rfl
      by_cases h3 : nI (hbw (agoF (nI (dy + k)) f) n (1 <<< ch)) = ow
      · rw [if_pos h3, ← wt_all hx k, ← sumN_mul]
        refine sumN_cong (fun s hs => ?_)
        rw [owS, if_pos (e1 s hs), if_pos h3, wtS, if_pos (e1 s hs), wtS_cong k (fun j hj => Nat.testBit_two_pow_add_gt hj s)]
      · rw [if_neg h3]
        rw [sumN_cong (h := fun _ => 0) (fun s hs => ?_), sumN_0]
        rw [owS, if_pos (e1 s hs), if_neg h3]
theorem la_sum {n : Nat} {R : QS} {f : Nat → Int32} {dy : Nat} {ak : Bool} {ow : Int32} {ch x nd : Nat} (h : TQ n R f dy ak ow) (hn : n ≤ 6) (h0 : 0 < n) (hc : ch < n) (hx : x ≤ 10) : laA x ch n nd R (1 <<< nd) = chN f n dy ak ow ch x nd := by
  rw [laA_sum, Nat.one_shiftLeft, ← ch_sum hx]
  refine sumN_cong (fun s _ => ?_)
  obtain ⟨g, -, -, h3⟩ := la_tie s h hn h0 hc nd
  obtain ⟨o1, o2⟩ := TQ_ow h3
  obtain ⟨o3, o4⟩ := TQ_ow h
  rw [o1, o3]
  by_cases e : owS s ch n f dy ak ow nd = ow
  · rw [if_pos e, if_pos ((oR_inj o2 o4).mpr e)]
  · rw [if_neg e, if_neg (fun z => e ((oR_inj o2 o4).mp z))]
theorem chC_inv {p : Nat → Bool} {n : Nat} : ∀ t, t ≤ n → (chC p n t = 0 ∧ ∀ i, n - t ≤ i → i < n → p i = false) ∨ (n - t ≤ chC p n t ∧ chC p n t < n ∧ p (chC p n t) = true ∧ ∀ i, n - t ≤ i → i < chC p n t → p i = false)
  | 0, _ => Or.inl ⟨rfl, fun i a b => by omega⟩
  | t + 1, h => by
    cases hp : p (n - 1 - t) with
    | true => rw [chC_t hp]; exact Or.inr ⟨by omega, by omega, hp, fun i a b => by omega⟩
    | false =>
      rw [chC_f hp]
      have hx : ∀ i, n - (t + 1) ≤ i → i = n - 1 - t ∨ n - t ≤ i := fun i a => by omega
      rcases chC_inv (p := p) (n := n) t (by omega) with ⟨h1, h2⟩ | ⟨h2, h3, h4, h5⟩
      · exact Or.inl ⟨h1, fun i a b => (hx i a).elim (fun e => by rw [e]; exact hp) (fun e => h2 i e b)⟩
      · exact Or.inr ⟨by omega, h3, h4, fun i a b => (hx i a).elim (fun e => by rw [e]; exact hp) (fun e => h5 i e b)⟩
theorem chC_fC {p q : Nat → Bool} {n : Nat} (h : ∀ i, i < n → p i = q i) : chC p n n = fC q n 0 := by
  rcases chC_inv (p := p) (n := n) n (Nat.le_refl n) with ⟨h1, h2⟩ | ⟨h2, h3, h4, h5⟩
  · rw [h1, fC_no (fun j hj => by rw [← h j hj]; exact h2 j (by omega) hj)]
  · rw [fC_at h3 (fun j hj => by rw [← h j (by omega)]; exact h5 j (by omega) hj) (by rw [← h _ h3]; exact h4)]
/-- when all know -/
theorem nooN_tie {n : Nat} {R : QS} {he : Nat → Int32} {dy : Nat} {ak : Bool} {ow : Int32} (h : tieT n R he dy ak ow) : ∀ w, Qdy (nooN n R w) = dy + w ∧ ∀ i, i < n → ∀ m, m < 10 → agQ (nooN n R w) i m = nI (dy + w) - he (i * 10 + (m - w))
  | 0 => ⟨h.1, h.2.2.2.2.1⟩
  | w + 1 => by
    obtain ⟨h1, h2⟩ := nooN_tie h w
    refine ⟨by show Qdy (nooN n R w) + 1 = _; rw [h1]; rfl, fun i hi m hm => ?_⟩
    show agQ (nooQ n (nooN n R w)) i m = _
    rw [ag_noo hi hm, h2 i hi (m - 1) (by omega), show dy + (w + 1) = (dy + w) + 1 from rfl, ← nI_add (dy + w) 1, i_as, show m - 1 - w = m - (w + 1) by omega]
theorem allTo_iff {p : Nat → Bool} {b : Bool} : ∀ {n : Nat}, allTo p b n = true ↔ b = true ∧ ∀ j, j < n → p j = true
  | 0 => ⟨fun h => ⟨h, fun j hj => absurd hj (Nat.not_lt_zero j)⟩, fun h => h.1⟩
  | n + 1 => by
    rw [allTo, Bool.and_eq_true, allTo_iff]
    constructor
    · rintro ⟨⟨h1, h2⟩, h3⟩
      refine ⟨h1, fun j hj => ?_⟩
      rcases Nat.lt_succ_iff_lt_or_eq.mp hj with h4 | h4
      · exact h2 j h4
      · rw [h4]; exact h3
    · rintro ⟨h1, h2⟩
      exact ⟨⟨h1, fun j hj => h2 j (by omega)⟩, h2 n (Nat.lt_succ_self n)⟩
theorem akI_iff {E : FS} {Q : QS} : ∀ {i : Nat}, akI E Q i = true ↔ ∀ a, a < i → ∀ j, j < Fn E → knQ E Q a j = ag0 Q j
  | 0 => ⟨fun _ a h => absurd h (Nat.not_lt_zero a), fun _ => rfl⟩
  | i + 1 => by
    rw [akI]
    unfold akJ
    rw [allTo_iff, akI_iff]
    constructor
    · rintro ⟨h1, h2⟩ a ha j hj
      rcases Nat.lt_succ_iff_lt_or_eq.mp ha with h3 | h3
      · exact h1 a h3 j hj
      · subst h3; exact of_decide_eq_true (h2 j hj)
    · intro h
      exact ⟨fun a ha j hj => h a (by omega) j hj, fun j hj => decide_eq_true (h i (Nat.lt_succ_self i) j hj)⟩
theorem ak_tie {F E : FS} (hE : famEq F E) (hF : okF F) {R : QS} {he : Nat → Int32} {dy : Nat} {ak : Bool} {ow : Int32} (h : tieT (Fn F) R he dy ak ow) (w : Nat) : akR E (nooN (Fn E) R w) = akw he (Fml F) (Fn F) w := by
  have e0 : Fn E = Fn F := hE.1
  obtain ⟨-, h2⟩ := nooN_tie h w
  have hiff : akR E (nooN (Fn E) R w) = true ↔ akP he (Fml F) (Fn F) w := by
    unfold akR
    rw [akI_iff, e0]
    constructor
    · intro h3 i hi j hj
      rcases Classical.em (i = j) with e | e
      · exact Or.inl e
      · refine Or.inr ?_
        have h4 := h3 i hi j hj
        unfold knQ ag0 at h4
        have hm : Fml E i = Fml F i := (hE.2.2.2.2.1 i hi).2.2
        have hm9 : Fml F i ≤ 9 := hF.2.2.2.2.1 i
        rw [if_neg e, hm, h2 j hj (Fml F i) (by omega), h2 j hj 0 (by decide), Int32.sub_right_inj, Nat.zero_sub] at h4
        exact h4
    · intro h3 i hi j hj
      unfold knQ ag0
      rcases h3 i hi j hj with e | e
      · rw [if_pos e]
      · by_cases e2 : i = j
        · rw [if_pos e2]
        · have hm : Fml E i = Fml F i := (hE.2.2.2.2.1 i hi).2.2
          have hm9 : Fml F i ≤ 9 := hF.2.2.2.2.1 i
          rw [if_neg e2, hm, h2 j hj (Fml F i) (by omega), h2 j hj 0 (by decide), Nat.zero_sub, e]
  by_cases hp : akP he (Fml F) (Fn F) w
  · rw [akw_t hp, hiff.mpr hp]
  · rw [akw_f hp]
    cases hc : akR E (nooN (Fn E) R w) with
    | true => exact absurd (hiff.mp hc) hp
    | false => rfl
theorem ak_first {he : Nat → Int32} {F : FS} (hF : okF F) : fW (akw he (Fml F) (Fn F)) 9 0 ≤ 9 ∧ akw he (Fml F) (Fn F) (fW (akw he (Fml F) (Fn F)) 9 0) = true ∧ ∀ j, j < fW (akw he (Fml F) (Fn F)) 9 0 → akw he (Fml F) (Fn F) j = false := by
  have h9 : akw he (Fml F) (Fn F) 9 = true := akw_t (fun i hi j hj => Or.inr (by
    have hm9 : Fml F i ≤ 9 := hF.2.2.2.2.1 i
    rw [show Fml F i - 9 = 0 by omega]))
  rcases least (fun k => akw he (Fml F) (Fn F) k = true) 9 with ⟨k, h1, h2, h3⟩ | h
  · have e := fW_at h1 (fun j hj => by
      cases hc : akw he (Fml F) (Fn F) j with
      | true => exact absurd hc (h3 j hj)
      | false => rfl) h2
    rw [e]
    exact ⟨by omega, h2, fun j hj => by
      cases hc : akw he (Fml F) (Fn F) j with
      | true => exact absurd hc (h3 j hj)
      | false => rfl⟩
  · have e := fW_no (p := akw he (Fml F) (Fn F)) (n := 9) (fun j hj => by
      cases hc : akw he (Fml F) (Fn F) j with
      | true => exact absurd hc (h j hj)
      | false => rfl)
    rw [e]
    exact ⟨Nat.le_refl 9, h9, fun j hj => by
      cases hc : akw he (Fml F) (Fn F) j with
      | true => exact absurd hc (h j hj)
      | false => rfl⟩
/-- what is alike below n answers alike -/
theorem fewN_cong {ago ago2 : Nat → Int32} {n : Nat} {ak : Bool} {i : Nat} (h : ∀ j, j < n → ago j = ago2 j) : ∀ m, fewN ago n ak i m = fewN ago2 n ak i m
  | 0 => rfl
  | m + 1 => by rw [fewN, fewN, fewN_cong h m, hbw_cong (S := m) h]
theorem heirsN_cong {ago ago2 : Nat → Int32} {n : Nat} (h : ∀ j, j < n → ago j = ago2 j) : ∀ m, heirsN ago n m = heirsN ago2 n m
  | 0 => rfl
  | m + 1 => by rw [heirsN, heirsN, heirsN_cong h m, hbw_cong (S := 1 <<< m) h]
theorem lkm_cong {g h : Nat → Int32} : ∀ {m : Nat}, (∀ j, j ≤ m → g j = h j) → lkm g m = lkm h m
  | 0, _ => rfl
  | m + 1, e => by
    have ih := lkm_cong (m := m) (fun j hj => e j (by omega))
    rw [lkm, lkm, ih, e (m + 1) (Nat.le_refl _), e (lkm h m) (by have := lkm_bd h m; omega)]
theorem anyTo_cong {p q : Nat → Bool} : ∀ {n : Nat}, (∀ j, j < n → p j = q j) → anyTo p n = anyTo q n
  | 0, _ => rfl
  | n + 1, h => by rw [anyTo, anyTo, anyTo_cong (fun j hj => h j (by omega)), h n (Nat.lt_succ_self n)]
theorem qset_cong {p q : Nat → Bool} : ∀ {n : Nat}, (∀ j, j < n → p j = q j) → qset p n = qset q n
  | 0, _ => rfl
  | n + 1, h => by rw [qset, qset, qset_cong (fun j hj => h j (by omega)), h n (Nat.lt_succ_self n)]
theorem ck_cong {p q : Nat → Bool} {m w : Nat → Nat} : ∀ {n : Nat}, (∀ j, j < n → p j = q j ∧ m j = w j) → ck p m n = ck q w n
  | 0, _ => rfl
  | n + 1, h => by
    have ih := ck_cong (n := n) (fun j hj => h j (by omega))
    have hn := h n (Nat.lt_succ_self n)
    rw [ck, ck, ih, hn.1]
    cases hq : ck q w n with
    | none => rfl
    | some b =>
      have hb := ck_lt hq
      have h2 := h b (by omega)
      show (if q n = true then some b else if m n ≤ m b then some b else some n) = (if q n = true then some b else if w n ≤ w b then some b else some n)
      rw [hn.2, h2.2]

