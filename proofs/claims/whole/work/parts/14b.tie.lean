
theorem ts_tie {n : Nat} {Q : QS} {f : Nat → Int32} {dy : Nat} {ak : Bool} {ow : Int32} (way nd : Nat) (h : TQ n Q f dy ak ow) (hn : n ≤ 6) (h0 : 0 < n) : ∀ k, TQ n (tsQ way nd n Q k) (tst way nd n f n dy ak ow k).1 (dy + k) (tst way nd n f n dy ak ow k).2.1 (tst way nd n f n dy ak ow k).2.2
  | 0 => h
  | k + 1 => by
    have ih := ts_tie way nd h hn h0 k
    by_cases hb : (way >>> (nd - 1 - k)) &&& 1 = 1
    · rw [← tsQ_t hb, tst_t hb]
      have h1 := TQ_noo (TQ_ask ih (Nat.mod_lt k h0)) hn h0
      rw [if_pos rfl] at h1
      exact h1
    · rw [← tsQ_f hb, tst_f hb]
      exact TQ_noo ih hn h0
theorem en_tie {n : Nat} {Q : QS} {f : Nat → Int32} {dy : Nat} {ak : Bool} {ow : Int32} (way nd : Nat) (h : TQ n Q f dy ak ow) (hn : n ≤ 6) (h0 : 0 < n) : enQ nd n Q way = oR (endW way nd n f n dy ak ow) ∧ okOw (endW way nd n f n dy ak ow) := TQ_ow (ts_tie way nd h hn h0 nd)
theorem rk_tie {o : Int32} (h : okOw o) {c : Nat} (hc : c < 100) : rkR (oR o) c = rkN o c := by
  rcases h with h | ⟨j, hj, h⟩
  · subst h
    unfold rkR rkN
    rw [if_neg (show ¬ oR (-4) = nI c from fun e => nI_m1 (q := c) (by omega) e.symm), if_pos (Or.inl (by decide)), if_neg (fun e => nI_n4 hc e.symm), if_pos (Or.inl rfl)]
  · subst h
    rw [oR_n (by omega)]
    unfold rkR rkN
    by_cases e : nI j = nI c
    · rw [if_pos e, if_pos e]
    · rw [if_neg e, if_neg e]
      by_cases e2 : nI c < nI j
      · rw [if_pos (Or.inr e2), if_pos (Or.inr (Int32.not_le.mpr e2))]
      · rw [if_neg (fun z => z.elim (fun y => nI_pos (n := j) (by omega) y) e2), if_neg (fun z => z.elim (nI_n4 (by omega)) (fun y => y (Int32.not_lt.mp e2)))]
def RE (m : Nat) (e e2 : Nat → Int32) : Prop := ∀ j, j < m → e2 j = oR (e j) ∧ okOw (e j)
theorem RE_upd {m : Nat} {e e2 : Nat → Int32} {w : Nat} {v v2 : Int32} (h : RE m e e2) (hv : v2 = oR v ∧ okOw v) : RE m (upd e w v) (upd e2 w v2) := fun j hj => by
  by_cases c : j = w
  · subst c; rw [upd_self, upd_self]; exact hv
  · rw [upd_ne c, upd_ne c]; exact h j hj
theorem ch_tie {c : Nat} (hc : c < 100) {e e2 : Nat → Int32} {m : Nat} {a : Bool} (h : RE m e e2) : ∀ w, 2 * w ≤ m → RE m (chs c e w).1 (chR c e2 a w).1 ∧ (0 < w → ∀ b, ((chs c e w).2).getD b = (chR c e2 a w).2)
  | 0, _ => ⟨h, fun z => absurd z (Nat.lt_irrefl 0)⟩
  | w + 1, hw => by
    obtain ⟨ih, -⟩ := ch_tie (a := a) hc h w (by omega)
    have q1 := ih (2 * w) (by omega)
    have q2 := ih (2 * w + 1) (by omega)
    have e1 := rk_tie q1.2 hc
    have e3 := rk_tie q2.2 hc
    rw [← q1.1] at e1
    rw [← q2.1] at e3
    constructor
    · rw [chs_1, chR_1, e1, e3]
      refine RE_upd ih ?_
      cases hd : decide (rkN ((chs c e w).1 (2 * w)) c < rkN ((chs c e w).1 (2 * w + 1)) c) with
      | true => rw [if_pos rfl, if_pos rfl]; exact q2
      | false => rw [if_neg (by decide), if_neg (by decide)]; exact q1
    · intro _ b
      rw [chs_2]
      show decide _ = decide _
      rw [e1, e3]
theorem sh_two {nd t : Nat} (h : t < nd) : 2 * (1 <<< (nd - 1 - t)) = 1 <<< (nd - t) := by
  rw [Nat.one_shiftLeft, Nat.one_shiftLeft, show nd - t = (nd - 1 - t) + 1 by omega, Nat.pow_succ]; omega
theorem chD_tie {nd n : Nat} (hn : n < 100) (h0 : 0 < n) {e e2 : Nat → Int32} (h : RE (1 <<< nd) e e2) : ∀ t, t ≤ nd → RE (1 <<< (nd - t)) (chD nd n e t).1 (chDR nd n e2 t).1 ∧ (0 < t → (chD nd n e t).2 = (chDR nd n e2 t).2)
  | 0, _ => ⟨h, fun z => absurd z (Nat.lt_irrefl 0)⟩
  | t + 1, ht => by
    obtain ⟨ih, -⟩ := chD_tie hn h0 h t (by omega)
    have hm : (nd - 1 - t) % n < 100 := Nat.lt_trans (Nat.mod_lt _ h0) hn
    have h2 := sh_two (nd := nd) (t := t) (by omega)
    have h3 := ch_tie (a := (chDR nd n e2 t).2) hm ih (1 <<< (nd - 1 - t)) (by omega)
    refine ⟨fun j hj => h3.1 j (by rw [show nd - (t + 1) = nd - 1 - t by omega] at hj; omega), fun _ => ?_⟩
    rw [chD_2]
    exact h3.2 (shp _) _
theorem turns_tie {n nd : Nat} {Q : QS} {f : Nat → Int32} {dy : Nat} {ak : Bool} {ow : Int32} {g g2 : Nat → Int32} (h : TQ n Q f dy ak ow) (hn : n ≤ 6) (h0 : 0 < n) (hd : 1 ≤ nd) :
    onR ((chDR nd n (fillF (enQ nd n Q) g2 (1 <<< nd)) nd).1 0) = (chD nd n (fillF (fun way => endW way nd n f n dy ak ow) g (1 <<< nd)) nd).1 0 ∧ (chD nd n (fillF (fun way => endW way nd n f n dy ak ow) g (1 <<< nd)) nd).2 = (chDR nd n (fillF (enQ nd n Q) g2 (1 <<< nd)) nd).2 := by
  have hr : RE (1 <<< nd) (fillF (fun way => endW way nd n f n dy ak ow) g (1 <<< nd)) (fillF (enQ nd n Q) g2 (1 <<< nd)) := fun j hj => by
    unfold fillF; rw [if_pos hj, if_pos hj]
    exact en_tie j nd h hn h0
  obtain ⟨h1, h2⟩ := chD_tie (n := n) (by omega) h0 hr nd (Nat.le_refl nd)
  refine ⟨?_, h2 (by omega)⟩
  obtain ⟨e1, e2⟩ := h1 0 (shp _)
  rw [e1, onR_oR e2]
/-- two families that are one -/
def famEq (F E : FS) : Prop := Fn E = Fn F ∧ Fk E = Fk F ∧ Fh E = Fh F ∧ Fdd E = Fdd F ∧ (∀ j, j < Fn F → Fkd E j = Fkd F j ∧ Fag E j = Fag F j ∧ Fml E j = Fml F j) ∧ (∀ s, s < Fk F → Ftp E s = Ftp F s ∧ Fqu E s = Fqu F s)
theorem as_tie {F E : FS} (h : famEq F E) {Q : QS} {s i : Nat} (hs : s < Fk F) (hi : i < Fn F) : asR E Q s i = askB (Fkd F i) (Ftp F s) (Fqu F s) (Qde Q) (Fh F) := by
  obtain ⟨h1, h2, h3, h4, h5, h6⟩ := h
  unfold asR
  rw [(h5 i hi).1, (h6 s hs).1, (h6 s hs).2, h3]
def asF (F : FS) (bd : Nat) : Nat → Nat → Bool := fun s j => askB (Fkd F j) (Ftp F s) (Fqu F s) bd (Fh F)
theorem rp_de {E : FS} {R : QS} {d : Nat} {Q : QS} : ∀ k, Qde (rpQ E R d Q k) = Qde Q
  | 0 => rfl
  | k + 1 => by rw [rpQ, sayQ_de, rp_de k]
theorem rp_tie {F E : FS} (hE : famEq F E) {R Q : QS} {sp sy : Nat → Nat} {d cnt : Nat} {f : Nat → Int32} {dy : Nat} {ak : Bool} {ow : Int32} (h : TQ (Fn F) Q f dy ak ow)
    (hw : ∀ m, m < cnt → sp (d * 4 + m) < Fn F ∧ sy (d * 4 + m) < Fk F ∧ Qwh R (4 * d + m) / 8 = sp (d * 4 + m) ∧ Qwh R (4 * d + m) % 8 = sy (d * 4 + m)) :
    ∀ m, m ≤ cnt → TQ (Fn F) (rpQ E R d Q m) (rpF (asF F (Qde Q)) sp sy d (nI dy) f ak m).1 dy (rpF (asF F (Qde Q)) sp sy d (nI dy) f ak m).2 ow
  | 0, _ => h
  | m + 1, hm => by
    have ih := rp_tie hE h hw m (by omega)
    obtain ⟨w1, w2, w3, w4⟩ := hw m (by omega)
    have h1 := TQ_say (E := E) (s := sy (d * 4 + m)) ih w1
    have e1 : asR E (rpQ E R d Q m) (sy (d * 4 + m)) (sp (d * 4 + m)) = asF F (Qde Q) (sy (d * 4 + m)) (sp (d * 4 + m)) := by
      rw [as_tie hE w2 w1, rp_de m]; rfl
    rw [e1] at h1
    rw [rpQ, w3, w4]
    cases hc : asF F (Qde Q) (sy (d * 4 + m)) (sp (d * 4 + m)) with
    | true => rw [rpF_t hc]; rw [hc, if_pos rfl, Bool.or_true] at h1; exact h1
    | false => rw [rpF_f hc]; rw [hc, if_neg (by decide), Bool.or_false] at h1; exact h1
theorem ta_iff {O : OS} {d : Nat} {ow : Int32} {b : Bool} : ∀ {m : Nat}, taQ O d ow b m = true ↔ b = true ∧ ∀ k, k < m → Otn O k = d + 1 → nI (Otw O k) = ow
  | 0 => ⟨fun h => ⟨h, fun k hk => absurd hk (Nat.not_lt_zero k)⟩, fun h => h.1⟩
  | m + 1 => by
    rw [taQ, Bool.and_eq_true, ta_iff, Bool.or_eq_true, decide_eq_true_eq, decide_eq_true_eq]
    constructor
    · rintro ⟨⟨h1, h2⟩, h3⟩
      refine ⟨h1, fun k hk e => ?_⟩
      rcases Nat.lt_succ_iff_lt_or_eq.mp hk with h4 | h4
      · exact h2 k h4 e
      · subst h4; exact h3.elim (fun z => absurd e z) id
    · rintro ⟨h1, h2⟩
      refine ⟨⟨h1, fun k hk e => h2 k (by omega) e⟩, ?_⟩
      by_cases e : Otn O m = d + 1
      · exact Or.inr (h2 m (Nat.lt_succ_self m) e)
      · exact Or.inl e
theorem beg_tie {F E : FS} (hE : famEq F E) (hF : okF F) {bd : Nat} (hb : bd < 64) : TQ (Fn F) (sQe (begQ E) bd) (fun j => -nI (Fag F j)) 0 false (-4) := by
  obtain ⟨h1, h2, h3, h4, h5, h6⟩ := hE
  refine ⟨fun x => -nI (Fag F (x / 10)), ⟨rfl, rfl, Or.inl rfl, ?_, ?_, ⟨fun _ => (show 0 < 1024 by decide), hb⟩⟩, ?_⟩
  · constructor
    · intro z
      obtain ⟨i, -, hb2⟩ := aqN_ne.mp z
      exact absurd hb2 (show ¬ bt 0 0 by rw [bt_iff, Nat.zero_testBit]; decide)
    · intro z; cases z
  · intro i hi m hm
    have hz : ∀ j, ¬ bt 0 j := fun j z => by rw [bt_iff, Nat.zero_testBit] at z; cases z
    rw [ag_no2 (Q := sQe (begQ E) bd) (i := i) (m := m) (fun j _ _ => hz j)]
    show nI 0 - (if i < Fn E then -(nI (Fag E i)) else 0) = nI 0 - -nI (Fag F ((i * 10 + m) / 10))
    rw [if_pos (by omega), show (i * 10 + m) / 10 = i by omega, (h5 i hi).2.1]
  · intro i hi
    show -nI (Fag F i) = -nI (Fag F (i * 10 / 10))
    rw [show i * 10 / 10 = i by omega]
theorem fi_de {E : FS} {R R0 : QS} {O : OS} {bd : Nat} : ∀ d, Qde (fiQ E R R0 O bd d).1 = bd
  | 0 => rfl
  | d + 1 => by
    show Qde (nooQ (Fn E) (rpQ E R d (fiQ E R R0 O bd d).1 (Qmn R d))) = bd
    show Qde (rpQ E R d (fiQ E R R0 O bd d).1 (Qmn R d)) = bd
    rw [rp_de, fi_de d]
/-- what was said, as both have it -/
def saidEq (F : FS) (sn sp sy : Nat → Nat) (R : QS) : Prop := ∀ d, d < 10 → Qmn R d = sn d ∧ ∀ m, m < sn d → sp (d * 4 + m) < Fn F ∧ sy (d * 4 + m) < Fk F ∧ Qwh R (4 * d + m) / 8 = sp (d * 4 + m) ∧ Qwh R (4 * d + m) % 8 = sy (d * 4 + m)
theorem fi_tie {F E : FS} (hE : famEq F E) (hF : okF F) (h0 : 0 < Fn F) {R : QS} {O : OS} {sn sp sy : Nat → Nat} (hs : saidEq F sn sp sy R) (hO : ∀ k, Otw O k < 100) {bd : Nat} (hb : bd < 64) :
    ∀ d, d ≤ 10 → TQ (Fn F) (fiQ E R (begQ E) O bd d).1 (trF (asF F bd) sn sp sy (Fn F) (fun j => -nI (Fag F j)) d).1 d false (trF (asF F bd) sn sp sy (Fn F) (fun j => -nI (Fag F j)) d).2 ∧
      ((fiQ E R (begQ E) O bd d).2 = true ↔ ∀ d2, d2 < d → agP (Otn O) (Otw O) (Osz O) (d2 + 1) (trF (asF F bd) sn sp sy (Fn F) (fun j => -nI (Fag F j)) (d2 + 1)).2)
  | 0, _ => ⟨beg_tie hE hF hb, ⟨fun _ d2 h => absurd h (Nat.not_lt_zero d2), fun _ => rfl⟩⟩
  | d + 1, hd => by
    obtain ⟨ih, ih2⟩ := fi_tie hE hF h0 hs hO hb d (by omega)
    obtain ⟨s1, s2⟩ := hs d (by omega)
    have e0 : Fn E = Fn F := hE.1
    have h1 := rp_tie hE (R := R) (sp := sp) (sy := sy) (d := d) ih s2 (sn d) (Nat.le_refl _)
    rw [fi_de] at h1
    have h2 := TQ_noo h1 hF.1 h0
    have h3 : TQ (Fn F) (fiQ E R (begQ E) O bd (d + 1)).1 (trF (asF F bd) sn sp sy (Fn F) (fun j => -nI (Fag F j)) (d + 1)).1 (d + 1) false (trF (asF F bd) sn sp sy (Fn F) (fun j => -nI (Fag F j)) (d + 1)).2 := by
      show TQ (Fn F) (nooQ (Fn E) (rpQ E R d (fiQ E R (begQ E) O bd d).1 (Qmn R d))) _ _ _ _
      rw [e0, s1]
      exact h2
    refine ⟨h3, ?_⟩
    obtain ⟨o1, o2⟩ := TQ_ow h3
    show taQ O d (Qow (fiQ E R (begQ E) O bd (d + 1)).1) (fiQ E R (begQ E) O bd d).2 (Osz O) = true ↔ _
    rw [ta_iff, ih2, o1]
    constructor
    · rintro ⟨h5, h6⟩ d2 hd2
      rcases Nat.lt_succ_iff_lt_or_eq.mp hd2 with h7 | h7
      · exact h5 d2 h7
      · subst h7
        intro k hk e
        exact ((oR_eq o2 (hO k)).mp (h6 k hk e).symm).symm
    · intro h5
      refine ⟨fun d2 hd2 => h5 d2 (by omega), fun k hk e => ?_⟩
      exact ((oR_eq o2 (hO k)).mpr (h5 d (Nat.lt_succ_self d) k hk e).symm).symm
theorem fit_tie {F E : FS} (hE : famEq F E) (hF : okF F) (h0 : 0 < Fn F) {R : QS} {O : OS} {sn sp sy : Nat → Nat} (hs : saidEq F sn sp sy R) (hO : ∀ k, Otw O k < 100) {bd : Nat} (hb : bd < 64) :
    fitR E R (begQ E) O bd = ftB (asF F bd) sn sp sy (Fn F) (Fag F) (Otn O) (Otw O) (Osz O) := by
  obtain ⟨-, h2⟩ := fi_tie hE hF h0 hs hO hb 10 (Nat.le_refl 10)
  have h3 : ftP (asF F bd) sn sp sy (Fn F) (fun j => -nI (Fag F j)) (Otn O) (Otw O) (Osz O) 10 ↔ ∀ d2, d2 < 10 → agP (Otn O) (Otw O) (Osz O) (d2 + 1) (trF (asF F bd) sn sp sy (Fn F) (fun j => -nI (Fag F j)) (d2 + 1)).2 :=
    ⟨fun h d hd => Classical.byContradiction (fun z => by have := h d hd; rw [agr_f z] at this; cases this), fun h d hd => agr_t (h d hd)⟩
  unfold fitR ftB
  rw [← h3] at h2
  by_cases hp : ftP (asF F bd) sn sp sy (Fn F) (fun j => -nI (Fag F j)) (Otn O) (Otw O) (Osz O) 10
  · rw [h2.mpr hp]; exact (@decide_eq_true _ (Classical.propDecidable _) hp).symm
  · have h4 : (fiQ E R (begQ E) O bd 10).2 = false := by
      cases hc : (fiQ E R (begQ E) O bd 10).2 with
      | true => exact absurd (h2.mp hc) hp
      | false => rfl
    rw [h4]; exact (@decide_eq_false _ (Classical.propDecidable _) hp).symm
theorem cdR_cong {p q : Nat → Bool} (h : ∀ j, j < 64 → p j = q j) : ∀ t, cdR p t = cdR q t
  | 0 => rfl
  | t + 1 => by rw [cdR, cdR, cdR_cong h t, h (63 - t) (by omega)]
theorem cd_cnt (p : Nat → Bool) : ∀ t, t ≤ 64 → cntB p (64 - t) + (cdR p t).1 = cntB p 64
  | 0, _ => rfl
  | t + 1, h => by
    have ih := cd_cnt p t (by omega)
    rw [show 64 - t = (63 - t) + 1 by omega] at ih
    show cntB p (64 - (t + 1)) + ((cdR p t).1 + (p (63 - t)).toNat) = cntB p 64
    rw [show 64 - (t + 1) = 63 - t by omega]
    have e : cntB p (63 - t + 1) = cntB p (63 - t) + (p (63 - t)).toNat := rfl
    omega
theorem cd_lo (p : Nat → Bool) : ∀ t, t ≤ 64 → ((cdR p t).2 = none ∧ ∀ i, 64 - t ≤ i → i < 64 → p i = false) ∨ ∃ j, (cdR p t).2 = some j ∧ 64 - t ≤ j ∧ j < 64 ∧ p j = true ∧ ∀ i, 64 - t ≤ i → i < j → p i = false
  | 0, _ => Or.inl ⟨rfl, fun i a b => by omega⟩
  | t + 1, h => by
    cases hp : p (63 - t) with
    | true => exact Or.inr ⟨63 - t, cd_t hp, by omega, by omega, hp, fun i a b => by omega⟩
    | false =>
      rw [cd_f hp]
      have hx : ∀ i, 64 - (t + 1) ≤ i → i = 63 - t ∨ 64 - t ≤ i := fun i a => by omega
      rcases cd_lo p t (by omega) with ⟨h1, h2⟩ | ⟨j, h1, h2, h3, h4, h5⟩
      · exact Or.inl ⟨h1, fun i a b => (hx i a).elim (fun e => by rw [e]; exact hp) (fun e => h2 i e b)⟩
      · exact Or.inr ⟨j, h1, by omega, h3, h4, fun i a b => (hx i a).elim (fun e => by rw [e]; exact hp) (fun e => h5 i e b)⟩
theorem cd_tie {p q : Nat → Bool} (h : ∀ j, j < 64 → p j = q j) : (cdR p 64).1 = cntB q 64 ∧ (cdR p 64).2 = loB q 64 := by
  rw [cdR_cong h]
  have h1 := cd_cnt q 64 (Nat.le_refl _)
  refine ⟨by have e : cntB q (64 - 64) = 0 := rfl; omega, ?_⟩
  rcases cd_lo q 64 (Nat.le_refl _) with ⟨h1, h2⟩ | ⟨j, h1, h2, h3, h4, h5⟩
  · rw [h1, loB_no (fun i hi => h2 i (by omega) hi)]
  · rw [h1, loB_at h3 (fun i hi => h5 i (by omega) hi) h4]
/-- years -/
theorem yr_de {E : FS} {z : Nat} {R : QS} : ∀ k, Qde (yrQ E z R k).1 = Qde R ∧ Qde (yrM E z R k) = Qde R
  | 0 => ⟨rfl, by
    unfold yrM; split
    · exact sayQ_de
    · rfl⟩
  | k + 1 => by
    obtain ⟨h1, h2⟩ := yr_de (E := E) (z := z) (R := R) k
    have h3 : Qde (yrQ E z R (k + 1)).1 = Qde R := by rw [yrQ_s]; exact h2
    refine ⟨h3, ?_⟩
    unfold yrM; split
    · rw [sayQ_de]; exact h3
    · exact h3
theorem yr_tie {F E : FS} (hE : famEq F E) (hF : okF F) (h0 : 0 < Fn F) (hk0 : 0 < Fk F) {R : QS} {f : Nat → Int32} {dy : Nat} {ak : Bool} {ow : Int32} (h : TQ (Fn F) R f dy ak ow) (z : Nat) :
    ∀ k, TQ (Fn F) (yrQ E z R k).1 (yrS (asF F (Qde R)) (Fn F) (Fk F) z f dy ak ow k).1 (dy + k) (yrS (asF F (Qde R)) (Fn F) (Fk F) z f dy ak ow k).2.1 (yrS (asF F (Qde R)) (Fn F) (Fk F) z f dy ak ow k).2.2.1 ∧ (yrQ E z R k).2 = (yrS (asF F (Qde R)) (Fn F) (Fk F) z f dy ak ow k).2.2.2
  | 0 => ⟨h, rfl⟩
  | k + 1 => by
    obtain ⟨ih, ih2⟩ := yr_tie hE hF h0 hk0 h z k
    have e0 : Fn E = Fn F := hE.1
    have e1 : Fk E = Fk F := hE.2.1
    generalize hY : yrS (asF F (Qde R)) (Fn F) (Fk F) z f dy ak ow k = Y at ih ih2
    have hS : yrS (asF F (Qde R)) (Fn F) (Fk F) z f dy ak ow (k + 1) = (
      let b := decide (drN z k / 64 % 3 = 0) && asF F (Qde R) (drN z k / 8 % Fk F) (drN z k % Fn F)
      let g := if b = true then upd Y.1 (drN z k % Fn F) (nI (dy + k)) else Y.1
      let o := if (Y.2.1 || b) = true then nI (hbw (agoF (nI (dy + k)) g) (Fn F) 0) else Y.2.2.1
      (g, false, o, if o = Y.2.2.1 then Y.2.2.2 else Y.2.2.2 + 1)) := by rw [← hY]; rfl
    have hM : TQ (Fn F) (yrM E z R k) (if (decide (drN z k / 64 % 3 = 0) && asF F (Qde R) (drN z k / 8 % Fk F) (drN z k % Fn F)) = true then upd Y.1 (drN z k % Fn F) (nI (dy + k)) else Y.1) (dy + k) (Y.2.1 || (decide (drN z k / 64 % 3 = 0) && asF F (Qde R) (drN z k / 8 % Fk F) (drN z k % Fn F))) Y.2.2.1 := by
      unfold yrM
      by_cases hc : drN z k / 64 % 3 = 0
      · rw [if_pos hc, decide_eq_true hc, Bool.true_and, e0, e1]
        have h1 := TQ_say (E := E) (s := drN z k / 8 % Fk F) ih (Nat.mod_lt (drN z k) h0)
        rw [as_tie hE (Nat.mod_lt _ hk0) (Nat.mod_lt _ h0), (yr_de k).1] at h1
        exact h1
      · rw [if_neg hc, decide_eq_false hc, Bool.false_and, if_neg (by decide), Bool.or_false]; exact ih
    have h2 := TQ_noo hM hF.1 h0
    rw [hS, yrQ_s, e0]
    refine ⟨h2, ?_⟩
    obtain ⟨o1, o2⟩ := TQ_ow h2
    obtain ⟨o3, o4⟩ := TQ_ow hM
    show (yrQ E z R k).2 + (if Qow (nooQ (Fn F) (yrM E z R k)) = Qow (yrM E z R k) then 0 else 1) = (if (if (Y.2.1 || (decide (drN z k / 64 % 3 = 0) && asF F (Qde R) (drN z k / 8 % Fk F) (drN z k % Fn F))) = true then nI (hbw (agoF (nI (dy + k)) (if (decide (drN z k / 64 % 3 = 0) && asF F (Qde R) (drN z k / 8 % Fk F) (drN z k % Fn F)) = true then upd Y.1 (drN z k % Fn F) (nI (dy + k)) else Y.1)) (Fn F) 0) else Y.2.2.1) = Y.2.2.1 then Y.2.2.2 else Y.2.2.2 + 1)
    rw [o1, o3, ih2]
    generalize (if (Y.2.1 || (decide (drN z k / 64 % 3 = 0) && asF F (Qde R) (drN z k / 8 % Fk F) (drN z k % Fn F))) = true then nI (hbw (agoF (nI (dy + k)) (if (decide (drN z k / 64 % 3 = 0) && asF F (Qde R) (drN z k / 8 % Fk F) (drN z k % Fn F)) = true then upd Y.1 (drN z k % Fn F) (nI (dy + k)) else Y.1)) (Fn F) 0) else Y.2.2.1) = o at o2 ⊢
    by_cases ho : o = Y.2.2.1
    · rw [if_pos ((oR_inj o2 o4).mpr ho), if_pos ho, Nat.add_zero]
    · rw [if_neg (fun x => ho ((oR_inj o2 o4).mp x)), if_neg ho]

