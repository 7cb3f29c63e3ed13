/-! PART 16: the law -/
section
variable {X : GX} {R : Room} {cc : ByteArray} {nL : Nat} {Ts : List Cond} {own : String} {ini sb : Bool} {Z : Nat → ClassId} {Φ : Option Value → va_W → Prop} {mc ms k n : Nat} {ws : va_W} {lv : List (Nat × Value)} {st : List Value} {pc q : Nat}
/-- the law's script -/
def XS (X : GX) (b L : Nat) (xs : Nat → Int32) : Prop := match X with
  | (_, _, _, s, _, _, _, _, _, _, A, _) => va_X b L xs s s.heap ∧ b < s.heap.size ∧ ¬ A b
theorem G_slen {b L : Nat} {xs : Nat → Int32} (hX : XS X b L xs) (hd : decode cc pc = .ok (.arraylength, 1)) (hq : pc + 1 = q) (kk : GG X R cc nL Ts own ini sb Z Φ mc ms k n (ws) lv (.int (nI L) :: st) q) : GG X R cc nL Ts own ini sb Z Φ mc ms k n (ws) lv (.ref b :: st) pc := by
  obtain ⟨p, l, e, s, m, args, below, meth, c, D, A, Q⟩ := X
  intro S I E F H locs ls hW hl
  obtain ⟨hx, hb, hml, hown, hts⟩ := id S
  obtain ⟨hK, hP, hD, hS, hA⟩ := id hW
  obtain ⟨h1, h2, h3⟩ := hX
  subst hq
  exact va_slen hx hb h1 h2 h3 hS hd (kk S I E F H locs ls hW hl)
theorem G_sld {b L j : Nat} {xs : Nat → Int32} (hX : XS X b L xs) (hj : j < L) (hL : L ≤ 256) (hd : decode cc pc = .ok (.iaload, 1)) (hq : pc + 1 = q) (kk : GG X R cc nL Ts own ini sb Z Φ mc ms k n (ws) lv (.int (xs j) :: st) q) : GG X R cc nL Ts own ini sb Z Φ mc ms k n (ws) lv (.int (nI j) :: .ref b :: st) pc := by
  obtain ⟨p, l, e, s, m, args, below, meth, c, D, A, Q⟩ := X
  intro S I E F H locs ls hW hl
  obtain ⟨hx, hb, hml, hown, hts⟩ := id S
  obtain ⟨hK, hP, hD, hS, hA⟩ := id hW
  obtain ⟨h1, h2, h3⟩ := hX
  subst hq
  have e : (nI j).toNatClampNeg = j := nI_clamp (by omega)
  refine va_sld hx hb h1 h2 h3 hS (i := nI j) (vp_in_nI hj (by omega)) hd ?_
  rw [e]
  exact kk S I E F H locs ls hW hl
theorem G_callOP {y : MethodName} {Tc : List Cond} {bytes : ByteArray} {maxL nn index b ci N : Nat} {ret : Option FieldType} {C : String} {T : u_T} {as rest : List Value} {w0 Y : va_W} {t : Value} {P : va_W → Prop} (hd : decode cc pc = .ok (.invokevirtual index, 3)) (h : OPC Z y Tc (.ref b :: as) w0 t P) (hk : CS y Tc bytes maxL ret nn) (hG : GoodIn Ts (wsV own index C y Tc)) (hcls : y.cls = C) (hm : maxL ≤ 15) (hR : 9 ≤ R.frames ∧ 234 ≤ R.locals) (hrec : ∃ fs w1, w0 = (b, .inr (ci, fs)) :: w1) (hci : vwCl[ci]? = some (C, T, N)) (hAs : as.length = nn) (hst : st = as.reverse ++ .ref b :: rest) (hcat : (rest.map fun v => v.category).sum ≤ 8) (hroom : k ≤ R.cells ∧ n ≤ R.slots) (hq : pc + 3 = q)
    (kk : ∀ w1, P w1 → GG X R cc nL Ts own ini sb Z Φ mc ms k n (w1 ++ Y) lv (t :: rest) q) : GG X R cc nL Ts own ini sb Z Φ mc ms k n (w0 ++ Y) lv (st) pc := by
  obtain ⟨Rc, f1, f2, f3, f4, hC⟩ := h
  obtain ⟨fs, w1, hw⟩ := hrec
  refine G_callVG (w0 := w0) (Y := Y) hd hC (fun z => absurd z (by decide)) hk hG hcls ⟨by omega, by omega⟩ ⟨f3, f4⟩ 0 (by rw [hw]; rfl) hci rfl hAs hst hcat hroom (fun v w h => h.2.2) hq (fun v w h => ?_)
  obtain ⟨rfl, hP, -⟩ := h
  exact kk w hP
end
theorem INV_rec {Z : Nat → ClassId} {b9 b10 : Nat} {u9 u10 : va_W} (h : INV Z b9 b10 u9 u10) : (∃ fs w1, u9 = (b9, .inr (9, fs)) :: w1) ∧ ∃ fs w1, u10 = (b10, .inr (10, fs)) :: w1 := by
  obtain ⟨B, A0, AD, AE, ln, L, F, S, U, K, O, J, C, E, R, W, V, ac, kp, L2, J2, rfl, rfl, hJ, hJ2, T, rfl, rfl⟩ := h
  exact ⟨⟨_, _, rfl⟩, ⟨_, _, rfl⟩⟩
def LV (b b9 b10 i : Nat) : List (Nat × Value) := [(0, .ref b), (1, .ref b9), (2, .ref b10), (3, .int (nI i))]
def LG (X : GX) (Z : Nat → ClassId) (Φ : Option Value → va_W → Prop) (k n : Nat) (ws : va_W) (lv : List (Nat × Value)) (st : List Value) (pc : Nat) : Prop := GG X room_1 cL_law 4 wsL_law RL false true Z Φ 137 3683 k n ws lv st pc
theorem lg_same (x : Int64) : lg_cmp x x = nI 0 := by
  unfold lg_cmp
  rw [if_neg (fun h : x > x => absurd h Int64.lt_irrefl), if_pos rfl]; rfl
set_option maxHeartbeats 1000000 in
theorem law_b160 {X : GX} {Z : Nat → ClassId} {Φ : Option Value → va_W → Prop} {k n b b9 b10 L i : Nat} {xs : Nat → Int32} {u9 u10 : va_W} (hX : XS X b L xs) (hi : i + 4 ≤ L) (hL : L ≤ 256) (hI : INV Z b9 b10 u9 u10) (hroom : k ≤ 600000 ∧ n ≤ 7302250) (next : ∀ v9 v10, INV Z b9 b10 v9 v10 → LG X Z Φ k n (v9 ++ v10) (LV b b9 b10 i) [] 815) : LG X Z Φ k n (u9 ++ u10) (LV b b9 b10 i) [] 160 := by
  obtain ⟨t, P9, P10, ⟨ti, rfl⟩, o9, o10, hn⟩ := op_write Z (xs (i + 1)) b9 b10 u9 u10 hI
  obtain ⟨r9, r10⟩ := INV_rec hI
  show GG X room_1 cL_law 4 wsL_law RL false true Z Φ 137 3683 k n (u9 ++ u10) [(0, .ref b), (1, .ref b9), (2, .ref b10), (3, .int (nI i))] [] 160
  refine G_aload_n (q := 161) dL_law_160 rfl 1 rfl rfl ?_
  refine G_aload_n (q := 162) dL_law_161 rfl 0 rfl rfl ?_
  refine G_iload_n (q := 163) dL_law_162 rfl 3 rfl rfl ?_
  refine G_iconst (v := nI 1) (q := 164) dL_law_163 (by decide) rfl ?_
  refine G_iaddN (a := i) (b := 1) (q := 165) dL_law_164 rfl ?_
  refine G_sld (j := i + 1) hX (by omega) hL (q := 166) dL_law_165 rfl ?_
  refine G_callOP (as := [.int (xs (i + 1))]) (rest := []) (q := 169) dL_law_166 o9 cs_X9_write gL_law_X9_write rfl (by decide) ⟨Nat.le_of_ble_eq_true rfl, Nat.le_of_ble_eq_true rfl⟩ r9 (show vwCl[9]? = some (RX9, TX9, 10) from rfl) rfl rfl (Nat.le_of_ble_eq_true rfl) hroom rfl (fun v9 p9 => ?_)
  refine GG.perm (ws2 := u10 ++ v9) List.perm_append_comm ?_
  refine G_aload_n (q := 170) dL_law_169 rfl 2 rfl rfl ?_
  refine G_aload_n (q := 171) dL_law_170 rfl 0 rfl rfl ?_
  refine G_iload_n (q := 172) dL_law_171 rfl 3 rfl rfl ?_
  refine G_iconst (v := nI 1) (q := 173) dL_law_172 (by decide) rfl ?_
  refine G_iaddN (a := i) (b := 1) (q := 174) dL_law_173 rfl ?_
  refine G_sld (j := i + 1) hX (by omega) hL (q := 175) dL_law_174 rfl ?_
  refine G_callOP (as := [.int (xs (i + 1))]) (rest := [.int ti]) (q := 178) dL_law_175 o10 cs_X10_write gL_law_X10_write rfl (by decide) ⟨Nat.le_of_ble_eq_true rfl, Nat.le_of_ble_eq_true rfl⟩ r10 (show vwCl[10]? = some (RX10, TX10, 25) from rfl) rfl rfl (Nat.le_of_ble_eq_true rfl) hroom rfl (fun v10 p10 => ?_)
  refine GG.perm (ws2 := v9 ++ v10) List.perm_append_comm ?_
  refine G_icmp_eqT (tgt := 815) dL_law_178 (by decide) rfl ?_
  exact next v9 v10 (hn v9 v10 p9 p10)
set_option maxHeartbeats 1000000 in
theorem law_b183 {X : GX} {Z : Nat → ClassId} {Φ : Option Value → va_W → Prop} {k n b b9 b10 L i : Nat} {xs : Nat → Int32} {u9 u10 : va_W} (hX : XS X b L xs) (hi : i + 4 ≤ L) (hL : L ≤ 256) (hI : INV Z b9 b10 u9 u10) (hroom : k ≤ 600000 ∧ n ≤ 7302250) (next : ∀ v9 v10, INV Z b9 b10 v9 v10 → LG X Z Φ k n (v9 ++ v10) (LV b b9 b10 i) [] 815) : LG X Z Φ k n (u9 ++ u10) (LV b b9 b10 i) [] 183 := by
  obtain ⟨t, P9, P10, ⟨ti, rfl⟩, o9, o10, hn⟩ := op_wipe Z  b9 b10 u9 u10 hI
  obtain ⟨r9, r10⟩ := INV_rec hI
  show GG X room_1 cL_law 4 wsL_law RL false true Z Φ 137 3683 k n (u9 ++ u10) [(0, .ref b), (1, .ref b9), (2, .ref b10), (3, .int (nI i))] [] 183
  refine G_aload_n (q := 184) dL_law_183 rfl 1 rfl rfl ?_
  refine G_callOP (as := []) (rest := []) (q := 187) dL_law_184 o9 cs_X9_wipe gL_law_X9_wipe rfl (by decide) ⟨Nat.le_of_ble_eq_true rfl, Nat.le_of_ble_eq_true rfl⟩ r9 (show vwCl[9]? = some (RX9, TX9, 10) from rfl) rfl rfl (Nat.le_of_ble_eq_true rfl) hroom rfl (fun v9 p9 => ?_)
  refine GG.perm (ws2 := u10 ++ v9) List.perm_append_comm ?_
  refine G_aload_n (q := 188) dL_law_187 rfl 2 rfl rfl ?_
  refine G_callOP (as := []) (rest := [.int ti]) (q := 191) dL_law_188 o10 cs_X10_wipe gL_law_X10_wipe rfl (by decide) ⟨Nat.le_of_ble_eq_true rfl, Nat.le_of_ble_eq_true rfl⟩ r10 (show vwCl[10]? = some (RX10, TX10, 25) from rfl) rfl rfl (Nat.le_of_ble_eq_true rfl) hroom rfl (fun v10 p10 => ?_)
  refine GG.perm (ws2 := v9 ++ v10) List.perm_append_comm ?_
  refine G_icmp_eqT (tgt := 815) dL_law_191 (by decide) rfl ?_
  exact next v9 v10 (hn v9 v10 p9 p10)
set_option maxHeartbeats 1000000 in
theorem law_b196 {X : GX} {Z : Nat → ClassId} {Φ : Option Value → va_W → Prop} {k n b b9 b10 L i : Nat} {xs : Nat → Int32} {u9 u10 : va_W} (hX : XS X b L xs) (hi : i + 4 ≤ L) (hL : L ≤ 256) (hI : INV Z b9 b10 u9 u10) (hroom : k ≤ 600000 ∧ n ≤ 7302250) (next : ∀ v9 v10, INV Z b9 b10 v9 v10 → LG X Z Φ k n (v9 ++ v10) (LV b b9 b10 i) [] 815) : LG X Z Φ k n (u9 ++ u10) (LV b b9 b10 i) [] 196 := by
  obtain ⟨t, P9, P10, ⟨ti, rfl⟩, o9, o10, hn⟩ := op_fault Z  b9 b10 u9 u10 hI
  obtain ⟨r9, r10⟩ := INV_rec hI
  show GG X room_1 cL_law 4 wsL_law RL false true Z Φ 137 3683 k n (u9 ++ u10) [(0, .ref b), (1, .ref b9), (2, .ref b10), (3, .int (nI i))] [] 196
  refine G_aload_n (q := 197) dL_law_196 rfl 1 rfl rfl ?_
  refine G_callOP (as := []) (rest := []) (q := 200) dL_law_197 o9 cs_X9_fault gL_law_X9_fault rfl (by decide) ⟨Nat.le_of_ble_eq_true rfl, Nat.le_of_ble_eq_true rfl⟩ r9 (show vwCl[9]? = some (RX9, TX9, 10) from rfl) rfl rfl (Nat.le_of_ble_eq_true rfl) hroom rfl (fun v9 p9 => ?_)
  refine GG.perm (ws2 := u10 ++ v9) List.perm_append_comm ?_
  refine G_aload_n (q := 201) dL_law_200 rfl 2 rfl rfl ?_
  refine G_callOP (as := []) (rest := [.int ti]) (q := 204) dL_law_201 o10 cs_X10_fault gL_law_X10_fault rfl (by decide) ⟨Nat.le_of_ble_eq_true rfl, Nat.le_of_ble_eq_true rfl⟩ r10 (show vwCl[10]? = some (RX10, TX10, 25) from rfl) rfl rfl (Nat.le_of_ble_eq_true rfl) hroom rfl (fun v10 p10 => ?_)
  refine GG.perm (ws2 := v9 ++ v10) List.perm_append_comm ?_
  refine G_icmp_eqT (tgt := 815) dL_law_204 (by decide) rfl ?_
  exact next v9 v10 (hn v9 v10 p9 p10)
set_option maxHeartbeats 1000000 in
theorem law_b209 {X : GX} {Z : Nat → ClassId} {Φ : Option Value → va_W → Prop} {k n b b9 b10 L i : Nat} {xs : Nat → Int32} {u9 u10 : va_W} (hX : XS X b L xs) (hi : i + 4 ≤ L) (hL : L ≤ 256) (hI : INV Z b9 b10 u9 u10) (hroom : k ≤ 600000 ∧ n ≤ 7302250) (next : ∀ v9 v10, INV Z b9 b10 v9 v10 → LG X Z Φ k n (v9 ++ v10) (LV b b9 b10 i) [] 815) : LG X Z Φ k n (u9 ++ u10) (LV b b9 b10 i) [] 209 := by
  obtain ⟨t, P9, P10, ⟨ti, rfl⟩, o9, o10, hn⟩ := op_lay Z  b9 b10 u9 u10 hI
  obtain ⟨r9, r10⟩ := INV_rec hI
  show GG X room_1 cL_law 4 wsL_law RL false true Z Φ 137 3683 k n (u9 ++ u10) [(0, .ref b), (1, .ref b9), (2, .ref b10), (3, .int (nI i))] [] 209
  refine G_aload_n (q := 210) dL_law_209 rfl 1 rfl rfl ?_
  refine G_callOP (as := []) (rest := []) (q := 213) dL_law_210 o9 cs_X9_lay gL_law_X9_lay rfl (by decide) ⟨Nat.le_of_ble_eq_true rfl, Nat.le_of_ble_eq_true rfl⟩ r9 (show vwCl[9]? = some (RX9, TX9, 10) from rfl) rfl rfl (Nat.le_of_ble_eq_true rfl) hroom rfl (fun v9 p9 => ?_)
  refine GG.perm (ws2 := u10 ++ v9) List.perm_append_comm ?_
  refine G_aload_n (q := 214) dL_law_213 rfl 2 rfl rfl ?_
  refine G_callOP (as := []) (rest := [.int ti]) (q := 217) dL_law_214 o10 cs_X10_lay gL_law_X10_lay rfl (by decide) ⟨Nat.le_of_ble_eq_true rfl, Nat.le_of_ble_eq_true rfl⟩ r10 (show vwCl[10]? = some (RX10, TX10, 25) from rfl) rfl rfl (Nat.le_of_ble_eq_true rfl) hroom rfl (fun v10 p10 => ?_)
  refine GG.perm (ws2 := v9 ++ v10) List.perm_append_comm ?_
  refine G_icmp_eqT (tgt := 815) dL_law_217 (by decide) rfl ?_
  exact next v9 v10 (hn v9 v10 p9 p10)
set_option maxHeartbeats 1000000 in
theorem law_b222 {X : GX} {Z : Nat → ClassId} {Φ : Option Value → va_W → Prop} {k n b b9 b10 L i : Nat} {xs : Nat → Int32} {u9 u10 : va_W} (hX : XS X b L xs) (hi : i + 4 ≤ L) (hL : L ≤ 256) (hI : INV Z b9 b10 u9 u10) (hroom : k ≤ 600000 ∧ n ≤ 7302250) (next : ∀ v9 v10, INV Z b9 b10 v9 v10 → LG X Z Φ k n (v9 ++ v10) (LV b b9 b10 i) [] 815) : LG X Z Φ k n (u9 ++ u10) (LV b b9 b10 i) [] 222 := by
  obtain ⟨t, P9, P10, ⟨ti, rfl⟩, o9, o10, hn⟩ := op_relative Z (xs (i + 1)) (xs (i + 2)) b9 b10 u9 u10 hI
  obtain ⟨r9, r10⟩ := INV_rec hI
  show GG X room_1 cL_law 4 wsL_law RL false true Z Φ 137 3683 k n (u9 ++ u10) [(0, .ref b), (1, .ref b9), (2, .ref b10), (3, .int (nI i))] [] 222
  refine G_aload_n (q := 223) dL_law_222 rfl 1 rfl rfl ?_
  refine G_aload_n (q := 224) dL_law_223 rfl 0 rfl rfl ?_
  refine G_iload_n (q := 225) dL_law_224 rfl 3 rfl rfl ?_
  refine G_iconst (v := nI 1) (q := 226) dL_law_225 (by decide) rfl ?_
  refine G_iaddN (a := i) (b := 1) (q := 227) dL_law_226 rfl ?_
  refine G_sld (j := i + 1) hX (by omega) hL (q := 228) dL_law_227 rfl ?_
  refine G_aload_n (q := 229) dL_law_228 rfl 0 rfl rfl ?_
  refine G_iload_n (q := 230) dL_law_229 rfl 3 rfl rfl ?_
  refine G_iconst (v := nI 2) (q := 231) dL_law_230 (by decide) rfl ?_
  refine G_iaddN (a := i) (b := 2) (q := 232) dL_law_231 rfl ?_
  refine G_sld (j := i + 2) hX (by omega) hL (q := 233) dL_law_232 rfl ?_
  refine G_callOP (as := [.int (xs (i + 1)), .int (xs (i + 2))]) (rest := []) (q := 236) dL_law_233 o9 cs_X9_relative gL_law_X9_relative rfl (by decide) ⟨Nat.le_of_ble_eq_true rfl, Nat.le_of_ble_eq_true rfl⟩ r9 (show vwCl[9]? = some (RX9, TX9, 10) from rfl) rfl rfl (Nat.le_of_ble_eq_true rfl) hroom rfl (fun v9 p9 => ?_)
  refine GG.perm (ws2 := u10 ++ v9) List.perm_append_comm ?_
  refine G_aload_n (q := 237) dL_law_236 rfl 2 rfl rfl ?_
  refine G_aload_n (q := 238) dL_law_237 rfl 0 rfl rfl ?_
  refine G_iload_n (q := 239) dL_law_238 rfl 3 rfl rfl ?_
  refine G_iconst (v := nI 1) (q := 240) dL_law_239 (by decide) rfl ?_
  refine G_iaddN (a := i) (b := 1) (q := 241) dL_law_240 rfl ?_
  refine G_sld (j := i + 1) hX (by omega) hL (q := 242) dL_law_241 rfl ?_
  refine G_aload_n (q := 243) dL_law_242 rfl 0 rfl rfl ?_
  refine G_iload_n (q := 244) dL_law_243 rfl 3 rfl rfl ?_
  refine G_iconst (v := nI 2) (q := 245) dL_law_244 (by decide) rfl ?_
  refine G_iaddN (a := i) (b := 2) (q := 246) dL_law_245 rfl ?_
  refine G_sld (j := i + 2) hX (by omega) hL (q := 247) dL_law_246 rfl ?_
  refine G_callOP (as := [.int (xs (i + 1)), .int (xs (i + 2))]) (rest := [.int ti]) (q := 250) dL_law_247 o10 cs_X10_relative gL_law_X10_relative rfl (by decide) ⟨Nat.le_of_ble_eq_true rfl, Nat.le_of_ble_eq_true rfl⟩ r10 (show vwCl[10]? = some (RX10, TX10, 25) from rfl) rfl rfl (Nat.le_of_ble_eq_true rfl) hroom rfl (fun v10 p10 => ?_)
  refine GG.perm (ws2 := v9 ++ v10) List.perm_append_comm ?_
  refine G_icmp_eqT (tgt := 815) dL_law_250 (by decide) rfl ?_
  exact next v9 v10 (hn v9 v10 p9 p10)
set_option maxHeartbeats 1000000 in
theorem law_b255 {X : GX} {Z : Nat → ClassId} {Φ : Option Value → va_W → Prop} {k n b b9 b10 L i : Nat} {xs : Nat → Int32} {u9 u10 : va_W} (hX : XS X b L xs) (hi : i + 4 ≤ L) (hL : L ≤ 256) (hI : INV Z b9 b10 u9 u10) (hroom : k ≤ 600000 ∧ n ≤ 7302250) (next : ∀ v9 v10, INV Z b9 b10 v9 v10 → LG X Z Φ k n (v9 ++ v10) (LV b b9 b10 i) [] 815) : LG X Z Φ k n (u9 ++ u10) (LV b b9 b10 i) [] 255 := by
  obtain ⟨t, P9, P10, ⟨ti, rfl⟩, o9, o10, hn⟩ := op_saying Z (xs (i + 1)) (xs (i + 2)) b9 b10 u9 u10 hI
  obtain ⟨r9, r10⟩ := INV_rec hI
  show GG X room_1 cL_law 4 wsL_law RL false true Z Φ 137 3683 k n (u9 ++ u10) [(0, .ref b), (1, .ref b9), (2, .ref b10), (3, .int (nI i))] [] 255
  refine G_aload_n (q := 256) dL_law_255 rfl 1 rfl rfl ?_
  refine G_aload_n (q := 257) dL_law_256 rfl 0 rfl rfl ?_
  refine G_iload_n (q := 258) dL_law_257 rfl 3 rfl rfl ?_
  refine G_iconst (v := nI 1) (q := 259) dL_law_258 (by decide) rfl ?_
  refine G_iaddN (a := i) (b := 1) (q := 260) dL_law_259 rfl ?_
  refine G_sld (j := i + 1) hX (by omega) hL (q := 261) dL_law_260 rfl ?_
  refine G_aload_n (q := 262) dL_law_261 rfl 0 rfl rfl ?_
  refine G_iload_n (q := 263) dL_law_262 rfl 3 rfl rfl ?_
  refine G_iconst (v := nI 2) (q := 264) dL_law_263 (by decide) rfl ?_
  refine G_iaddN (a := i) (b := 2) (q := 265) dL_law_264 rfl ?_
  refine G_sld (j := i + 2) hX (by omega) hL (q := 266) dL_law_265 rfl ?_
  refine G_callOP (as := [.int (xs (i + 1)), .int (xs (i + 2))]) (rest := []) (q := 269) dL_law_266 o9 cs_X9_saying gL_law_X9_saying rfl (by decide) ⟨Nat.le_of_ble_eq_true rfl, Nat.le_of_ble_eq_true rfl⟩ r9 (show vwCl[9]? = some (RX9, TX9, 10) from rfl) rfl rfl (Nat.le_of_ble_eq_true rfl) hroom rfl (fun v9 p9 => ?_)
  refine GG.perm (ws2 := u10 ++ v9) List.perm_append_comm ?_
  refine G_aload_n (q := 270) dL_law_269 rfl 2 rfl rfl ?_
  refine G_aload_n (q := 271) dL_law_270 rfl 0 rfl rfl ?_
  refine G_iload_n (q := 272) dL_law_271 rfl 3 rfl rfl ?_
  refine G_iconst (v := nI 1) (q := 273) dL_law_272 (by decide) rfl ?_
  refine G_iaddN (a := i) (b := 1) (q := 274) dL_law_273 rfl ?_
  refine G_sld (j := i + 1) hX (by omega) hL (q := 275) dL_law_274 rfl ?_
  refine G_aload_n (q := 276) dL_law_275 rfl 0 rfl rfl ?_
  refine G_iload_n (q := 277) dL_law_276 rfl 3 rfl rfl ?_
  refine G_iconst (v := nI 2) (q := 278) dL_law_277 (by decide) rfl ?_
  refine G_iaddN (a := i) (b := 2) (q := 279) dL_law_278 rfl ?_
  refine G_sld (j := i + 2) hX (by omega) hL (q := 280) dL_law_279 rfl ?_
  refine G_callOP (as := [.int (xs (i + 1)), .int (xs (i + 2))]) (rest := [.int ti]) (q := 283) dL_law_280 o10 cs_X10_saying gL_law_X10_saying rfl (by decide) ⟨Nat.le_of_ble_eq_true rfl, Nat.le_of_ble_eq_true rfl⟩ r10 (show vwCl[10]? = some (RX10, TX10, 25) from rfl) rfl rfl (Nat.le_of_ble_eq_true rfl) hroom rfl (fun v10 p10 => ?_)
  refine GG.perm (ws2 := v9 ++ v10) List.perm_append_comm ?_
  refine G_icmp_eqT (tgt := 815) dL_law_283 (by decide) rfl ?_
  exact next v9 v10 (hn v9 v10 p9 p10)
set_option maxHeartbeats 1000000 in
theorem law_b288 {X : GX} {Z : Nat → ClassId} {Φ : Option Value → va_W → Prop} {k n b b9 b10 L i : Nat} {xs : Nat → Int32} {u9 u10 : va_W} (hX : XS X b L xs) (hi : i + 4 ≤ L) (hL : L ≤ 256) (hI : INV Z b9 b10 u9 u10) (hroom : k ≤ 600000 ∧ n ≤ 7302250) (next : ∀ v9 v10, INV Z b9 b10 v9 v10 → LG X Z Φ k n (v9 ++ v10) (LV b b9 b10 i) [] 815) : LG X Z Φ k n (u9 ++ u10) (LV b b9 b10 i) [] 288 := by
  obtain ⟨t, P9, P10, ⟨ti, rfl⟩, o9, o10, hn⟩ := op_asking Z (xs (i + 1)) (xs (i + 2)) b9 b10 u9 u10 hI
  obtain ⟨r9, r10⟩ := INV_rec hI
  show GG X room_1 cL_law 4 wsL_law RL false true Z Φ 137 3683 k n (u9 ++ u10) [(0, .ref b), (1, .ref b9), (2, .ref b10), (3, .int (nI i))] [] 288
  refine G_aload_n (q := 289) dL_law_288 rfl 1 rfl rfl ?_
  refine G_aload_n (q := 290) dL_law_289 rfl 0 rfl rfl ?_
  refine G_iload_n (q := 291) dL_law_290 rfl 3 rfl rfl ?_
  refine G_iconst (v := nI 1) (q := 292) dL_law_291 (by decide) rfl ?_
  refine G_iaddN (a := i) (b := 1) (q := 293) dL_law_292 rfl ?_
  refine G_sld (j := i + 1) hX (by omega) hL (q := 294) dL_law_293 rfl ?_
  refine G_aload_n (q := 295) dL_law_294 rfl 0 rfl rfl ?_
  refine G_iload_n (q := 296) dL_law_295 rfl 3 rfl rfl ?_
  refine G_iconst (v := nI 2) (q := 297) dL_law_296 (by decide) rfl ?_
  refine G_iaddN (a := i) (b := 2) (q := 298) dL_law_297 rfl ?_
  refine G_sld (j := i + 2) hX (by omega) hL (q := 299) dL_law_298 rfl ?_
  refine G_callOP (as := [.int (xs (i + 1)), .int (xs (i + 2))]) (rest := []) (q := 302) dL_law_299 o9 cs_X9_asking gL_law_X9_asking rfl (by decide) ⟨Nat.le_of_ble_eq_true rfl, Nat.le_of_ble_eq_true rfl⟩ r9 (show vwCl[9]? = some (RX9, TX9, 10) from rfl) rfl rfl (Nat.le_of_ble_eq_true rfl) hroom rfl (fun v9 p9 => ?_)
  refine GG.perm (ws2 := u10 ++ v9) List.perm_append_comm ?_
  refine G_aload_n (q := 303) dL_law_302 rfl 2 rfl rfl ?_
  refine G_aload_n (q := 304) dL_law_303 rfl 0 rfl rfl ?_
  refine G_iload_n (q := 305) dL_law_304 rfl 3 rfl rfl ?_
  refine G_iconst (v := nI 1) (q := 306) dL_law_305 (by decide) rfl ?_
  refine G_iaddN (a := i) (b := 1) (q := 307) dL_law_306 rfl ?_
  refine G_sld (j := i + 1) hX (by omega) hL (q := 308) dL_law_307 rfl ?_
  refine G_aload_n (q := 309) dL_law_308 rfl 0 rfl rfl ?_
  refine G_iload_n (q := 310) dL_law_309 rfl 3 rfl rfl ?_
  refine G_iconst (v := nI 2) (q := 311) dL_law_310 (by decide) rfl ?_
  refine G_iaddN (a := i) (b := 2) (q := 312) dL_law_311 rfl ?_
  refine G_sld (j := i + 2) hX (by omega) hL (q := 313) dL_law_312 rfl ?_
  refine G_callOP (as := [.int (xs (i + 1)), .int (xs (i + 2))]) (rest := [.int ti]) (q := 316) dL_law_313 o10 cs_X10_asking gL_law_X10_asking rfl (by decide) ⟨Nat.le_of_ble_eq_true rfl, Nat.le_of_ble_eq_true rfl⟩ r10 (show vwCl[10]? = some (RX10, TX10, 25) from rfl) rfl rfl (Nat.le_of_ble_eq_true rfl) hroom rfl (fun v10 p10 => ?_)
  refine GG.perm (ws2 := v9 ++ v10) List.perm_append_comm ?_
  refine G_icmp_eqT (tgt := 815) dL_law_316 (by decide) rfl ?_
  exact next v9 v10 (hn v9 v10 p9 p10)
set_option maxHeartbeats 1000000 in
theorem law_b321 {X : GX} {Z : Nat → ClassId} {Φ : Option Value → va_W → Prop} {k n b b9 b10 L i : Nat} {xs : Nat → Int32} {u9 u10 : va_W} (hX : XS X b L xs) (hi : i + 4 ≤ L) (hL : L ≤ 256) (hI : INV Z b9 b10 u9 u10) (hroom : k ≤ 600000 ∧ n ≤ 7302250) (next : ∀ v9 v10, INV Z b9 b10 v9 v10 → LG X Z Φ k n (v9 ++ v10) (LV b b9 b10 i) [] 815) : LG X Z Φ k n (u9 ++ u10) (LV b b9 b10 i) [] 321 := by
  obtain ⟨t, P9, P10, ⟨ti, rfl⟩, o9, o10, hn⟩ := op_knows Z (xs (i + 1)) (xs (i + 2)) b9 b10 u9 u10 hI
  obtain ⟨r9, r10⟩ := INV_rec hI
  show GG X room_1 cL_law 4 wsL_law RL false true Z Φ 137 3683 k n (u9 ++ u10) [(0, .ref b), (1, .ref b9), (2, .ref b10), (3, .int (nI i))] [] 321
  refine G_aload_n (q := 322) dL_law_321 rfl 1 rfl rfl ?_
  refine G_aload_n (q := 323) dL_law_322 rfl 0 rfl rfl ?_
  refine G_iload_n (q := 324) dL_law_323 rfl 3 rfl rfl ?_
  refine G_iconst (v := nI 1) (q := 325) dL_law_324 (by decide) rfl ?_
  refine G_iaddN (a := i) (b := 1) (q := 326) dL_law_325 rfl ?_
  refine G_sld (j := i + 1) hX (by omega) hL (q := 327) dL_law_326 rfl ?_
  refine G_aload_n (q := 328) dL_law_327 rfl 0 rfl rfl ?_
  refine G_iload_n (q := 329) dL_law_328 rfl 3 rfl rfl ?_
  refine G_iconst (v := nI 2) (q := 330) dL_law_329 (by decide) rfl ?_
  refine G_iaddN (a := i) (b := 2) (q := 331) dL_law_330 rfl ?_
  refine G_sld (j := i + 2) hX (by omega) hL (q := 332) dL_law_331 rfl ?_
  refine G_callOP (as := [.int (xs (i + 1)), .int (xs (i + 2))]) (rest := []) (q := 335) dL_law_332 o9 cs_X9_knows gL_law_X9_knows rfl (by decide) ⟨Nat.le_of_ble_eq_true rfl, Nat.le_of_ble_eq_true rfl⟩ r9 (show vwCl[9]? = some (RX9, TX9, 10) from rfl) rfl rfl (Nat.le_of_ble_eq_true rfl) hroom rfl (fun v9 p9 => ?_)
  refine GG.perm (ws2 := u10 ++ v9) List.perm_append_comm ?_
  refine G_aload_n (q := 336) dL_law_335 rfl 2 rfl rfl ?_
  refine G_aload_n (q := 337) dL_law_336 rfl 0 rfl rfl ?_
  refine G_iload_n (q := 338) dL_law_337 rfl 3 rfl rfl ?_
  refine G_iconst (v := nI 1) (q := 339) dL_law_338 (by decide) rfl ?_
  refine G_iaddN (a := i) (b := 1) (q := 340) dL_law_339 rfl ?_
  refine G_sld (j := i + 1) hX (by omega) hL (q := 341) dL_law_340 rfl ?_
  refine G_aload_n (q := 342) dL_law_341 rfl 0 rfl rfl ?_
  refine G_iload_n (q := 343) dL_law_342 rfl 3 rfl rfl ?_
  refine G_iconst (v := nI 2) (q := 344) dL_law_343 (by decide) rfl ?_
  refine G_iaddN (a := i) (b := 2) (q := 345) dL_law_344 rfl ?_
  refine G_sld (j := i + 2) hX (by omega) hL (q := 346) dL_law_345 rfl ?_
  refine G_callOP (as := [.int (xs (i + 1)), .int (xs (i + 2))]) (rest := [.int ti]) (q := 349) dL_law_346 o10 cs_X10_knows gL_law_X10_knows rfl (by decide) ⟨Nat.le_of_ble_eq_true rfl, Nat.le_of_ble_eq_true rfl⟩ r10 (show vwCl[10]? = some (RX10, TX10, 25) from rfl) rfl rfl (Nat.le_of_ble_eq_true rfl) hroom rfl (fun v10 p10 => ?_)
  refine GG.perm (ws2 := v9 ++ v10) List.perm_append_comm ?_
  refine G_icmp_eqT (tgt := 815) dL_law_349 (by decide) rfl ?_
  exact next v9 v10 (hn v9 v10 p9 p10)
set_option maxHeartbeats 1000000 in
theorem law_b354 {X : GX} {Z : Nat → ClassId} {Φ : Option Value → va_W → Prop} {k n b b9 b10 L i : Nat} {xs : Nat → Int32} {u9 u10 : va_W} (hX : XS X b L xs) (hi : i + 4 ≤ L) (hL : L ≤ 256) (hI : INV Z b9 b10 u9 u10) (hroom : k ≤ 600000 ∧ n ≤ 7302250) (next : ∀ v9 v10, INV Z b9 b10 v9 v10 → LG X Z Φ k n (v9 ++ v10) (LV b b9 b10 i) [] 815) : LG X Z Φ k n (u9 ++ u10) (LV b b9 b10 i) [] 354 := by
  obtain ⟨t, P9, P10, ⟨ti, rfl⟩, o9, o10, hn⟩ := op_say Z (xs (i + 1)) (xs (i + 2)) b9 b10 u9 u10 hI
  obtain ⟨r9, r10⟩ := INV_rec hI
  show GG X room_1 cL_law 4 wsL_law RL false true Z Φ 137 3683 k n (u9 ++ u10) [(0, .ref b), (1, .ref b9), (2, .ref b10), (3, .int (nI i))] [] 354
  refine G_aload_n (q := 355) dL_law_354 rfl 1 rfl rfl ?_
  refine G_aload_n (q := 356) dL_law_355 rfl 0 rfl rfl ?_
  refine G_iload_n (q := 357) dL_law_356 rfl 3 rfl rfl ?_
  refine G_iconst (v := nI 1) (q := 358) dL_law_357 (by decide) rfl ?_
  refine G_iaddN (a := i) (b := 1) (q := 359) dL_law_358 rfl ?_
  refine G_sld (j := i + 1) hX (by omega) hL (q := 360) dL_law_359 rfl ?_
  refine G_aload_n (q := 361) dL_law_360 rfl 0 rfl rfl ?_
  refine G_iload_n (q := 362) dL_law_361 rfl 3 rfl rfl ?_
  refine G_iconst (v := nI 2) (q := 363) dL_law_362 (by decide) rfl ?_
  refine G_iaddN (a := i) (b := 2) (q := 364) dL_law_363 rfl ?_
  refine G_sld (j := i + 2) hX (by omega) hL (q := 365) dL_law_364 rfl ?_
  refine G_callOP (as := [.int (xs (i + 1)), .int (xs (i + 2))]) (rest := []) (q := 368) dL_law_365 o9 cs_X9_say gL_law_X9_say rfl (by decide) ⟨Nat.le_of_ble_eq_true rfl, Nat.le_of_ble_eq_true rfl⟩ r9 (show vwCl[9]? = some (RX9, TX9, 10) from rfl) rfl rfl (Nat.le_of_ble_eq_true rfl) hroom rfl (fun v9 p9 => ?_)
  refine GG.perm (ws2 := u10 ++ v9) List.perm_append_comm ?_
  refine G_aload_n (q := 369) dL_law_368 rfl 2 rfl rfl ?_
  refine G_aload_n (q := 370) dL_law_369 rfl 0 rfl rfl ?_
  refine G_iload_n (q := 371) dL_law_370 rfl 3 rfl rfl ?_
  refine G_iconst (v := nI 1) (q := 372) dL_law_371 (by decide) rfl ?_
  refine G_iaddN (a := i) (b := 1) (q := 373) dL_law_372 rfl ?_
  refine G_sld (j := i + 1) hX (by omega) hL (q := 374) dL_law_373 rfl ?_
  refine G_aload_n (q := 375) dL_law_374 rfl 0 rfl rfl ?_
  refine G_iload_n (q := 376) dL_law_375 rfl 3 rfl rfl ?_
  refine G_iconst (v := nI 2) (q := 377) dL_law_376 (by decide) rfl ?_
  refine G_iaddN (a := i) (b := 2) (q := 378) dL_law_377 rfl ?_
  refine G_sld (j := i + 2) hX (by omega) hL (q := 379) dL_law_378 rfl ?_
  refine G_callOP (as := [.int (xs (i + 1)), .int (xs (i + 2))]) (rest := [.int ti]) (q := 382) dL_law_379 o10 cs_X10_say gL_law_X10_say rfl (by decide) ⟨Nat.le_of_ble_eq_true rfl, Nat.le_of_ble_eq_true rfl⟩ r10 (show vwCl[10]? = some (RX10, TX10, 25) from rfl) rfl rfl (Nat.le_of_ble_eq_true rfl) hroom rfl (fun v10 p10 => ?_)
  refine GG.perm (ws2 := v9 ++ v10) List.perm_append_comm ?_
  refine G_icmp_eqT (tgt := 815) dL_law_382 (by decide) rfl ?_
  exact next v9 v10 (hn v9 v10 p9 p10)
set_option maxHeartbeats 1000000 in
theorem law_b387 {X : GX} {Z : Nat → ClassId} {Φ : Option Value → va_W → Prop} {k n b b9 b10 L i : Nat} {xs : Nat → Int32} {u9 u10 : va_W} (hX : XS X b L xs) (hi : i + 4 ≤ L) (hL : L ≤ 256) (hI : INV Z b9 b10 u9 u10) (hroom : k ≤ 600000 ∧ n ≤ 7302250) (next : ∀ v9 v10, INV Z b9 b10 v9 v10 → LG X Z Φ k n (v9 ++ v10) (LV b b9 b10 i) [] 815) : LG X Z Φ k n (u9 ++ u10) (LV b b9 b10 i) [] 387 := by
  obtain ⟨t, P9, P10, ⟨ti, rfl⟩, o9, o10, hn⟩ := op_noon Z  b9 b10 u9 u10 hI
  obtain ⟨r9, r10⟩ := INV_rec hI
  show GG X room_1 cL_law 4 wsL_law RL false true Z Φ 137 3683 k n (u9 ++ u10) [(0, .ref b), (1, .ref b9), (2, .ref b10), (3, .int (nI i))] [] 387
  refine G_aload_n (q := 388) dL_law_387 rfl 1 rfl rfl ?_
  refine G_callOP (as := []) (rest := []) (q := 391) dL_law_388 o9 cs_X9_noon gL_law_X9_noon rfl (by decide) ⟨Nat.le_of_ble_eq_true rfl, Nat.le_of_ble_eq_true rfl⟩ r9 (show vwCl[9]? = some (RX9, TX9, 10) from rfl) rfl rfl (Nat.le_of_ble_eq_true rfl) hroom rfl (fun v9 p9 => ?_)
  refine GG.perm (ws2 := u10 ++ v9) List.perm_append_comm ?_
  refine G_aload_n (q := 392) dL_law_391 rfl 2 rfl rfl ?_
  refine G_callOP (as := []) (rest := [.int ti]) (q := 395) dL_law_392 o10 cs_X10_noon gL_law_X10_noon rfl (by decide) ⟨Nat.le_of_ble_eq_true rfl, Nat.le_of_ble_eq_true rfl⟩ r10 (show vwCl[10]? = some (RX10, TX10, 25) from rfl) rfl rfl (Nat.le_of_ble_eq_true rfl) hroom rfl (fun v10 p10 => ?_)
  refine GG.perm (ws2 := v9 ++ v10) List.perm_append_comm ?_
  refine G_icmp_eqT (tgt := 815) dL_law_395 (by decide) rfl ?_
  exact next v9 v10 (hn v9 v10 p9 p10)
set_option maxHeartbeats 1000000 in
theorem law_b400 {X : GX} {Z : Nat → ClassId} {Φ : Option Value → va_W → Prop} {k n b b9 b10 L i : Nat} {xs : Nat → Int32} {u9 u10 : va_W} (hX : XS X b L xs) (hi : i + 4 ≤ L) (hL : L ≤ 256) (hI : INV Z b9 b10 u9 u10) (hroom : k ≤ 600000 ∧ n ≤ 7302250) (next : ∀ v9 v10, INV Z b9 b10 v9 v10 → LG X Z Φ k n (v9 ++ v10) (LV b b9 b10 i) [] 815) : LG X Z Φ k n (u9 ++ u10) (LV b b9 b10 i) [] 400 := by
  obtain ⟨t, P9, P10, ⟨ti, rfl⟩, o9, o10, hn⟩ := op_mend Z (xs (i + 1)) b9 b10 u9 u10 hI
  obtain ⟨r9, r10⟩ := INV_rec hI
  show GG X room_1 cL_law 4 wsL_law RL false true Z Φ 137 3683 k n (u9 ++ u10) [(0, .ref b), (1, .ref b9), (2, .ref b10), (3, .int (nI i))] [] 400
  refine G_aload_n (q := 401) dL_law_400 rfl 1 rfl rfl ?_
  refine G_aload_n (q := 402) dL_law_401 rfl 0 rfl rfl ?_
  refine G_iload_n (q := 403) dL_law_402 rfl 3 rfl rfl ?_
  refine G_iconst (v := nI 1) (q := 404) dL_law_403 (by decide) rfl ?_
  refine G_iaddN (a := i) (b := 1) (q := 405) dL_law_404 rfl ?_
  refine G_sld (j := i + 1) hX (by omega) hL (q := 406) dL_law_405 rfl ?_
  refine G_callOP (as := [.int (xs (i + 1))]) (rest := []) (q := 409) dL_law_406 o9 cs_X9_mend gL_law_X9_mend rfl (by decide) ⟨Nat.le_of_ble_eq_true rfl, Nat.le_of_ble_eq_true rfl⟩ r9 (show vwCl[9]? = some (RX9, TX9, 10) from rfl) rfl rfl (Nat.le_of_ble_eq_true rfl) hroom rfl (fun v9 p9 => ?_)
  refine GG.perm (ws2 := u10 ++ v9) List.perm_append_comm ?_
  refine G_aload_n (q := 410) dL_law_409 rfl 2 rfl rfl ?_
  refine G_aload_n (q := 411) dL_law_410 rfl 0 rfl rfl ?_
  refine G_iload_n (q := 412) dL_law_411 rfl 3 rfl rfl ?_
  refine G_iconst (v := nI 1) (q := 413) dL_law_412 (by decide) rfl ?_
  refine G_iaddN (a := i) (b := 1) (q := 414) dL_law_413 rfl ?_
  refine G_sld (j := i + 1) hX (by omega) hL (q := 415) dL_law_414 rfl ?_
  refine G_callOP (as := [.int (xs (i + 1))]) (rest := [.int ti]) (q := 418) dL_law_415 o10 cs_X10_mend gL_law_X10_mend rfl (by decide) ⟨Nat.le_of_ble_eq_true rfl, Nat.le_of_ble_eq_true rfl⟩ r10 (show vwCl[10]? = some (RX10, TX10, 25) from rfl) rfl rfl (Nat.le_of_ble_eq_true rfl) hroom rfl (fun v10 p10 => ?_)
  refine GG.perm (ws2 := v9 ++ v10) List.perm_append_comm ?_
  refine G_icmp_eqT (tgt := 815) dL_law_418 (by decide) rfl ?_
  exact next v9 v10 (hn v9 v10 p9 p10)
set_option maxHeartbeats 1000000 in
theorem law_b423 {X : GX} {Z : Nat → ClassId} {Φ : Option Value → va_W → Prop} {k n b b9 b10 L i : Nat} {xs : Nat → Int32} {u9 u10 : va_W} (hX : XS X b L xs) (hi : i + 4 ≤ L) (hL : L ≤ 256) (hI : INV Z b9 b10 u9 u10) (hroom : k ≤ 600000 ∧ n ≤ 7302250) (next : ∀ v9 v10, INV Z b9 b10 v9 v10 → LG X Z Φ k n (v9 ++ v10) (LV b b9 b10 i) [] 815) : LG X Z Φ k n (u9 ++ u10) (LV b b9 b10 i) [] 423 := by
  obtain ⟨t, P9, P10, ⟨ti, rfl⟩, o9, o10, hn⟩ := op_undo Z  b9 b10 u9 u10 hI
  obtain ⟨r9, r10⟩ := INV_rec hI
  show GG X room_1 cL_law 4 wsL_law RL false true Z Φ 137 3683 k n (u9 ++ u10) [(0, .ref b), (1, .ref b9), (2, .ref b10), (3, .int (nI i))] [] 423
  refine G_aload_n (q := 424) dL_law_423 rfl 1 rfl rfl ?_
  refine G_callOP (as := []) (rest := []) (q := 427) dL_law_424 o9 cs_X9_undo gL_law_X9_undo rfl (by decide) ⟨Nat.le_of_ble_eq_true rfl, Nat.le_of_ble_eq_true rfl⟩ r9 (show vwCl[9]? = some (RX9, TX9, 10) from rfl) rfl rfl (Nat.le_of_ble_eq_true rfl) hroom rfl (fun v9 p9 => ?_)
  refine GG.perm (ws2 := u10 ++ v9) List.perm_append_comm ?_
  refine G_aload_n (q := 428) dL_law_427 rfl 2 rfl rfl ?_
  refine G_callOP (as := []) (rest := [.int ti]) (q := 431) dL_law_428 o10 cs_X10_undo gL_law_X10_undo rfl (by decide) ⟨Nat.le_of_ble_eq_true rfl, Nat.le_of_ble_eq_true rfl⟩ r10 (show vwCl[10]? = some (RX10, TX10, 25) from rfl) rfl rfl (Nat.le_of_ble_eq_true rfl) hroom rfl (fun v10 p10 => ?_)
  refine GG.perm (ws2 := v9 ++ v10) List.perm_append_comm ?_
  refine G_icmp_eqT (tgt := 815) dL_law_431 (by decide) rfl ?_
  exact next v9 v10 (hn v9 v10 p9 p10)
set_option maxHeartbeats 1000000 in
theorem law_b436 {X : GX} {Z : Nat → ClassId} {Φ : Option Value → va_W → Prop} {k n b b9 b10 L i : Nat} {xs : Nat → Int32} {u9 u10 : va_W} (hX : XS X b L xs) (hi : i + 4 ≤ L) (hL : L ≤ 256) (hI : INV Z b9 b10 u9 u10) (hroom : k ≤ 600000 ∧ n ≤ 7302250) (next : ∀ v9 v10, INV Z b9 b10 v9 v10 → LG X Z Φ k n (v9 ++ v10) (LV b b9 b10 i) [] 815) : LG X Z Φ k n (u9 ++ u10) (LV b b9 b10 i) [] 436 := by
  obtain ⟨t, P9, P10, ⟨ti, rfl⟩, o9, o10, hn⟩ := op_heir Z (xs (i + 1)) b9 b10 u9 u10 hI
  obtain ⟨r9, r10⟩ := INV_rec hI
  show GG X room_1 cL_law 4 wsL_law RL false true Z Φ 137 3683 k n (u9 ++ u10) [(0, .ref b), (1, .ref b9), (2, .ref b10), (3, .int (nI i))] [] 436
  refine G_aload_n (q := 437) dL_law_436 rfl 1 rfl rfl ?_
  refine G_aload_n (q := 438) dL_law_437 rfl 0 rfl rfl ?_
  refine G_iload_n (q := 439) dL_law_438 rfl 3 rfl rfl ?_
  refine G_iconst (v := nI 1) (q := 440) dL_law_439 (by decide) rfl ?_
  refine G_iaddN (a := i) (b := 1) (q := 441) dL_law_440 rfl ?_
  refine G_sld (j := i + 1) hX (by omega) hL (q := 442) dL_law_441 rfl ?_
  refine G_callOP (as := [.int (xs (i + 1))]) (rest := []) (q := 445) dL_law_442 o9 cs_X9_heir gL_law_X9_heir rfl (by decide) ⟨Nat.le_of_ble_eq_true rfl, Nat.le_of_ble_eq_true rfl⟩ r9 (show vwCl[9]? = some (RX9, TX9, 10) from rfl) rfl rfl (Nat.le_of_ble_eq_true rfl) hroom rfl (fun v9 p9 => ?_)
  refine GG.perm (ws2 := u10 ++ v9) List.perm_append_comm ?_
  refine G_aload_n (q := 446) dL_law_445 rfl 2 rfl rfl ?_
  refine G_aload_n (q := 447) dL_law_446 rfl 0 rfl rfl ?_
  refine G_iload_n (q := 448) dL_law_447 rfl 3 rfl rfl ?_
  refine G_iconst (v := nI 1) (q := 449) dL_law_448 (by decide) rfl ?_
  refine G_iaddN (a := i) (b := 1) (q := 450) dL_law_449 rfl ?_
  refine G_sld (j := i + 1) hX (by omega) hL (q := 451) dL_law_450 rfl ?_
  refine G_callOP (as := [.int (xs (i + 1))]) (rest := [.int ti]) (q := 454) dL_law_451 o10 cs_X10_heir gL_law_X10_heir rfl (by decide) ⟨Nat.le_of_ble_eq_true rfl, Nat.le_of_ble_eq_true rfl⟩ r10 (show vwCl[10]? = some (RX10, TX10, 25) from rfl) rfl rfl (Nat.le_of_ble_eq_true rfl) hroom rfl (fun v10 p10 => ?_)
  refine GG.perm (ws2 := v9 ++ v10) List.perm_append_comm ?_
  refine G_icmp_eqT (tgt := 815) dL_law_454 (by decide) rfl ?_
  exact next v9 v10 (hn v9 v10 p9 p10)
set_option maxHeartbeats 1000000 in
theorem law_b459 {X : GX} {Z : Nat → ClassId} {Φ : Option Value → va_W → Prop} {k n b b9 b10 L i : Nat} {xs : Nat → Int32} {u9 u10 : va_W} (hX : XS X b L xs) (hi : i + 4 ≤ L) (hL : L ≤ 256) (hI : INV Z b9 b10 u9 u10) (hroom : k ≤ 600000 ∧ n ≤ 7302250) (next : ∀ v9 v10, INV Z b9 b10 v9 v10 → LG X Z Φ k n (v9 ++ v10) (LV b b9 b10 i) [] 815) : LG X Z Φ k n (u9 ++ u10) (LV b b9 b10 i) [] 459 := by
  obtain ⟨t, P9, P10, ⟨ti, rfl⟩, o9, o10, hn⟩ := op_among Z  b9 b10 u9 u10 hI
  obtain ⟨r9, r10⟩ := INV_rec hI
  show GG X room_1 cL_law 4 wsL_law RL false true Z Φ 137 3683 k n (u9 ++ u10) [(0, .ref b), (1, .ref b9), (2, .ref b10), (3, .int (nI i))] [] 459
  refine G_aload_n (q := 460) dL_law_459 rfl 1 rfl rfl ?_
  refine G_callOP (as := []) (rest := []) (q := 463) dL_law_460 o9 cs_X9_among gL_law_X9_among rfl (by decide) ⟨Nat.le_of_ble_eq_true rfl, Nat.le_of_ble_eq_true rfl⟩ r9 (show vwCl[9]? = some (RX9, TX9, 10) from rfl) rfl rfl (Nat.le_of_ble_eq_true rfl) hroom rfl (fun v9 p9 => ?_)
  refine GG.perm (ws2 := u10 ++ v9) List.perm_append_comm ?_
  refine G_aload_n (q := 464) dL_law_463 rfl 2 rfl rfl ?_
  refine G_callOP (as := []) (rest := [.int ti]) (q := 467) dL_law_464 o10 cs_X10_among gL_law_X10_among rfl (by decide) ⟨Nat.le_of_ble_eq_true rfl, Nat.le_of_ble_eq_true rfl⟩ r10 (show vwCl[10]? = some (RX10, TX10, 25) from rfl) rfl rfl (Nat.le_of_ble_eq_true rfl) hroom rfl (fun v10 p10 => ?_)
  refine GG.perm (ws2 := v9 ++ v10) List.perm_append_comm ?_
  refine G_icmp_eqT (tgt := 815) dL_law_467 (by decide) rfl ?_
  exact next v9 v10 (hn v9 v10 p9 p10)
set_option maxHeartbeats 1000000 in
theorem law_b472 {X : GX} {Z : Nat → ClassId} {Φ : Option Value → va_W → Prop} {k n b b9 b10 L i : Nat} {xs : Nat → Int32} {u9 u10 : va_W} (hX : XS X b L xs) (hi : i + 4 ≤ L) (hL : L ≤ 256) (hI : INV Z b9 b10 u9 u10) (hroom : k ≤ 600000 ∧ n ≤ 7302250) (next : ∀ v9 v10, INV Z b9 b10 v9 v10 → LG X Z Φ k n (v9 ++ v10) (LV b b9 b10 i) [] 815) : LG X Z Φ k n (u9 ++ u10) (LV b b9 b10 i) [] 472 := by
  obtain ⟨t, P9, P10, ⟨ti, rfl⟩, o9, o10, hn⟩ := op_thinks Z (xs (i + 1)) b9 b10 u9 u10 hI
  obtain ⟨r9, r10⟩ := INV_rec hI
  show GG X room_1 cL_law 4 wsL_law RL false true Z Φ 137 3683 k n (u9 ++ u10) [(0, .ref b), (1, .ref b9), (2, .ref b10), (3, .int (nI i))] [] 472
  refine G_aload_n (q := 473) dL_law_472 rfl 1 rfl rfl ?_
  refine G_aload_n (q := 474) dL_law_473 rfl 0 rfl rfl ?_
  refine G_iload_n (q := 475) dL_law_474 rfl 3 rfl rfl ?_
  refine G_iconst (v := nI 1) (q := 476) dL_law_475 (by decide) rfl ?_
  refine G_iaddN (a := i) (b := 1) (q := 477) dL_law_476 rfl ?_
  refine G_sld (j := i + 1) hX (by omega) hL (q := 478) dL_law_477 rfl ?_
  refine G_callOP (as := [.int (xs (i + 1))]) (rest := []) (q := 481) dL_law_478 o9 cs_X9_thinks gL_law_X9_thinks rfl (by decide) ⟨Nat.le_of_ble_eq_true rfl, Nat.le_of_ble_eq_true rfl⟩ r9 (show vwCl[9]? = some (RX9, TX9, 10) from rfl) rfl rfl (Nat.le_of_ble_eq_true rfl) hroom rfl (fun v9 p9 => ?_)
  refine GG.perm (ws2 := u10 ++ v9) List.perm_append_comm ?_
  refine G_aload_n (q := 482) dL_law_481 rfl 2 rfl rfl ?_
  refine G_aload_n (q := 483) dL_law_482 rfl 0 rfl rfl ?_
  refine G_iload_n (q := 484) dL_law_483 rfl 3 rfl rfl ?_
  refine G_iconst (v := nI 1) (q := 485) dL_law_484 (by decide) rfl ?_
  refine G_iaddN (a := i) (b := 1) (q := 486) dL_law_485 rfl ?_
  refine G_sld (j := i + 1) hX (by omega) hL (q := 487) dL_law_486 rfl ?_
  refine G_callOP (as := [.int (xs (i + 1))]) (rest := [.int ti]) (q := 490) dL_law_487 o10 cs_X10_thinks gL_law_X10_thinks rfl (by decide) ⟨Nat.le_of_ble_eq_true rfl, Nat.le_of_ble_eq_true rfl⟩ r10 (show vwCl[10]? = some (RX10, TX10, 25) from rfl) rfl rfl (Nat.le_of_ble_eq_true rfl) hroom rfl (fun v10 p10 => ?_)
  refine GG.perm (ws2 := v9 ++ v10) List.perm_append_comm ?_
  refine G_icmp_eqT (tgt := 815) dL_law_490 (by decide) rfl ?_
  exact next v9 v10 (hn v9 v10 p9 p10)
set_option maxHeartbeats 1000000 in
theorem law_b495 {X : GX} {Z : Nat → ClassId} {Φ : Option Value → va_W → Prop} {k n b b9 b10 L i : Nat} {xs : Nat → Int32} {u9 u10 : va_W} (hX : XS X b L xs) (hi : i + 4 ≤ L) (hL : L ≤ 256) (hI : INV Z b9 b10 u9 u10) (hroom : k ≤ 600000 ∧ n ≤ 7302250) (next : ∀ v9 v10, INV Z b9 b10 v9 v10 → LG X Z Φ k n (v9 ++ v10) (LV b b9 b10 i) [] 815) : LG X Z Φ k n (u9 ++ u10) (LV b b9 b10 i) [] 495 := by
  obtain ⟨t, P9, P10, ⟨ti, rfl⟩, o9, o10, hn⟩ := op_make Z (xs (i + 1)) b9 b10 u9 u10 hI
  obtain ⟨r9, r10⟩ := INV_rec hI
  show GG X room_1 cL_law 4 wsL_law RL false true Z Φ 137 3683 k n (u9 ++ u10) [(0, .ref b), (1, .ref b9), (2, .ref b10), (3, .int (nI i))] [] 495
  refine G_aload_n (q := 496) dL_law_495 rfl 1 rfl rfl ?_
  refine G_aload_n (q := 497) dL_law_496 rfl 0 rfl rfl ?_
  refine G_iload_n (q := 498) dL_law_497 rfl 3 rfl rfl ?_
  refine G_iconst (v := nI 1) (q := 499) dL_law_498 (by decide) rfl ?_
  refine G_iaddN (a := i) (b := 1) (q := 500) dL_law_499 rfl ?_
  refine G_sld (j := i + 1) hX (by omega) hL (q := 501) dL_law_500 rfl ?_
  refine G_callOP (as := [.int (xs (i + 1))]) (rest := []) (q := 504) dL_law_501 o9 cs_X9_make gL_law_X9_make rfl (by decide) ⟨Nat.le_of_ble_eq_true rfl, Nat.le_of_ble_eq_true rfl⟩ r9 (show vwCl[9]? = some (RX9, TX9, 10) from rfl) rfl rfl (Nat.le_of_ble_eq_true rfl) hroom rfl (fun v9 p9 => ?_)
  refine GG.perm (ws2 := u10 ++ v9) List.perm_append_comm ?_
  refine G_aload_n (q := 505) dL_law_504 rfl 2 rfl rfl ?_
  refine G_aload_n (q := 506) dL_law_505 rfl 0 rfl rfl ?_
  refine G_iload_n (q := 507) dL_law_506 rfl 3 rfl rfl ?_
  refine G_iconst (v := nI 1) (q := 508) dL_law_507 (by decide) rfl ?_
  refine G_iaddN (a := i) (b := 1) (q := 509) dL_law_508 rfl ?_
  refine G_sld (j := i + 1) hX (by omega) hL (q := 510) dL_law_509 rfl ?_
  refine G_callOP (as := [.int (xs (i + 1))]) (rest := [.int ti]) (q := 513) dL_law_510 o10 cs_X10_make gL_law_X10_make rfl (by decide) ⟨Nat.le_of_ble_eq_true rfl, Nat.le_of_ble_eq_true rfl⟩ r10 (show vwCl[10]? = some (RX10, TX10, 25) from rfl) rfl rfl (Nat.le_of_ble_eq_true rfl) hroom rfl (fun v10 p10 => ?_)
  refine GG.perm (ws2 := v9 ++ v10) List.perm_append_comm ?_
  refine G_icmp_eqT (tgt := 815) dL_law_513 (by decide) rfl ?_
  exact next v9 v10 (hn v9 v10 p9 p10)
set_option maxHeartbeats 1000000 in
theorem law_b518 {X : GX} {Z : Nat → ClassId} {Φ : Option Value → va_W → Prop} {k n b b9 b10 L i : Nat} {xs : Nat → Int32} {u9 u10 : va_W} (hX : XS X b L xs) (hi : i + 4 ≤ L) (hL : L ≤ 256) (hI : INV Z b9 b10 u9 u10) (hroom : k ≤ 600000 ∧ n ≤ 7302250) (next : ∀ v9 v10, INV Z b9 b10 v9 v10 → LG X Z Φ k n (v9 ++ v10) (LV b b9 b10 i) [] 815) : LG X Z Φ k n (u9 ++ u10) (LV b b9 b10 i) [] 518 := by
  obtain ⟨t, P9, P10, ⟨ti, rfl⟩, o9, o10, hn⟩ := op_byTurns Z (xs (i + 1)) (xs (i + 2)) b9 b10 u9 u10 hI
  obtain ⟨r9, r10⟩ := INV_rec hI
  show GG X room_1 cL_law 4 wsL_law RL false true Z Φ 137 3683 k n (u9 ++ u10) [(0, .ref b), (1, .ref b9), (2, .ref b10), (3, .int (nI i))] [] 518
  refine G_aload_n (q := 519) dL_law_518 rfl 1 rfl rfl ?_
  refine G_aload_n (q := 520) dL_law_519 rfl 0 rfl rfl ?_
  refine G_iload_n (q := 521) dL_law_520 rfl 3 rfl rfl ?_
  refine G_iconst (v := nI 1) (q := 522) dL_law_521 (by decide) rfl ?_
  refine G_iaddN (a := i) (b := 1) (q := 523) dL_law_522 rfl ?_
  refine G_sld (j := i + 1) hX (by omega) hL (q := 524) dL_law_523 rfl ?_
  refine G_aload_n (q := 525) dL_law_524 rfl 0 rfl rfl ?_
  refine G_iload_n (q := 526) dL_law_525 rfl 3 rfl rfl ?_
  refine G_iconst (v := nI 2) (q := 527) dL_law_526 (by decide) rfl ?_
  refine G_iaddN (a := i) (b := 2) (q := 528) dL_law_527 rfl ?_
  refine G_sld (j := i + 2) hX (by omega) hL (q := 529) dL_law_528 rfl ?_
  refine G_callOP (as := [.int (xs (i + 1)), .int (xs (i + 2))]) (rest := []) (q := 532) dL_law_529 o9 cs_X9_byTurns gL_law_X9_byTurns rfl (by decide) ⟨Nat.le_of_ble_eq_true rfl, Nat.le_of_ble_eq_true rfl⟩ r9 (show vwCl[9]? = some (RX9, TX9, 10) from rfl) rfl rfl (Nat.le_of_ble_eq_true rfl) hroom rfl (fun v9 p9 => ?_)
  refine GG.perm (ws2 := u10 ++ v9) List.perm_append_comm ?_
  refine G_aload_n (q := 533) dL_law_532 rfl 2 rfl rfl ?_
  refine G_aload_n (q := 534) dL_law_533 rfl 0 rfl rfl ?_
  refine G_iload_n (q := 535) dL_law_534 rfl 3 rfl rfl ?_
  refine G_iconst (v := nI 1) (q := 536) dL_law_535 (by decide) rfl ?_
  refine G_iaddN (a := i) (b := 1) (q := 537) dL_law_536 rfl ?_
  refine G_sld (j := i + 1) hX (by omega) hL (q := 538) dL_law_537 rfl ?_
  refine G_aload_n (q := 539) dL_law_538 rfl 0 rfl rfl ?_
  refine G_iload_n (q := 540) dL_law_539 rfl 3 rfl rfl ?_
  refine G_iconst (v := nI 2) (q := 541) dL_law_540 (by decide) rfl ?_
  refine G_iaddN (a := i) (b := 2) (q := 542) dL_law_541 rfl ?_
  refine G_sld (j := i + 2) hX (by omega) hL (q := 543) dL_law_542 rfl ?_
  refine G_callOP (as := [.int (xs (i + 1)), .int (xs (i + 2))]) (rest := [.int ti]) (q := 546) dL_law_543 o10 cs_X10_byTurns gL_law_X10_byTurns rfl (by decide) ⟨Nat.le_of_ble_eq_true rfl, Nat.le_of_ble_eq_true rfl⟩ r10 (show vwCl[10]? = some (RX10, TX10, 25) from rfl) rfl rfl (Nat.le_of_ble_eq_true rfl) hroom rfl (fun v10 p10 => ?_)
  refine GG.perm (ws2 := v9 ++ v10) List.perm_append_comm ?_
  refine G_icmp_eqT (tgt := 815) dL_law_546 (by decide) rfl ?_
  exact next v9 v10 (hn v9 v10 p9 p10)
set_option maxHeartbeats 1000000 in
theorem law_b551 {X : GX} {Z : Nat → ClassId} {Φ : Option Value → va_W → Prop} {k n b b9 b10 L i : Nat} {xs : Nat → Int32} {u9 u10 : va_W} (hX : XS X b L xs) (hi : i + 4 ≤ L) (hL : L ≤ 256) (hI : INV Z b9 b10 u9 u10) (hroom : k ≤ 600000 ∧ n ≤ 7302250) (next : ∀ v9 v10, INV Z b9 b10 v9 v10 → LG X Z Φ k n (v9 ++ v10) (LV b b9 b10 i) [] 815) : LG X Z Φ k n (u9 ++ u10) (LV b b9 b10 i) [] 551 := by
  obtain ⟨t, P9, P10, ⟨ti, rfl⟩, o9, o10, hn⟩ := op_took Z (xs (i + 1)) (xs (i + 2)) b9 b10 u9 u10 hI
  obtain ⟨r9, r10⟩ := INV_rec hI
  show GG X room_1 cL_law 4 wsL_law RL false true Z Φ 137 3683 k n (u9 ++ u10) [(0, .ref b), (1, .ref b9), (2, .ref b10), (3, .int (nI i))] [] 551
  refine G_aload_n (q := 552) dL_law_551 rfl 1 rfl rfl ?_
  refine G_aload_n (q := 553) dL_law_552 rfl 0 rfl rfl ?_
  refine G_iload_n (q := 554) dL_law_553 rfl 3 rfl rfl ?_
  refine G_iconst (v := nI 1) (q := 555) dL_law_554 (by decide) rfl ?_
  refine G_iaddN (a := i) (b := 1) (q := 556) dL_law_555 rfl ?_
  refine G_sld (j := i + 1) hX (by omega) hL (q := 557) dL_law_556 rfl ?_
  refine G_aload_n (q := 558) dL_law_557 rfl 0 rfl rfl ?_
  refine G_iload_n (q := 559) dL_law_558 rfl 3 rfl rfl ?_
  refine G_iconst (v := nI 2) (q := 560) dL_law_559 (by decide) rfl ?_
  refine G_iaddN (a := i) (b := 2) (q := 561) dL_law_560 rfl ?_
  refine G_sld (j := i + 2) hX (by omega) hL (q := 562) dL_law_561 rfl ?_
  refine G_callOP (as := [.int (xs (i + 1)), .int (xs (i + 2))]) (rest := []) (q := 565) dL_law_562 o9 cs_X9_took gL_law_X9_took rfl (by decide) ⟨Nat.le_of_ble_eq_true rfl, Nat.le_of_ble_eq_true rfl⟩ r9 (show vwCl[9]? = some (RX9, TX9, 10) from rfl) rfl rfl (Nat.le_of_ble_eq_true rfl) hroom rfl (fun v9 p9 => ?_)
  refine GG.perm (ws2 := u10 ++ v9) List.perm_append_comm ?_
  refine G_aload_n (q := 566) dL_law_565 rfl 2 rfl rfl ?_
  refine G_aload_n (q := 567) dL_law_566 rfl 0 rfl rfl ?_
  refine G_iload_n (q := 568) dL_law_567 rfl 3 rfl rfl ?_
  refine G_iconst (v := nI 1) (q := 569) dL_law_568 (by decide) rfl ?_
  refine G_iaddN (a := i) (b := 1) (q := 570) dL_law_569 rfl ?_
  refine G_sld (j := i + 1) hX (by omega) hL (q := 571) dL_law_570 rfl ?_
  refine G_aload_n (q := 572) dL_law_571 rfl 0 rfl rfl ?_
  refine G_iload_n (q := 573) dL_law_572 rfl 3 rfl rfl ?_
  refine G_iconst (v := nI 2) (q := 574) dL_law_573 (by decide) rfl ?_
  refine G_iaddN (a := i) (b := 2) (q := 575) dL_law_574 rfl ?_
  refine G_sld (j := i + 2) hX (by omega) hL (q := 576) dL_law_575 rfl ?_
  refine G_callOP (as := [.int (xs (i + 1)), .int (xs (i + 2))]) (rest := [.int ti]) (q := 579) dL_law_576 o10 cs_X10_took gL_law_X10_took rfl (by decide) ⟨Nat.le_of_ble_eq_true rfl, Nat.le_of_ble_eq_true rfl⟩ r10 (show vwCl[10]? = some (RX10, TX10, 25) from rfl) rfl rfl (Nat.le_of_ble_eq_true rfl) hroom rfl (fun v10 p10 => ?_)
  refine GG.perm (ws2 := v9 ++ v10) List.perm_append_comm ?_
  refine G_icmp_eqT (tgt := 815) dL_law_579 (by decide) rfl ?_
  exact next v9 v10 (hn v9 v10 p9 p10)
set_option maxHeartbeats 1000000 in
theorem law_b584 {X : GX} {Z : Nat → ClassId} {Φ : Option Value → va_W → Prop} {k n b b9 b10 L i : Nat} {xs : Nat → Int32} {u9 u10 : va_W} (hX : XS X b L xs) (hi : i + 4 ≤ L) (hL : L ≤ 256) (hI : INV Z b9 b10 u9 u10) (hroom : k ≤ 600000 ∧ n ≤ 7302250) (next : ∀ v9 v10, INV Z b9 b10 v9 v10 → LG X Z Φ k n (v9 ++ v10) (LV b b9 b10 i) [] 815) : LG X Z Φ k n (u9 ++ u10) (LV b b9 b10 i) [] 584 := by
  obtain ⟨t, P9, P10, ⟨ti, rfl⟩, o9, o10, hn⟩ := op_forget Z  b9 b10 u9 u10 hI
  obtain ⟨r9, r10⟩ := INV_rec hI
  show GG X room_1 cL_law 4 wsL_law RL false true Z Φ 137 3683 k n (u9 ++ u10) [(0, .ref b), (1, .ref b9), (2, .ref b10), (3, .int (nI i))] [] 584
  refine G_aload_n (q := 585) dL_law_584 rfl 1 rfl rfl ?_
  refine G_callOP (as := []) (rest := []) (q := 588) dL_law_585 o9 cs_X9_forget gL_law_X9_forget rfl (by decide) ⟨Nat.le_of_ble_eq_true rfl, Nat.le_of_ble_eq_true rfl⟩ r9 (show vwCl[9]? = some (RX9, TX9, 10) from rfl) rfl rfl (Nat.le_of_ble_eq_true rfl) hroom rfl (fun v9 p9 => ?_)
  refine GG.perm (ws2 := u10 ++ v9) List.perm_append_comm ?_
  refine G_aload_n (q := 589) dL_law_588 rfl 2 rfl rfl ?_
  refine G_callOP (as := []) (rest := [.int ti]) (q := 592) dL_law_589 o10 cs_X10_forget gL_law_X10_forget rfl (by decide) ⟨Nat.le_of_ble_eq_true rfl, Nat.le_of_ble_eq_true rfl⟩ r10 (show vwCl[10]? = some (RX10, TX10, 25) from rfl) rfl rfl (Nat.le_of_ble_eq_true rfl) hroom rfl (fun v10 p10 => ?_)
  refine GG.perm (ws2 := v9 ++ v10) List.perm_append_comm ?_
  refine G_icmp_eqT (tgt := 815) dL_law_592 (by decide) rfl ?_
  exact next v9 v10 (hn v9 v10 p9 p10)
set_option maxHeartbeats 1000000 in
theorem law_b597 {X : GX} {Z : Nat → ClassId} {Φ : Option Value → va_W → Prop} {k n b b9 b10 L i : Nat} {xs : Nat → Int32} {u9 u10 : va_W} (hX : XS X b L xs) (hi : i + 4 ≤ L) (hL : L ≤ 256) (hI : INV Z b9 b10 u9 u10) (hroom : k ≤ 600000 ∧ n ≤ 7302250) (next : ∀ v9 v10, INV Z b9 b10 v9 v10 → LG X Z Φ k n (v9 ++ v10) (LV b b9 b10 i) [] 815) : LG X Z Φ k n (u9 ++ u10) (LV b b9 b10 i) [] 597 := by
  obtain ⟨t, P9, P10, ⟨ti, rfl⟩, o9, o10, hn⟩ := op_deeds Z (xs (i + 1)) b9 b10 u9 u10 hI
  obtain ⟨r9, r10⟩ := INV_rec hI
  show GG X room_1 cL_law 4 wsL_law RL false true Z Φ 137 3683 k n (u9 ++ u10) [(0, .ref b), (1, .ref b9), (2, .ref b10), (3, .int (nI i))] [] 597
  refine G_aload_n (q := 598) dL_law_597 rfl 1 rfl rfl ?_
  refine G_aload_n (q := 599) dL_law_598 rfl 0 rfl rfl ?_
  refine G_iload_n (q := 600) dL_law_599 rfl 3 rfl rfl ?_
  refine G_iconst (v := nI 1) (q := 601) dL_law_600 (by decide) rfl ?_
  refine G_iaddN (a := i) (b := 1) (q := 602) dL_law_601 rfl ?_
  refine G_sld (j := i + 1) hX (by omega) hL (q := 603) dL_law_602 rfl ?_
  refine G_callOP (as := [.int (xs (i + 1))]) (rest := []) (q := 606) dL_law_603 o9 cs_X9_deeds gL_law_X9_deeds rfl (by decide) ⟨Nat.le_of_ble_eq_true rfl, Nat.le_of_ble_eq_true rfl⟩ r9 (show vwCl[9]? = some (RX9, TX9, 10) from rfl) rfl rfl (Nat.le_of_ble_eq_true rfl) hroom rfl (fun v9 p9 => ?_)
  refine GG.perm (ws2 := u10 ++ v9) List.perm_append_comm ?_
  refine G_aload_n (q := 607) dL_law_606 rfl 2 rfl rfl ?_
  refine G_aload_n (q := 608) dL_law_607 rfl 0 rfl rfl ?_
  refine G_iload_n (q := 609) dL_law_608 rfl 3 rfl rfl ?_
  refine G_iconst (v := nI 1) (q := 610) dL_law_609 (by decide) rfl ?_
  refine G_iaddN (a := i) (b := 1) (q := 611) dL_law_610 rfl ?_
  refine G_sld (j := i + 1) hX (by omega) hL (q := 612) dL_law_611 rfl ?_
  refine G_callOP (as := [.int (xs (i + 1))]) (rest := [.int ti]) (q := 615) dL_law_612 o10 cs_X10_deeds gL_law_X10_deeds rfl (by decide) ⟨Nat.le_of_ble_eq_true rfl, Nat.le_of_ble_eq_true rfl⟩ r10 (show vwCl[10]? = some (RX10, TX10, 25) from rfl) rfl rfl (Nat.le_of_ble_eq_true rfl) hroom rfl (fun v10 p10 => ?_)
  refine GG.perm (ws2 := v9 ++ v10) List.perm_append_comm ?_
  refine G_icmp_eqT (tgt := 815) dL_law_615 (by decide) rfl ?_
  exact next v9 v10 (hn v9 v10 p9 p10)
set_option maxHeartbeats 1000000 in
theorem law_b620 {X : GX} {Z : Nat → ClassId} {Φ : Option Value → va_W → Prop} {k n b b9 b10 L i : Nat} {xs : Nat → Int32} {u9 u10 : va_W} (hX : XS X b L xs) (hi : i + 4 ≤ L) (hL : L ≤ 256) (hI : INV Z b9 b10 u9 u10) (hroom : k ≤ 600000 ∧ n ≤ 7302250) (next : ∀ v9 v10, INV Z b9 b10 v9 v10 → LG X Z Φ k n (v9 ++ v10) (LV b b9 b10 i) [] 815) : LG X Z Φ k n (u9 ++ u10) (LV b b9 b10 i) [] 620 := by
  obtain ⟨t, P9, P10, ⟨ti, rfl⟩, o9, o10, hn⟩ := op_quiet Z  b9 b10 u9 u10 hI
  obtain ⟨r9, r10⟩ := INV_rec hI
  show GG X room_1 cL_law 4 wsL_law RL false true Z Φ 137 3683 k n (u9 ++ u10) [(0, .ref b), (1, .ref b9), (2, .ref b10), (3, .int (nI i))] [] 620
  refine G_aload_n (q := 621) dL_law_620 rfl 1 rfl rfl ?_
  refine G_callOP (as := []) (rest := []) (q := 624) dL_law_621 o9 cs_X9_quiet gL_law_X9_quiet rfl (by decide) ⟨Nat.le_of_ble_eq_true rfl, Nat.le_of_ble_eq_true rfl⟩ r9 (show vwCl[9]? = some (RX9, TX9, 10) from rfl) rfl rfl (Nat.le_of_ble_eq_true rfl) hroom rfl (fun v9 p9 => ?_)
  refine GG.perm (ws2 := u10 ++ v9) List.perm_append_comm ?_
  refine G_aload_n (q := 625) dL_law_624 rfl 2 rfl rfl ?_
  refine G_callOP (as := []) (rest := [.int ti]) (q := 628) dL_law_625 o10 cs_X10_quiet gL_law_X10_quiet rfl (by decide) ⟨Nat.le_of_ble_eq_true rfl, Nat.le_of_ble_eq_true rfl⟩ r10 (show vwCl[10]? = some (RX10, TX10, 25) from rfl) rfl rfl (Nat.le_of_ble_eq_true rfl) hroom rfl (fun v10 p10 => ?_)
  refine GG.perm (ws2 := v9 ++ v10) List.perm_append_comm ?_
  refine G_icmp_eqT (tgt := 815) dL_law_628 (by decide) rfl ?_
  exact next v9 v10 (hn v9 v10 p9 p10)
set_option maxHeartbeats 1000000 in
theorem law_b633 {X : GX} {Z : Nat → ClassId} {Φ : Option Value → va_W → Prop} {k n b b9 b10 L i : Nat} {xs : Nat → Int32} {u9 u10 : va_W} (hX : XS X b L xs) (hi : i + 4 ≤ L) (hL : L ≤ 256) (hI : INV Z b9 b10 u9 u10) (hroom : k ≤ 600000 ∧ n ≤ 7302250) (next : ∀ v9 v10, INV Z b9 b10 v9 v10 → LG X Z Φ k n (v9 ++ v10) (LV b b9 b10 i) [] 815) : LG X Z Φ k n (u9 ++ u10) (LV b b9 b10 i) [] 633 := by
  obtain ⟨t, P9, P10, ⟨ti, rfl⟩, o9, o10, hn⟩ := op_cloak Z (xs (i + 1)) (xs (i + 2)) b9 b10 u9 u10 hI
  obtain ⟨r9, r10⟩ := INV_rec hI
  show GG X room_1 cL_law 4 wsL_law RL false true Z Φ 137 3683 k n (u9 ++ u10) [(0, .ref b), (1, .ref b9), (2, .ref b10), (3, .int (nI i))] [] 633
  refine G_aload_n (q := 634) dL_law_633 rfl 1 rfl rfl ?_
  refine G_aload_n (q := 635) dL_law_634 rfl 0 rfl rfl ?_
  refine G_iload_n (q := 636) dL_law_635 rfl 3 rfl rfl ?_
  refine G_iconst (v := nI 1) (q := 637) dL_law_636 (by decide) rfl ?_
  refine G_iaddN (a := i) (b := 1) (q := 638) dL_law_637 rfl ?_
  refine G_sld (j := i + 1) hX (by omega) hL (q := 639) dL_law_638 rfl ?_
  refine G_aload_n (q := 640) dL_law_639 rfl 0 rfl rfl ?_
  refine G_iload_n (q := 641) dL_law_640 rfl 3 rfl rfl ?_
  refine G_iconst (v := nI 2) (q := 642) dL_law_641 (by decide) rfl ?_
  refine G_iaddN (a := i) (b := 2) (q := 643) dL_law_642 rfl ?_
  refine G_sld (j := i + 2) hX (by omega) hL (q := 644) dL_law_643 rfl ?_
  refine G_callOP (as := [.int (xs (i + 1)), .int (xs (i + 2))]) (rest := []) (q := 647) dL_law_644 o9 cs_X9_cloak gL_law_X9_cloak rfl (by decide) ⟨Nat.le_of_ble_eq_true rfl, Nat.le_of_ble_eq_true rfl⟩ r9 (show vwCl[9]? = some (RX9, TX9, 10) from rfl) rfl rfl (Nat.le_of_ble_eq_true rfl) hroom rfl (fun v9 p9 => ?_)
  refine GG.perm (ws2 := u10 ++ v9) List.perm_append_comm ?_
  refine G_aload_n (q := 648) dL_law_647 rfl 2 rfl rfl ?_
  refine G_aload_n (q := 649) dL_law_648 rfl 0 rfl rfl ?_
  refine G_iload_n (q := 650) dL_law_649 rfl 3 rfl rfl ?_
  refine G_iconst (v := nI 1) (q := 651) dL_law_650 (by decide) rfl ?_
  refine G_iaddN (a := i) (b := 1) (q := 652) dL_law_651 rfl ?_
  refine G_sld (j := i + 1) hX (by omega) hL (q := 653) dL_law_652 rfl ?_
  refine G_aload_n (q := 654) dL_law_653 rfl 0 rfl rfl ?_
  refine G_iload_n (q := 655) dL_law_654 rfl 3 rfl rfl ?_
  refine G_iconst (v := nI 2) (q := 656) dL_law_655 (by decide) rfl ?_
  refine G_iaddN (a := i) (b := 2) (q := 657) dL_law_656 rfl ?_
  refine G_sld (j := i + 2) hX (by omega) hL (q := 658) dL_law_657 rfl ?_
  refine G_callOP (as := [.int (xs (i + 1)), .int (xs (i + 2))]) (rest := [.int ti]) (q := 661) dL_law_658 o10 cs_X10_cloak gL_law_X10_cloak rfl (by decide) ⟨Nat.le_of_ble_eq_true rfl, Nat.le_of_ble_eq_true rfl⟩ r10 (show vwCl[10]? = some (RX10, TX10, 25) from rfl) rfl rfl (Nat.le_of_ble_eq_true rfl) hroom rfl (fun v10 p10 => ?_)
  refine GG.perm (ws2 := v9 ++ v10) List.perm_append_comm ?_
  refine G_icmp_eqT (tgt := 815) dL_law_661 (by decide) rfl ?_
  exact next v9 v10 (hn v9 v10 p9 p10)
set_option maxHeartbeats 1000000 in
theorem law_b666 {X : GX} {Z : Nat → ClassId} {Φ : Option Value → va_W → Prop} {k n b b9 b10 L i : Nat} {xs : Nat → Int32} {u9 u10 : va_W} (hX : XS X b L xs) (hi : i + 4 ≤ L) (hL : L ≤ 256) (hI : INV Z b9 b10 u9 u10) (hroom : k ≤ 600000 ∧ n ≤ 7302250) (next : ∀ v9 v10, INV Z b9 b10 v9 v10 → LG X Z Φ k n (v9 ++ v10) (LV b b9 b10 i) [] 815) : LG X Z Φ k n (u9 ++ u10) (LV b b9 b10 i) [] 666 := by
  obtain ⟨t, P9, P10, ⟨ti, rfl⟩, o9, o10, hn⟩ := op_allKnow Z  b9 b10 u9 u10 hI
  obtain ⟨r9, r10⟩ := INV_rec hI
  show GG X room_1 cL_law 4 wsL_law RL false true Z Φ 137 3683 k n (u9 ++ u10) [(0, .ref b), (1, .ref b9), (2, .ref b10), (3, .int (nI i))] [] 666
  refine G_aload_n (q := 667) dL_law_666 rfl 1 rfl rfl ?_
  refine G_callOP (as := []) (rest := []) (q := 670) dL_law_667 o9 cs_X9_allKnow gL_law_X9_allKnow rfl (by decide) ⟨Nat.le_of_ble_eq_true rfl, Nat.le_of_ble_eq_true rfl⟩ r9 (show vwCl[9]? = some (RX9, TX9, 10) from rfl) rfl rfl (Nat.le_of_ble_eq_true rfl) hroom rfl (fun v9 p9 => ?_)
  refine GG.perm (ws2 := u10 ++ v9) List.perm_append_comm ?_
  refine G_aload_n (q := 671) dL_law_670 rfl 2 rfl rfl ?_
  refine G_callOP (as := []) (rest := [.int ti]) (q := 674) dL_law_671 o10 cs_X10_allKnow gL_law_X10_allKnow rfl (by decide) ⟨Nat.le_of_ble_eq_true rfl, Nat.le_of_ble_eq_true rfl⟩ r10 (show vwCl[10]? = some (RX10, TX10, 25) from rfl) rfl rfl (Nat.le_of_ble_eq_true rfl) hroom rfl (fun v10 p10 => ?_)
  refine GG.perm (ws2 := v9 ++ v10) List.perm_append_comm ?_
  refine G_icmp_eqT (tgt := 815) dL_law_674 (by decide) rfl ?_
  exact next v9 v10 (hn v9 v10 p9 p10)
set_option maxHeartbeats 1000000 in
theorem law_b679 {X : GX} {Z : Nat → ClassId} {Φ : Option Value → va_W → Prop} {k n b b9 b10 L i : Nat} {xs : Nat → Int32} {u9 u10 : va_W} (hX : XS X b L xs) (hi : i + 4 ≤ L) (hL : L ≤ 256) (hI : INV Z b9 b10 u9 u10) (hroom : k ≤ 600000 ∧ n ≤ 7302250) (next : ∀ v9 v10, INV Z b9 b10 v9 v10 → LG X Z Φ k n (v9 ++ v10) (LV b b9 b10 i) [] 815) : LG X Z Φ k n (u9 ++ u10) (LV b b9 b10 i) [] 679 := by
  obtain ⟨t, P9, P10, ⟨ti, rfl⟩, o9, o10, hn⟩ := op_lasts Z (xs (i + 1)) (xs (i + 2)) (xs (i + 3)) b9 b10 u9 u10 hI
  obtain ⟨r9, r10⟩ := INV_rec hI
  show GG X room_1 cL_law 4 wsL_law RL false true Z Φ 137 3683 k n (u9 ++ u10) [(0, .ref b), (1, .ref b9), (2, .ref b10), (3, .int (nI i))] [] 679
  refine G_aload_n (q := 680) dL_law_679 rfl 1 rfl rfl ?_
  refine G_aload_n (q := 681) dL_law_680 rfl 0 rfl rfl ?_
  refine G_iload_n (q := 682) dL_law_681 rfl 3 rfl rfl ?_
  refine G_iconst (v := nI 1) (q := 683) dL_law_682 (by decide) rfl ?_
  refine G_iaddN (a := i) (b := 1) (q := 684) dL_law_683 rfl ?_
  refine G_sld (j := i + 1) hX (by omega) hL (q := 685) dL_law_684 rfl ?_
  refine G_aload_n (q := 686) dL_law_685 rfl 0 rfl rfl ?_
  refine G_iload_n (q := 687) dL_law_686 rfl 3 rfl rfl ?_
  refine G_iconst (v := nI 2) (q := 688) dL_law_687 (by decide) rfl ?_
  refine G_iaddN (a := i) (b := 2) (q := 689) dL_law_688 rfl ?_
  refine G_sld (j := i + 2) hX (by omega) hL (q := 690) dL_law_689 rfl ?_
  refine G_aload_n (q := 691) dL_law_690 rfl 0 rfl rfl ?_
  refine G_iload_n (q := 692) dL_law_691 rfl 3 rfl rfl ?_
  refine G_iconst (v := nI 3) (q := 693) dL_law_692 (by decide) rfl ?_
  refine G_iaddN (a := i) (b := 3) (q := 694) dL_law_693 rfl ?_
  refine G_sld (j := i + 3) hX (by omega) hL (q := 695) dL_law_694 rfl ?_
  refine G_callOP (as := [.int (xs (i + 1)), .int (xs (i + 2)), .int (xs (i + 3))]) (rest := []) (q := 698) dL_law_695 o9 cs_X9_lasts gL_law_X9_lasts rfl (by decide) ⟨Nat.le_of_ble_eq_true rfl, Nat.le_of_ble_eq_true rfl⟩ r9 (show vwCl[9]? = some (RX9, TX9, 10) from rfl) rfl rfl (Nat.le_of_ble_eq_true rfl) hroom rfl (fun v9 p9 => ?_)
  refine GG.perm (ws2 := u10 ++ v9) List.perm_append_comm ?_
  refine G_aload_n (q := 699) dL_law_698 rfl 2 rfl rfl ?_
  refine G_aload_n (q := 700) dL_law_699 rfl 0 rfl rfl ?_
  refine G_iload_n (q := 701) dL_law_700 rfl 3 rfl rfl ?_
  refine G_iconst (v := nI 1) (q := 702) dL_law_701 (by decide) rfl ?_
  refine G_iaddN (a := i) (b := 1) (q := 703) dL_law_702 rfl ?_
  refine G_sld (j := i + 1) hX (by omega) hL (q := 704) dL_law_703 rfl ?_
  refine G_aload_n (q := 705) dL_law_704 rfl 0 rfl rfl ?_
  refine G_iload_n (q := 706) dL_law_705 rfl 3 rfl rfl ?_
  refine G_iconst (v := nI 2) (q := 707) dL_law_706 (by decide) rfl ?_
  refine G_iaddN (a := i) (b := 2) (q := 708) dL_law_707 rfl ?_
  refine G_sld (j := i + 2) hX (by omega) hL (q := 709) dL_law_708 rfl ?_
  refine G_aload_n (q := 710) dL_law_709 rfl 0 rfl rfl ?_
  refine G_iload_n (q := 711) dL_law_710 rfl 3 rfl rfl ?_
  refine G_iconst (v := nI 3) (q := 712) dL_law_711 (by decide) rfl ?_
  refine G_iaddN (a := i) (b := 3) (q := 713) dL_law_712 rfl ?_
  refine G_sld (j := i + 3) hX (by omega) hL (q := 714) dL_law_713 rfl ?_
  refine G_callOP (as := [.int (xs (i + 1)), .int (xs (i + 2)), .int (xs (i + 3))]) (rest := [.long ti]) (q := 717) dL_law_714 o10 cs_X10_lasts gL_law_X10_lasts rfl (by decide) ⟨Nat.le_of_ble_eq_true rfl, Nat.le_of_ble_eq_true rfl⟩ r10 (show vwCl[10]? = some (RX10, TX10, 25) from rfl) rfl rfl (Nat.le_of_ble_eq_true rfl) hroom rfl (fun v10 p10 => ?_)
  refine GG.perm (ws2 := v9 ++ v10) List.perm_append_comm ?_
  refine G_lcmp (q := 718) dL_law_717 (nI 0) (lg_same ti) rfl ?_
  refine G_if_eqT (tgt := 815) dL_law_718 (by decide) rfl ?_
  exact next v9 v10 (hn v9 v10 p9 p10)
set_option maxHeartbeats 1000000 in
theorem law_b723 {X : GX} {Z : Nat → ClassId} {Φ : Option Value → va_W → Prop} {k n b b9 b10 L i : Nat} {xs : Nat → Int32} {u9 u10 : va_W} (hX : XS X b L xs) (hi : i + 4 ≤ L) (hL : L ≤ 256) (hI : INV Z b9 b10 u9 u10) (hroom : k ≤ 600000 ∧ n ≤ 7302250) (next : ∀ v9 v10, INV Z b9 b10 v9 v10 → LG X Z Φ k n (v9 ++ v10) (LV b b9 b10 i) [] 815) : LG X Z Φ k n (u9 ++ u10) (LV b b9 b10 i) [] 723 := by
  obtain ⟨t, P9, P10, ⟨ti, rfl⟩, o9, o10, hn⟩ := op_year Z (xs (i + 1)) (xs (i + 2)) (xs (i + 3)) b9 b10 u9 u10 hI
  obtain ⟨r9, r10⟩ := INV_rec hI
  show GG X room_1 cL_law 4 wsL_law RL false true Z Φ 137 3683 k n (u9 ++ u10) [(0, .ref b), (1, .ref b9), (2, .ref b10), (3, .int (nI i))] [] 723
  refine G_aload_n (q := 724) dL_law_723 rfl 1 rfl rfl ?_
  refine G_aload_n (q := 725) dL_law_724 rfl 0 rfl rfl ?_
  refine G_iload_n (q := 726) dL_law_725 rfl 3 rfl rfl ?_
  refine G_iconst (v := nI 1) (q := 727) dL_law_726 (by decide) rfl ?_
  refine G_iaddN (a := i) (b := 1) (q := 728) dL_law_727 rfl ?_
  refine G_sld (j := i + 1) hX (by omega) hL (q := 729) dL_law_728 rfl ?_
  refine G_aload_n (q := 730) dL_law_729 rfl 0 rfl rfl ?_
  refine G_iload_n (q := 731) dL_law_730 rfl 3 rfl rfl ?_
  refine G_iconst (v := nI 2) (q := 732) dL_law_731 (by decide) rfl ?_
  refine G_iaddN (a := i) (b := 2) (q := 733) dL_law_732 rfl ?_
  refine G_sld (j := i + 2) hX (by omega) hL (q := 734) dL_law_733 rfl ?_
  refine G_aload_n (q := 735) dL_law_734 rfl 0 rfl rfl ?_
  refine G_iload_n (q := 736) dL_law_735 rfl 3 rfl rfl ?_
  refine G_iconst (v := nI 3) (q := 737) dL_law_736 (by decide) rfl ?_
  refine G_iaddN (a := i) (b := 3) (q := 738) dL_law_737 rfl ?_
  refine G_sld (j := i + 3) hX (by omega) hL (q := 739) dL_law_738 rfl ?_
  refine G_callOP (as := [.int (xs (i + 1)), .int (xs (i + 2)), .int (xs (i + 3))]) (rest := []) (q := 742) dL_law_739 o9 cs_X9_year gL_law_X9_year rfl (by decide) ⟨Nat.le_of_ble_eq_true rfl, Nat.le_of_ble_eq_true rfl⟩ r9 (show vwCl[9]? = some (RX9, TX9, 10) from rfl) rfl rfl (Nat.le_of_ble_eq_true rfl) hroom rfl (fun v9 p9 => ?_)
  refine GG.perm (ws2 := u10 ++ v9) List.perm_append_comm ?_
  refine G_aload_n (q := 743) dL_law_742 rfl 2 rfl rfl ?_
  refine G_aload_n (q := 744) dL_law_743 rfl 0 rfl rfl ?_
  refine G_iload_n (q := 745) dL_law_744 rfl 3 rfl rfl ?_
  refine G_iconst (v := nI 1) (q := 746) dL_law_745 (by decide) rfl ?_
  refine G_iaddN (a := i) (b := 1) (q := 747) dL_law_746 rfl ?_
  refine G_sld (j := i + 1) hX (by omega) hL (q := 748) dL_law_747 rfl ?_
  refine G_aload_n (q := 749) dL_law_748 rfl 0 rfl rfl ?_
  refine G_iload_n (q := 750) dL_law_749 rfl 3 rfl rfl ?_
  refine G_iconst (v := nI 2) (q := 751) dL_law_750 (by decide) rfl ?_
  refine G_iaddN (a := i) (b := 2) (q := 752) dL_law_751 rfl ?_
  refine G_sld (j := i + 2) hX (by omega) hL (q := 753) dL_law_752 rfl ?_
  refine G_aload_n (q := 754) dL_law_753 rfl 0 rfl rfl ?_
  refine G_iload_n (q := 755) dL_law_754 rfl 3 rfl rfl ?_
  refine G_iconst (v := nI 3) (q := 756) dL_law_755 (by decide) rfl ?_
  refine G_iaddN (a := i) (b := 3) (q := 757) dL_law_756 rfl ?_
  refine G_sld (j := i + 3) hX (by omega) hL (q := 758) dL_law_757 rfl ?_
  refine G_callOP (as := [.int (xs (i + 1)), .int (xs (i + 2)), .int (xs (i + 3))]) (rest := [.int ti]) (q := 761) dL_law_758 o10 cs_X10_year gL_law_X10_year rfl (by decide) ⟨Nat.le_of_ble_eq_true rfl, Nat.le_of_ble_eq_true rfl⟩ r10 (show vwCl[10]? = some (RX10, TX10, 25) from rfl) rfl rfl (Nat.le_of_ble_eq_true rfl) hroom rfl (fun v10 p10 => ?_)
  refine GG.perm (ws2 := v9 ++ v10) List.perm_append_comm ?_
  refine G_icmp_eqT (tgt := 815) dL_law_761 (by decide) rfl ?_
  exact next v9 v10 (hn v9 v10 p9 p10)
set_option maxHeartbeats 1000000 in
theorem law_b766 {X : GX} {Z : Nat → ClassId} {Φ : Option Value → va_W → Prop} {k n b b9 b10 L i : Nat} {xs : Nat → Int32} {u9 u10 : va_W} (hX : XS X b L xs) (hi : i + 4 ≤ L) (hL : L ≤ 256) (hI : INV Z b9 b10 u9 u10) (hroom : k ≤ 600000 ∧ n ≤ 7302250) (next : ∀ v9 v10, INV Z b9 b10 v9 v10 → LG X Z Φ k n (v9 ++ v10) (LV b b9 b10 i) [] 815) : LG X Z Φ k n (u9 ++ u10) (LV b b9 b10 i) [] 766 := by
  obtain ⟨t, P9, P10, ⟨ti, rfl⟩, o9, o10, hn⟩ := op_keep Z  b9 b10 u9 u10 hI
  obtain ⟨r9, r10⟩ := INV_rec hI
  show GG X room_1 cL_law 4 wsL_law RL false true Z Φ 137 3683 k n (u9 ++ u10) [(0, .ref b), (1, .ref b9), (2, .ref b10), (3, .int (nI i))] [] 766
  refine G_aload_n (q := 767) dL_law_766 rfl 1 rfl rfl ?_
  refine G_callOP (as := []) (rest := []) (q := 770) dL_law_767 o9 cs_X9_keep gL_law_X9_keep rfl (by decide) ⟨Nat.le_of_ble_eq_true rfl, Nat.le_of_ble_eq_true rfl⟩ r9 (show vwCl[9]? = some (RX9, TX9, 10) from rfl) rfl rfl (Nat.le_of_ble_eq_true rfl) hroom rfl (fun v9 p9 => ?_)
  refine GG.perm (ws2 := u10 ++ v9) List.perm_append_comm ?_
  refine G_aload_n (q := 771) dL_law_770 rfl 2 rfl rfl ?_
  refine G_callOP (as := []) (rest := [.int ti]) (q := 774) dL_law_771 o10 cs_X10_keep gL_law_X10_keep rfl (by decide) ⟨Nat.le_of_ble_eq_true rfl, Nat.le_of_ble_eq_true rfl⟩ r10 (show vwCl[10]? = some (RX10, TX10, 25) from rfl) rfl rfl (Nat.le_of_ble_eq_true rfl) hroom rfl (fun v10 p10 => ?_)
  refine GG.perm (ws2 := v9 ++ v10) List.perm_append_comm ?_
  refine G_icmp_eqT (tgt := 815) dL_law_774 (by decide) rfl ?_
  exact next v9 v10 (hn v9 v10 p9 p10)
set_option maxHeartbeats 1000000 in
theorem law_b779 {X : GX} {Z : Nat → ClassId} {Φ : Option Value → va_W → Prop} {k n b b9 b10 L i : Nat} {xs : Nat → Int32} {u9 u10 : va_W} (hX : XS X b L xs) (hi : i + 4 ≤ L) (hL : L ≤ 256) (hI : INV Z b9 b10 u9 u10) (hroom : k ≤ 600000 ∧ n ≤ 7302250) (next : ∀ v9 v10, INV Z b9 b10 v9 v10 → LG X Z Φ k n (v9 ++ v10) (LV b b9 b10 i) [] 815) : LG X Z Φ k n (u9 ++ u10) (LV b b9 b10 i) [] 779 := by
  obtain ⟨t, P9, P10, ⟨ti, rfl⟩, o9, o10, hn⟩ := op_back Z  b9 b10 u9 u10 hI
  obtain ⟨r9, r10⟩ := INV_rec hI
  show GG X room_1 cL_law 4 wsL_law RL false true Z Φ 137 3683 k n (u9 ++ u10) [(0, .ref b), (1, .ref b9), (2, .ref b10), (3, .int (nI i))] [] 779
  refine G_aload_n (q := 780) dL_law_779 rfl 1 rfl rfl ?_
  refine G_callOP (as := []) (rest := []) (q := 783) dL_law_780 o9 cs_X9_back gL_law_X9_back rfl (by decide) ⟨Nat.le_of_ble_eq_true rfl, Nat.le_of_ble_eq_true rfl⟩ r9 (show vwCl[9]? = some (RX9, TX9, 10) from rfl) rfl rfl (Nat.le_of_ble_eq_true rfl) hroom rfl (fun v9 p9 => ?_)
  refine GG.perm (ws2 := u10 ++ v9) List.perm_append_comm ?_
  refine G_aload_n (q := 784) dL_law_783 rfl 2 rfl rfl ?_
  refine G_callOP (as := []) (rest := [.int ti]) (q := 787) dL_law_784 o10 cs_X10_back gL_law_X10_back rfl (by decide) ⟨Nat.le_of_ble_eq_true rfl, Nat.le_of_ble_eq_true rfl⟩ r10 (show vwCl[10]? = some (RX10, TX10, 25) from rfl) rfl rfl (Nat.le_of_ble_eq_true rfl) hroom rfl (fun v10 p10 => ?_)
  refine GG.perm (ws2 := v9 ++ v10) List.perm_append_comm ?_
  refine G_icmp_eqT (tgt := 815) dL_law_787 (by decide) rfl ?_
  exact next v9 v10 (hn v9 v10 p9 p10)
set_option maxHeartbeats 1000000 in
theorem law_b792 {X : GX} {Z : Nat → ClassId} {Φ : Option Value → va_W → Prop} {k n b b9 b10 L i : Nat} {xs : Nat → Int32} {u9 u10 : va_W} (hX : XS X b L xs) (hi : i + 4 ≤ L) (hL : L ≤ 256) (hI : INV Z b9 b10 u9 u10) (hroom : k ≤ 600000 ∧ n ≤ 7302250) (next : ∀ v9 v10, INV Z b9 b10 v9 v10 → LG X Z Φ k n (v9 ++ v10) (LV b b9 b10 i) [] 815) : LG X Z Φ k n (u9 ++ u10) (LV b b9 b10 i) [] 792 := by
  obtain ⟨t, P9, P10, ⟨ti, rfl⟩, o9, o10, hn⟩ := op_count Z (xs (i + 1)) b9 b10 u9 u10 hI
  obtain ⟨r9, r10⟩ := INV_rec hI
  show GG X room_1 cL_law 4 wsL_law RL false true Z Φ 137 3683 k n (u9 ++ u10) [(0, .ref b), (1, .ref b9), (2, .ref b10), (3, .int (nI i))] [] 792
  refine G_aload_n (q := 793) dL_law_792 rfl 1 rfl rfl ?_
  refine G_aload_n (q := 794) dL_law_793 rfl 0 rfl rfl ?_
  refine G_iload_n (q := 795) dL_law_794 rfl 3 rfl rfl ?_
  refine G_iconst (v := nI 1) (q := 796) dL_law_795 (by decide) rfl ?_
  refine G_iaddN (a := i) (b := 1) (q := 797) dL_law_796 rfl ?_
  refine G_sld (j := i + 1) hX (by omega) hL (q := 798) dL_law_797 rfl ?_
  refine G_callOP (as := [.int (xs (i + 1))]) (rest := []) (q := 801) dL_law_798 o9 cs_X9_count gL_law_X9_count rfl (by decide) ⟨Nat.le_of_ble_eq_true rfl, Nat.le_of_ble_eq_true rfl⟩ r9 (show vwCl[9]? = some (RX9, TX9, 10) from rfl) rfl rfl (Nat.le_of_ble_eq_true rfl) hroom rfl (fun v9 p9 => ?_)
  refine GG.perm (ws2 := u10 ++ v9) List.perm_append_comm ?_
  refine G_aload_n (q := 802) dL_law_801 rfl 2 rfl rfl ?_
  refine G_aload_n (q := 803) dL_law_802 rfl 0 rfl rfl ?_
  refine G_iload_n (q := 804) dL_law_803 rfl 3 rfl rfl ?_
  refine G_iconst (v := nI 1) (q := 805) dL_law_804 (by decide) rfl ?_
  refine G_iaddN (a := i) (b := 1) (q := 806) dL_law_805 rfl ?_
  refine G_sld (j := i + 1) hX (by omega) hL (q := 807) dL_law_806 rfl ?_
  refine G_callOP (as := [.int (xs (i + 1))]) (rest := [.int ti]) (q := 810) dL_law_807 o10 cs_X10_count gL_law_X10_count rfl (by decide) ⟨Nat.le_of_ble_eq_true rfl, Nat.le_of_ble_eq_true rfl⟩ r10 (show vwCl[10]? = some (RX10, TX10, 25) from rfl) rfl rfl (Nat.le_of_ble_eq_true rfl) hroom rfl (fun v10 p10 => ?_)
  refine GG.perm (ws2 := v9 ++ v10) List.perm_append_comm ?_
  refine G_icmp_eqT (tgt := 815) dL_law_810 (by decide) rfl ?_
  exact next v9 v10 (hn v9 v10 p9 p10)
