def EVs : List (Nat × Nat × Nat) := [(2, 0, 3), (1, 0, 2), (5, 0, 6), (5, 1, 7), (5, 2, 8), (5, 3, 9), (5, 4, 10), (4, 0, 5), (4, 1, 11), (1, 1, 4), (12, 0, 13), (12, 1, 14), (12, 2, 15), (12, 3, 16), (12, 4, 17), (1, 2, 12), (18, 0, 19), (18, 1, 20), (18, 2, 21), (18, 3, 22), (1, 3, 18), (25, 0, 26), (25, 1, 27), (25, 2, 28), (25, 3, 29), (24, 2, 25), (24, 0, 30), (24, 1, 31), (32, 0, 33), (32, 1, 34), (32, 2, 35), (32, 3, 36), (30, 0, 32), (37, 0, 38), (37, 1, 39), (37, 2, 40), (37, 3, 41), (30, 1, 37), (42, 0, 43), (42, 1, 44), (42, 2, 45), (42, 3, 46), (30, 2, 42), (47, 0, 48), (47, 1, 49), (47, 2, 50), (47, 3, 51), (30, 3, 47), (52, 0, 53), (52, 1, 54), (52, 2, 55), (52, 3, 56), (30, 4, 52), (57, 0, 58), (57, 1, 59), (57, 2, 60), (57, 3, 61), (30, 5, 57), (62, 0, 63), (62, 1, 64), (62, 2, 65), (62, 3, 66), (30, 6, 62), (67, 0, 68), (67, 1, 69), (67, 2, 70), (67, 3, 71), (30, 7, 67), (72, 0, 73), (72, 1, 74), (72, 2, 75), (72, 3, 76), (30, 8, 72), (77, 0, 78), (77, 1, 79), (77, 2, 80), (77, 3, 81), (30, 9, 77), (82, 0, 83), (82, 1, 84), (82, 2, 85), (82, 3, 86), (30, 10, 82), (87, 0, 88), (87, 1, 89), (87, 2, 90), (87, 3, 91), (30, 11, 87), (23, 0, 24), (1, 4, 23), (93, 0, 94), (93, 1, 95), (93, 2, 96), (93, 3, 97), (92, 2, 93), (99, 0, 100), (99, 1, 101), (99, 2, 102), (99, 3, 103), (98, 2, 99), (98, 0, 104), (98, 1, 105), (106, 0, 107), (106, 1, 108), (106, 2, 109), (106, 3, 110), (104, 0, 106), (111, 0, 112), (111, 1, 113), (111, 2, 114), (111, 3, 115), (104, 1, 111), (116, 0, 117), (116, 1, 118), (116, 2, 119), (116, 3, 120), (104, 2, 116), (121, 0, 122), (121, 1, 123), (121, 2, 124), (121, 3, 125), (104, 3, 121), (126, 0, 127), (126, 1, 128), (126, 2, 129), (126, 3, 130), (104, 4, 126), (131, 0, 132), (131, 1, 133), (131, 2, 134), (131, 3, 135), (104, 5, 131), (136, 0, 137), (136, 1, 138), (136, 2, 139), (136, 3, 140), (104, 6, 136), (141, 0, 142), (141, 1, 143), (141, 2, 144), (141, 3, 145), (104, 7, 141), (146, 0, 147), (146, 1, 148), (146, 2, 149), (146, 3, 150), (104, 8, 146), (92, 3, 98), (92, 0, 12), (92, 1, 18), (1, 5, 92), (151, 0, 152), (151, 1, 153), (151, 2, 154), (1, 6, 151), (156, 0, 157), (156, 1, 158), (156, 2, 159), (156, 3, 160), (155, 2, 156), (155, 0, 161), (155, 1, 162), (163, 0, 164), (163, 1, 165), (163, 2, 166), (163, 3, 167), (161, 0, 163), (168, 0, 169), (168, 1, 170), (168, 2, 171), (168, 3, 172), (161, 1, 168), (1, 7, 155), (173, 0, 174), (173, 1, 175), (173, 3, 176), (173, 4, 177), (173, 8, 178), (173, 14, 179), (173, 15, 180), (173, 16, 181), (173, 18, 182), (173, 20, 183), (173, 21, 184), (173, 22, 185), (173, 24, 186), (173, 25, 187)]
def zI : IT := fun _ _ => 0
def zJ : JT := fun _ _ => 0
theorem nI_nneg {n : Nat} (h : n < 2 ^ 31) : ¬ nI n < 0 := by
  rw [Int32.lt_iff_toInt_lt, nI_toInt h]
  have : (0 : Int32).toInt = 0 := by decide
  omega
/-- the references behind k settings -/
def FE : Nat → FT
  | 0 => fun _ _ => none
  | k + 1 => match EVs[k]? with
    | some t => va_up (FE k) t.1 (va_up (FE k t.1) t.2.1 (some t.2.2))
    | none => FE k
def frz (m k : Nat) : Bool := (EVs.take k).all (fun t => t.1 != m)
theorem FE_s {k a q x : Nat} (h : EVs[k]? = some (a, q, x)) : va_up (FE k) a (va_up (FE k a) q (some x)) = FE (k + 1) := by
  rw [FE, h]
theorem FE_f {m : Nat} : ∀ k, frz m k = true → FE k m = fun _ => none
  | 0, _ => rfl
  | k + 1, h => by
    have h1 : frz m k = true := by
      unfold frz at h ⊢
      rw [List.all_eq_true] at h ⊢
      exact fun t ht => h t (List.take_subset_take_left _ (Nat.le_succ k) ht)
    have ih := FE_f k h1
    rw [FE]
    rcases he : EVs[k]? with _ | ⟨a, q, x⟩
    · exact ih
    · have h2 : (a != m) = true := by
        unfold frz at h
        rw [List.all_eq_true] at h
        have hl := (List.getElem?_eq_some_iff.mp he).1
        exact h (a, q, x) (by rw [List.take_succ, he]; simp)
      have h3 : m ≠ a := fun e => by subst e; simp at h2
      show va_up (FE k) a _ m = _
      unfold va_up
      rw [if_neg h3]
      exact ih
theorem FE_n {m k : Nat} (h : frz m k = true) : va_up (FE k) m (fun _ => none) = FE k := by
  funext a
  unfold va_up
  by_cases e : a = m
  · rw [if_pos e, e, FE_f k h]
  · rw [if_neg e]
theorem zI_n {m : Nat} : va_up zI m (fun _ => 0) = zI := by
  funext a
  unfold va_up
  by_cases e : a = m
  · rw [if_pos e]; rfl
  · rw [if_neg e]
theorem zJ_n {m : Nat} : va_up zJ m (fun _ => 0) = zJ := by
  funext a
  unfold va_up
  by_cases e : a = m
  · rw [if_pos e]; rfl
  · rw [if_neg e]
theorem zI_p {m q : Nat} : va_up zI m (upd (zI m) q (nI 0)) = zI := by
  funext a
  unfold va_up
  by_cases e : a = m
  · rw [if_pos e]
    funext j
    unfold upd
    by_cases e2 : j = q
    · rw [if_pos e2]; rfl
    · rw [if_neg e2]; rfl
  · rw [if_neg e]
theorem zJ_p {m q : Nat} : va_up zJ m (vp_updL (zJ m) q 0) = zJ := by
  funext a
  unfold va_up
  by_cases e : a = m
  · rw [if_pos e]
    funext j
    unfold vp_updL
    by_cases e2 : j = q
    · rw [if_pos e2]; rfl
    · rw [if_neg e2]; rfl
  · rw [if_neg e]
theorem tk_l {m : Nat} {v : Nat × Nat} (h : KK[m]? = some v) : (KK.take m).length = m := by
  have := (List.getElem?_eq_some_iff.mp h).1
  rw [List.length_take]
  omega
theorem tk_s {m : Nat} {v : Nat × Nat} (h : KK[m]? = some v) : KK.take m ++ [v] = KK.take (m + 1) := by
  rw [List.take_succ, h]; rfl
theorem tk_g {a m : Nat} {v : Nat × Nat} (h : KK[a]? = some v) (ha : a < m) : (KK.take m)[a]? = some v := by
  rw [List.getElem?_take, if_pos ha]; exact h
theorem wz_new {scr : Option (Nat × (Nat → Int32))} {y : Nat} {Po : RT → Prop} {pc : Nat} {L : LL} {st : List VV} {i ci m k : Nat} {Cn : String} {T : u_T} {n : Nat} (hd : decode (mB y) pc = .ok ((.new i), 3)) (hcl : vwCl[ci]? = some (Cn, T, n)) (hw : Cond.classLink (mN y).cls i Cn ∈ gg_GW) (hx : KK[m]? = some (ci, 0)) (hf : frz m k = true) (kk : Wp scr y Po (pc + 3) L (vR m :: st) (KK.take (m + 1)) zI zJ (FE k)) : Wp scr y Po pc L st (KK.take m) zI zJ (FE k) := wp_new hd hcl hw (by rw [tk_l hx, tk_s hx, zI_n, zJ_n, FE_n hf]; exact kk)
theorem wz_newI {scr : Option (Nat × (Nat → Int32))} {y : Nat} {Po : RT → Prop} {pc : Nat} {L : LL} {st : List VV} {n m k : Nat} (hd : decode (mB y) pc = .ok ((.newarray .int), 2)) (hx : KK[m]? = some (10, n)) (hn : n ≤ 100000) (kk : Wp scr y Po (pc + 2) L (vR m :: st) (KK.take (m + 1)) zI zJ (FE k)) : Wp scr y Po pc L (vI (nI n) :: st) (KK.take m) zI zJ (FE k) := wp_newI hd (nI_nneg (by omega)) (nI_clamp (by omega)) hn (by rw [tk_l hx, tk_s hx, zI_n]; exact kk)
theorem wz_newZ {scr : Option (Nat × (Nat → Int32))} {y : Nat} {Po : RT → Prop} {pc : Nat} {L : LL} {st : List VV} {n m k : Nat} (hd : decode (mB y) pc = .ok ((.newarray .boolean), 2)) (hx : KK[m]? = some (11, n)) (hn : n ≤ 100000) (kk : Wp scr y Po (pc + 2) L (vR m :: st) (KK.take (m + 1)) zI zJ (FE k)) : Wp scr y Po pc L (vI (nI n) :: st) (KK.take m) zI zJ (FE k) := wp_newZ hd (nI_nneg (by omega)) (nI_clamp (by omega)) hn (by rw [tk_l hx, tk_s hx, zI_n]; exact kk)
theorem wz_newA {scr : Option (Nat × (Nat → Int32))} {y : Nat} {Po : RT → Prop} {pc : Nat} {L : LL} {st : List VV} {i n m k : Nat} (hd : decode (mB y) pc = .ok ((.anewarray i), 3)) (hw : Cond.classLink (mN y).cls i "GutterGardens$Waters" ∈ gg_GW) (hx : KK[m]? = some (12, n)) (hn : n ≤ 100000) (hf : frz m k = true) (kk : Wp scr y Po (pc + 3) L (vR m :: st) (KK.take (m + 1)) zI zJ (FE k)) : Wp scr y Po pc L (vI (nI n) :: st) (KK.take m) zI zJ (FE k) := wp_newA hd hw (nI_nneg (by omega)) (nI_clamp (by omega)) hn (by rw [tk_l hx, tk_s hx, FE_n hf]; exact kk)
theorem wz_putI {scr : Option (Nat × (Nat → Int32))} {y : Nat} {Po : RT → Prop} {pc : Nat} {L : LL} {st : List VV} {a i ci q n m k : Nat} (hd : decode (mB y) pc = .ok ((.putfield i), 3)) (hf : gg_FL (mN y).cls i ci q) (hk : KK[a]? = some (ci, n)) (ha : a < m) (hq : fty ci q = 0) (hfin : ((vwCl.getD ci ("", fun _ => ("", "", "", false), 0)).2.1 q).2.2.2 = false) (kk : Wp scr y Po (pc + 3) L st (KK.take m) zI zJ (FE k)) : Wp scr y Po pc L (vI (nI 0) :: vR a :: st) (KK.take m) zI zJ (FE k) := wp_putI hd hf (tk_g hk ha) hq hfin (by rw [zI_p]; exact kk)
theorem wz_putL {scr : Option (Nat × (Nat → Int32))} {y : Nat} {Po : RT → Prop} {pc : Nat} {L : LL} {st : List VV} {a i ci q n m k : Nat} (hd : decode (mB y) pc = .ok ((.putfield i), 3)) (hf : gg_FL (mN y).cls i ci q) (hk : KK[a]? = some (ci, n)) (ha : a < m) (hq : fty ci q = 1) (hfin : ((vwCl.getD ci ("", fun _ => ("", "", "", false), 0)).2.1 q).2.2.2 = false) (kk : Wp scr y Po (pc + 3) L st (KK.take m) zI zJ (FE k)) : Wp scr y Po pc L (vL 0 :: vR a :: st) (KK.take m) zI zJ (FE k) := wp_putL hd hf (tk_g hk ha) hq hfin (by rw [zJ_p]; exact kk)
theorem wz_putF {scr : Option (Nat × (Nat → Int32))} {y : Nat} {Po : RT → Prop} {pc : Nat} {L : LL} {st : List VV} {a i ci q n x m k : Nat} (hd : decode (mB y) pc = .ok ((.putfield i), 3)) (hin : (mN y).name = "<init>") (hf : gg_FL (mN y).cls i ci q) (hk : KK[a]? = some (ci, n)) (ha : a < m) (hq : fty ci q = 2) (hfin : ((vwCl.getD ci ("", fun _ => ("", "", "", false), 0)).2.1 q).2.2.2 = true) (hdc : ((vwCl.getD ci ("", fun _ => ("", "", "", false), 0)).2.1 q).1 = (mN y).cls) (he : EVs[k]? = some (a, q, x)) (kk : Wp scr y Po (pc + 3) L st (KK.take m) zI zJ (FE (k + 1))) : Wp scr y Po pc L (vR x :: vR a :: st) (KK.take m) zI zJ (FE k) := wp_putF hd hin hf (tk_g hk ha) hq hfin hdc (by rw [FE_s he]; exact kk)
theorem wz_gA {scr : Option (Nat × (Nat → Int32))} {y : Nat} {Po : RT → Prop} {pc : Nat} {L : LL} {st : List VV} {a i ci q n b m k : Nat} (hd : decode (mB y) pc = .ok (.getfield i, 3)) (hf : gg_FL (mN y).cls i ci q) (hk : KK[a]? = some (ci, n)) (ha : a < m) (hq : fty ci q = 2) (hb : FE k a q = some b) (kk : Wp scr y Po (pc + 3) L (vR b :: st) (KK.take m) zI zJ (FE k)) : Wp scr y Po pc L (vR a :: st) (KK.take m) zI zJ (FE k) := wp_gA hd hf (tk_g hk ha) hq hb kk
theorem wz_aast {scr : Option (Nat × (Nat → Int32))} {y : Nat} {Po : RT → Prop} {pc : Nat} {L : LL} {st : List VV} {a n x n2 j m k : Nat} (hd : decode (mB y) pc = .ok (.aastore, 1)) (hk : KK[a]? = some (12, n)) (ha : a < m) (hj : j < n) (hn : n < 2 ^ 31) (hkx : KK[x]? = some (7, n2)) (hx : x < m) (he : EVs[k]? = some (a, j, x)) (kk : Wp scr y Po (pc + 1) L st (KK.take m) zI zJ (FE (k + 1))) : Wp scr y Po pc L (vR x :: vI (nI j) :: vR a :: st) (KK.take m) zI zJ (FE k) := wp_aast hd (tk_g hk ha) (vp_in_nI hj hn) (tk_g hkx hx) (by rw [nI_clamp (by omega), FE_s he]; exact kk)
theorem wz_callI0 {scr : Option (Nat × (Nat → Int32))} {y : Nat} {Po : RT → Prop} {pc : Nat} {L : LL} {st : List VV} {i y2 a : Nat} {K K2 : KT} {F F2 : FT} (hd : decode (mB y) pc = .ok ((.invokespecial i), 3)) (hl : gg_CI (mN y).cls i y2) (hm : mK y2 < mK y) (hn : 0 = mA y2) (hs : vcats st ≤ 8) (hC : Sp y2 [vR a] K zI zJ F (fun R => R = (none, K2, zI, zJ, F2))) (kk : Wp scr y Po (pc + 3) L st K2 zI zJ F2) : Wp scr y Po pc L (vR a :: st) K zI zJ F := wp_callI (as := []) hd hl hm hn hs hC (fun r K3 I3 J3 F3 h => by cases h; exact kk)
theorem wz_callI1 {scr : Option (Nat × (Nat → Int32))} {y : Nat} {Po : RT → Prop} {pc : Nat} {L : LL} {st : List VV} {i y2 a : Nat} {v0 : VV} {K K2 : KT} {F F2 : FT} (hd : decode (mB y) pc = .ok ((.invokespecial i), 3)) (hl : gg_CI (mN y).cls i y2) (hm : mK y2 < mK y) (hn : 1 = mA y2) (hs : vcats st ≤ 8) (hC : Sp y2 [vR a, v0] K zI zJ F (fun R => R = (none, K2, zI, zJ, F2))) (kk : Wp scr y Po (pc + 3) L st K2 zI zJ F2) : Wp scr y Po pc L (v0 :: vR a :: st) K zI zJ F := wp_callI (as := [v0]) hd hl hm hn hs hC (fun r K3 I3 J3 F3 h => by cases h; exact kk)
theorem wz_callI2 {scr : Option (Nat × (Nat → Int32))} {y : Nat} {Po : RT → Prop} {pc : Nat} {L : LL} {st : List VV} {i y2 a : Nat} {v0 v1 : VV} {K K2 : KT} {F F2 : FT} (hd : decode (mB y) pc = .ok ((.invokespecial i), 3)) (hl : gg_CI (mN y).cls i y2) (hm : mK y2 < mK y) (hn : 2 = mA y2) (hs : vcats st ≤ 8) (hC : Sp y2 [vR a, v0, v1] K zI zJ F (fun R => R = (none, K2, zI, zJ, F2))) (kk : Wp scr y Po (pc + 3) L st K2 zI zJ F2) : Wp scr y Po pc L (v1 :: v0 :: vR a :: st) K zI zJ F := wp_callI (as := [v0, v1]) hd hl hm hn hs hC (fun r K3 I3 J3 F3 h => by cases h; exact kk)
theorem wz_callIN0 {scr : Option (Nat × (Nat → Int32))} {y : Nat} {Po : RT → Prop} {pc : Nat} {L : LL} {st : List VV} {i y2 a : Nat} {K K2 : KT} {F F2 : FT} (hd : decode (mB y) pc = .ok ((.invokespecial i), 3)) (hl : gg_CIN (mN y).cls i y2) (hm : mK y2 < mK y) (hn : 0 = mA y2) (hs : vcats st ≤ 8) (hC : Sp y2 [vR a] K zI zJ F (fun R => R = (none, K2, zI, zJ, F2))) (kk : Wp scr y Po (pc + 3) L st K2 zI zJ F2) : Wp scr y Po pc L (vR a :: st) K zI zJ F := wp_callIN (as := []) hd hl hm hn hs hC (fun r K3 I3 J3 F3 h => by cases h; exact kk)
theorem wz_callIN1 {scr : Option (Nat × (Nat → Int32))} {y : Nat} {Po : RT → Prop} {pc : Nat} {L : LL} {st : List VV} {i y2 a : Nat} {v0 : VV} {K K2 : KT} {F F2 : FT} (hd : decode (mB y) pc = .ok ((.invokespecial i), 3)) (hl : gg_CIN (mN y).cls i y2) (hm : mK y2 < mK y) (hn : 1 = mA y2) (hs : vcats st ≤ 8) (hC : Sp y2 [vR a, v0] K zI zJ F (fun R => R = (none, K2, zI, zJ, F2))) (kk : Wp scr y Po (pc + 3) L st K2 zI zJ F2) : Wp scr y Po pc L (v0 :: vR a :: st) K zI zJ F := wp_callIN (as := [v0]) hd hl hm hn hs hC (fun r K3 I3 J3 F3 h => by cases h; exact kk)
theorem wz_callIN2 {scr : Option (Nat × (Nat → Int32))} {y : Nat} {Po : RT → Prop} {pc : Nat} {L : LL} {st : List VV} {i y2 a : Nat} {v0 v1 : VV} {K K2 : KT} {F F2 : FT} (hd : decode (mB y) pc = .ok ((.invokespecial i), 3)) (hl : gg_CIN (mN y).cls i y2) (hm : mK y2 < mK y) (hn : 2 = mA y2) (hs : vcats st ≤ 8) (hC : Sp y2 [vR a, v0, v1] K zI zJ F (fun R => R = (none, K2, zI, zJ, F2))) (kk : Wp scr y Po (pc + 3) L st K2 zI zJ F2) : Wp scr y Po pc L (v1 :: v0 :: vR a :: st) K zI zJ F := wp_callIN (as := [v0, v1]) hd hl hm hn hs hC (fun r K3 I3 J3 F3 h => by cases h; exact kk)
set_option maxRecDepth 8000 in
theorem ci_W {a m k : Nat} (ham : a < m) (hk : KK[a]? = some (7, 0)) (h0 : KK[m]? = some (10, 6)) (h1 : KK[m + 1]? = some (10, 6)) (h2 : KK[m + 2]? = some (10, 6)) (h3 : KK[m + 3]? = some (10, 6)) (e0 : EVs[k]? = some (a, 0, m)) (e1 : EVs[k + 1]? = some (a, 1, m + 1)) (e2 : EVs[k + 2]? = some (a, 2, m + 2)) (e3 : EVs[k + 3]? = some (a, 3, m + 3)) : Sp 64 [vR a] (KK.take m) zI zJ (FE k) (fun R => R = (none, KK.take (m + 4), zI, zJ, FE (k + 4))) := by
  refine Sp.mk2 (Nat.le_of_ble_eq_true rfl) (L2 := [_]) rfl ?_
  refine wp_aload_n (pc := 0) (i := 0) d_64_0 rfl rfl ?_
  refine wp_objInit (pc := 1) d_64_1 oi_8_3 (Nat.le_of_ble_eq_true rfl) ?_
  refine wp_aload_n (pc := 4) (i := 0) d_64_4 rfl rfl ?_
  refine wp_bpN (pc := 5) (m := 6) d_64_5 (by decide) ?_
  refine wz_newI (pc := 7) (m := m) (n := 6) d_64_7 h0 (by decide) ?_
  refine wz_putF (pc := 9) (a := a) (m := m + 1) (k := k) (q := 0) (x := m) (ci := 7) (n := 0) d_64_9 rfl fl_8_9 hk (by omega) ft_7_0 rfl rfl e0 ?_
  refine wp_aload_n (pc := 12) (i := 0) d_64_12 rfl rfl ?_
  refine wp_bpN (pc := 13) (m := 6) d_64_13 (by decide) ?_
  refine wz_newI (pc := 15) (m := m + 1) (n := 6) d_64_15 h1 (by decide) ?_
  refine wz_putF (pc := 17) (a := a) (m := m + 2) (k := k + 1) (q := 1) (x := m + 1) (ci := 7) (n := 0) d_64_17 rfl fl_8_15 hk (by omega) ft_7_1 rfl rfl e1 ?_
  refine wp_aload_n (pc := 20) (i := 0) d_64_20 rfl rfl ?_
  refine wp_bpN (pc := 21) (m := 6) d_64_21 (by decide) ?_
  refine wz_newI (pc := 23) (m := m + 2) (n := 6) d_64_23 h2 (by decide) ?_
  refine wz_putF (pc := 25) (a := a) (m := m + 3) (k := k + 2) (q := 2) (x := m + 2) (ci := 7) (n := 0) d_64_25 rfl fl_8_18 hk (by omega) ft_7_2 rfl rfl e2 ?_
  refine wp_aload_n (pc := 28) (i := 0) d_64_28 rfl rfl ?_
  refine wp_bpN (pc := 29) (m := 6) d_64_29 (by decide) ?_
  refine wz_newI (pc := 31) (m := m + 3) (n := 6) d_64_31 h3 (by decide) ?_
  refine wz_putF (pc := 33) (a := a) (m := m + 4) (k := k + 3) (q := 3) (x := m + 3) (ci := 7) (n := 0) d_64_33 rfl fl_8_21 hk (by omega) ft_7_3 rfl rfl e3 ?_
  refine wp_aload_n (pc := 36) (i := 0) d_64_36 rfl rfl ?_
  refine wp_icN (pc := 37) (m := 0) d_64_37 (by decide) ?_
  refine wz_putI (pc := 38) (a := a) (m := m + 4) (ci := 7) (n := 0) d_64_38 fl_8_24 hk (by omega) ft_7_4 rfl ?_
  refine wp_aload_n (pc := 41) (i := 0) d_64_41 rfl rfl ?_
  refine wp_icN (pc := 42) (m := 0) d_64_42 (by decide) ?_
  refine wz_putI (pc := 43) (a := a) (m := m + 4) (ci := 7) (n := 0) d_64_43 fl_8_28 hk (by omega) ft_7_5 rfl ?_
  refine wp_aload_n (pc := 46) (i := 0) d_64_46 rfl rfl ?_
  refine wp_icN (pc := 47) (m := 0) d_64_47 (by decide) ?_
  refine wz_putI (pc := 48) (a := a) (m := m + 4) (ci := 7) (n := 0) d_64_48 fl_8_31 hk (by omega) ft_7_6 rfl ?_
  refine wp_aload_n (pc := 51) (i := 0) d_64_51 rfl rfl ?_
  refine wp_icN (pc := 52) (m := 0) d_64_52 (by decide) ?_
  refine wz_putI (pc := 53) (a := a) (m := m + 4) (ci := 7) (n := 0) d_64_53 fl_8_34 hk (by omega) ft_7_7 rfl ?_
  exact wp_vret (pc := 56) d_64_56 rfl rfl
set_option maxRecDepth 8000 in
theorem ci_57_2 : Sp 57 [vR 2] (KK.take 3) zI zJ (FE 0) (fun R => R = (none, KK.take 4, zI, zJ, FE 1)) := by
  refine Sp.mk2 (Nat.le_of_ble_eq_true rfl) (L2 := [some (vR 2)]) rfl ?_
  refine wp_aload_n (pc := 0) (i := 0) d_57_0 rfl rfl ?_
  refine wp_objInit (pc := 1) d_57_1 oi_7_3 (Nat.le_of_ble_eq_true rfl) ?_
  refine wp_aload_n (pc := 4) (i := 0) d_57_4 rfl rfl ?_
  refine wp_bpN (pc := 5) (m := 40) d_57_5 (by decide) ?_
  refine wz_newI (pc := 7) (m := 3) (n := 40) d_57_7 rfl (by decide) ?_
  refine wz_putF (pc := 9) (a := 2) (m := 4) (k := 0) (q := 0) (x := 3) (ci := 6) (n := 0) d_57_9 rfl fl_7_9 rfl (by decide) ft_6_0 rfl rfl rfl ?_
  refine wp_aload_n (pc := 12) (i := 0) d_57_12 rfl rfl ?_
  refine wp_icN (pc := 13) (m := 0) d_57_13 (by decide) ?_
  refine wz_putI (pc := 14) (a := 2) (m := 4) (ci := 6) (n := 0) d_57_14 fl_7_15 rfl (by decide) ft_6_1 rfl ?_
  exact wp_vret (pc := 17) d_57_17 rfl rfl
set_option maxRecDepth 8000 in
theorem ci_37_5 : Sp 37 [vR 5] (KK.take 6) zI zJ (FE 2) (fun R => R = (none, KK.take 11, zI, zJ, FE 7)) := by
  refine Sp.mk2 (Nat.le_of_ble_eq_true rfl) (L2 := [some (vR 5)]) rfl ?_
  refine wp_aload_n (pc := 0) (i := 0) d_37_0 rfl rfl ?_
  refine wp_objInit (pc := 1) d_37_1 oi_5_3 (Nat.le_of_ble_eq_true rfl) ?_
  refine wp_aload_n (pc := 4) (i := 0) d_37_4 rfl rfl ?_
  refine wp_bpN (pc := 5) (m := 6) d_37_5 (by decide) ?_
  refine wz_newI (pc := 7) (m := 6) (n := 6) d_37_7 rfl (by decide) ?_
  refine wz_putF (pc := 9) (a := 5) (m := 7) (k := 2) (q := 0) (x := 6) (ci := 4) (n := 0) d_37_9 rfl fl_5_9 rfl (by decide) ft_4_0 rfl rfl rfl ?_
  refine wp_aload_n (pc := 12) (i := 0) d_37_12 rfl rfl ?_
  refine wp_bpN (pc := 13) (m := 6) d_37_13 (by decide) ?_
  refine wz_newI (pc := 15) (m := 7) (n := 6) d_37_15 rfl (by decide) ?_
  refine wz_putF (pc := 17) (a := 5) (m := 8) (k := 3) (q := 1) (x := 7) (ci := 4) (n := 0) d_37_17 rfl fl_5_15 rfl (by decide) ft_4_1 rfl rfl rfl ?_
  refine wp_aload_n (pc := 20) (i := 0) d_37_20 rfl rfl ?_
  refine wp_bpN (pc := 21) (m := 6) d_37_21 (by decide) ?_
  refine wz_newI (pc := 23) (m := 8) (n := 6) d_37_23 rfl (by decide) ?_
  refine wz_putF (pc := 25) (a := 5) (m := 9) (k := 4) (q := 2) (x := 8) (ci := 4) (n := 0) d_37_25 rfl fl_5_18 rfl (by decide) ft_4_2 rfl rfl rfl ?_
  refine wp_aload_n (pc := 28) (i := 0) d_37_28 rfl rfl ?_
  refine wp_bpN (pc := 29) (m := 6) d_37_29 (by decide) ?_
  refine wz_newI (pc := 31) (m := 9) (n := 6) d_37_31 rfl (by decide) ?_
  refine wz_putF (pc := 33) (a := 5) (m := 10) (k := 5) (q := 3) (x := 9) (ci := 4) (n := 0) d_37_33 rfl fl_5_21 rfl (by decide) ft_4_3 rfl rfl rfl ?_
  refine wp_aload_n (pc := 36) (i := 0) d_37_36 rfl rfl ?_
  refine wp_bpN (pc := 37) (m := 6) d_37_37 (by decide) ?_
  refine wz_newI (pc := 39) (m := 10) (n := 6) d_37_39 rfl (by decide) ?_
  refine wz_putF (pc := 41) (a := 5) (m := 11) (k := 6) (q := 4) (x := 10) (ci := 4) (n := 0) d_37_41 rfl fl_5_24 rfl (by decide) ft_4_4 rfl rfl rfl ?_
  refine wp_aload_n (pc := 44) (i := 0) d_37_44 rfl rfl ?_
  refine wp_icN (pc := 45) (m := 0) d_37_45 (by decide) ?_
  refine wz_putI (pc := 46) (a := 5) (m := 11) (ci := 4) (n := 0) d_37_46 fl_5_27 rfl (by decide) ft_4_5 rfl ?_
  exact wp_vret (pc := 49) d_37_49 rfl rfl
set_option maxRecDepth 8000 in
theorem ci_30_4 : Sp 30 [vR 4] (KK.take 5) zI zJ (FE 2) (fun R => R = (none, KK.take 12, zI, zJ, FE 9)) := by
  refine Sp.mk2 (Nat.le_of_ble_eq_true rfl) (L2 := [some (vR 4)]) rfl ?_
  refine wp_aload_n (pc := 0) (i := 0) d_30_0 rfl rfl ?_
  refine wp_objInit (pc := 1) d_30_1 oi_4_3 (Nat.le_of_ble_eq_true rfl) ?_
  refine wp_aload_n (pc := 4) (i := 0) d_30_4 rfl rfl ?_
  refine wz_new (pc := 5) (m := 5) (k := 2) (ci := 4) d_30_5 rfl cl_4_9 rfl (by decide +kernel) ?_
  refine wp_dup (pc := 8) d_30_8 rfl ?_
  refine wz_callIN0 (pc := 9) d_30_9 lk_4_11 (by decide) rfl (Nat.le_of_ble_eq_true rfl) ci_37_5 ?_
  refine wz_putF (pc := 12) (a := 4) (m := 11) (k := 7) (q := 0) (x := 5) (ci := 3) (n := 0) d_30_12 rfl fl_4_12 rfl (by decide) ft_3_0 rfl rfl rfl ?_
  refine wp_aload_n (pc := 15) (i := 0) d_30_15 rfl rfl ?_
  refine wp_icN (pc := 16) (m := 4) d_30_16 (by decide) ?_
  refine wz_newI (pc := 17) (m := 11) (n := 4) d_30_17 rfl (by decide) ?_
  refine wz_putF (pc := 19) (a := 4) (m := 12) (k := 8) (q := 1) (x := 11) (ci := 3) (n := 0) d_30_19 rfl fl_4_18 rfl (by decide) ft_3_1 rfl rfl rfl ?_
  refine wp_aload_n (pc := 22) (i := 0) d_30_22 rfl rfl ?_
  refine wp_icN (pc := 23) (m := 0) d_30_23 (by decide) ?_
  refine wz_putI (pc := 24) (a := 4) (m := 12) (ci := 3) (n := 0) d_30_24 fl_4_22 rfl (by decide) ft_3_2 rfl ?_
  refine wp_aload_n (pc := 27) (i := 0) d_30_27 rfl rfl ?_
  refine wp_icN (pc := 28) (m := 0) d_30_28 (by decide) ?_
  refine wz_putI (pc := 29) (a := 4) (m := 12) (ci := 3) (n := 0) d_30_29 fl_4_26 rfl (by decide) ft_3_3 rfl ?_
  refine wp_aload_n (pc := 32) (i := 0) d_30_32 rfl rfl ?_
  refine wp_icN (pc := 33) (m := 0) d_30_33 (by decide) ?_
  refine wz_putI (pc := 34) (a := 4) (m := 12) (ci := 3) (n := 0) d_30_34 fl_4_29 rfl (by decide) ft_3_4 rfl ?_
  exact wp_vret (pc := 37) d_30_37 rfl rfl
set_option maxRecDepth 8000 in
theorem ci_37_12 : Sp 37 [vR 12] (KK.take 13) zI zJ (FE 10) (fun R => R = (none, KK.take 18, zI, zJ, FE 15)) := by
  refine Sp.mk2 (Nat.le_of_ble_eq_true rfl) (L2 := [some (vR 12)]) rfl ?_
  refine wp_aload_n (pc := 0) (i := 0) d_37_0 rfl rfl ?_
  refine wp_objInit (pc := 1) d_37_1 oi_5_3 (Nat.le_of_ble_eq_true rfl) ?_
  refine wp_aload_n (pc := 4) (i := 0) d_37_4 rfl rfl ?_
  refine wp_bpN (pc := 5) (m := 6) d_37_5 (by decide) ?_
  refine wz_newI (pc := 7) (m := 13) (n := 6) d_37_7 rfl (by decide) ?_
  refine wz_putF (pc := 9) (a := 12) (m := 14) (k := 10) (q := 0) (x := 13) (ci := 4) (n := 0) d_37_9 rfl fl_5_9 rfl (by decide) ft_4_0 rfl rfl rfl ?_
  refine wp_aload_n (pc := 12) (i := 0) d_37_12 rfl rfl ?_
  refine wp_bpN (pc := 13) (m := 6) d_37_13 (by decide) ?_
  refine wz_newI (pc := 15) (m := 14) (n := 6) d_37_15 rfl (by decide) ?_
  refine wz_putF (pc := 17) (a := 12) (m := 15) (k := 11) (q := 1) (x := 14) (ci := 4) (n := 0) d_37_17 rfl fl_5_15 rfl (by decide) ft_4_1 rfl rfl rfl ?_
  refine wp_aload_n (pc := 20) (i := 0) d_37_20 rfl rfl ?_
  refine wp_bpN (pc := 21) (m := 6) d_37_21 (by decide) ?_
  refine wz_newI (pc := 23) (m := 15) (n := 6) d_37_23 rfl (by decide) ?_
  refine wz_putF (pc := 25) (a := 12) (m := 16) (k := 12) (q := 2) (x := 15) (ci := 4) (n := 0) d_37_25 rfl fl_5_18 rfl (by decide) ft_4_2 rfl rfl rfl ?_
  refine wp_aload_n (pc := 28) (i := 0) d_37_28 rfl rfl ?_
  refine wp_bpN (pc := 29) (m := 6) d_37_29 (by decide) ?_
  refine wz_newI (pc := 31) (m := 16) (n := 6) d_37_31 rfl (by decide) ?_
  refine wz_putF (pc := 33) (a := 12) (m := 17) (k := 13) (q := 3) (x := 16) (ci := 4) (n := 0) d_37_33 rfl fl_5_21 rfl (by decide) ft_4_3 rfl rfl rfl ?_
  refine wp_aload_n (pc := 36) (i := 0) d_37_36 rfl rfl ?_
  refine wp_bpN (pc := 37) (m := 6) d_37_37 (by decide) ?_
  refine wz_newI (pc := 39) (m := 17) (n := 6) d_37_39 rfl (by decide) ?_
  refine wz_putF (pc := 41) (a := 12) (m := 18) (k := 14) (q := 4) (x := 17) (ci := 4) (n := 0) d_37_41 rfl fl_5_24 rfl (by decide) ft_4_4 rfl rfl rfl ?_
  refine wp_aload_n (pc := 44) (i := 0) d_37_44 rfl rfl ?_
  refine wp_icN (pc := 45) (m := 0) d_37_45 (by decide) ?_
  refine wz_putI (pc := 46) (a := 12) (m := 18) (ci := 4) (n := 0) d_37_46 fl_5_27 rfl (by decide) ft_4_5 rfl ?_
  exact wp_vret (pc := 49) d_37_49 rfl rfl
set_option maxRecDepth 8000 in
theorem ci_52_24 : Sp 52 [vR 24, vI (nI 12)] (KK.take 25) zI zJ (FE 21) (fun R => R = (none, KK.take 92, zI, zJ, FE 88)) := by
  refine Sp.mk2 (Nat.le_of_ble_eq_true rfl) (L2 := [some (vR 24), some (vI (nI 12)), none, none]) rfl ?_
  refine wp_aload_n (pc := 0) (i := 0) d_52_0 rfl rfl ?_
  refine wp_objInit (pc := 1) d_52_1 oi_6_1 (Nat.le_of_ble_eq_true rfl) ?_
  refine wp_aload_n (pc := 4) (i := 0) d_52_4 rfl rfl ?_
  refine wz_new (pc := 5) (m := 25) (k := 21) (ci := 7) d_52_5 rfl cl_6_7 rfl (by decide +kernel) ?_
  refine wp_dup (pc := 8) d_52_8 rfl ?_
  refine wz_callIN0 (pc := 9) d_52_9 lk_6_9 (by decide) rfl (Nat.le_of_ble_eq_true rfl) (ci_W (a := 25) (m := 26) (k := 21) (by decide) rfl rfl rfl rfl rfl rfl rfl rfl rfl) ?_
  refine wz_putF (pc := 12) (a := 24) (m := 30) (k := 25) (q := 2) (x := 25) (ci := 5) (n := 0) d_52_12 rfl fl_6_10 rfl (by decide) ft_5_2 rfl rfl rfl ?_
  refine wp_icN (pc := 15) (m := 0) d_52_15 (by decide) ?_
  refine wp_iload_n (pc := 16) (i := 1) d_52_16 rfl rfl ?_
  refine wq_mmaxN (pc := 17) d_52_17 mm_6_16 (Nat.le_of_ble_eq_true rfl) (by decide) (by decide) ?_
  refine (show Wp _ _ _ _ _ [vI (nI 12)] _ _ _ _ from ?_)
  refine wq_istore_n (pc := 20) (L2 := [some (vR 24), some (vI (nI 12)), some (vI (nI 12)), none]) (i := 2) d_52_20 rfl (Nat.le_of_ble_eq_true rfl) rfl rfl ?_
  refine wp_aload_n (pc := 21) (i := 0) d_52_21 rfl rfl ?_
  refine wp_iload_n (pc := 22) (i := 2) d_52_22 rfl rfl ?_
  refine wz_newA (pc := 23) (m := 30) (k := 26) (n := 12) d_52_23 cl_6_7 rfl (by decide) (by decide +kernel) ?_
  refine wz_putF (pc := 26) (a := 24) (m := 31) (k := 26) (q := 0) (x := 30) (ci := 5) (n := 0) d_52_26 rfl fl_6_22 rfl (by decide) ft_5_0 rfl rfl rfl ?_
  refine wp_aload_n (pc := 29) (i := 0) d_52_29 rfl rfl ?_
  refine wp_iload_n (pc := 30) (i := 2) d_52_30 rfl rfl ?_
  refine wz_newZ (pc := 31) (m := 31) (n := 12) d_52_31 rfl (by decide) ?_
  refine wz_putF (pc := 33) (a := 24) (m := 32) (k := 27) (q := 1) (x := 31) (ci := 5) (n := 0) d_52_33 rfl fl_6_26 rfl (by decide) ft_5_1 rfl rfl rfl ?_
  refine wp_icN (pc := 36) (m := 0) d_52_36 (by decide) ?_
  refine wq_istore_n (pc := 37) (L2 := [some (vR 24), some (vI (nI 12)), some (vI (nI 12)), some (vI (nI 0))]) (i := 3) d_52_37 rfl (Nat.le_of_ble_eq_true rfl) rfl rfl ?_
  refine wp_iload_n (pc := 38) (i := 3) d_52_38 rfl rfl ?_
  refine wp_iload_n (pc := 39) (i := 2) d_52_39 rfl rfl ?_
  refine wp_icmpN_ge (pc := 40) (tgt := 62) d_52_40 (by decide) (by decide) (by decide) (fun h => absurd h (by decide)) (fun _ => ?_)
  refine wp_aload_n (pc := 43) (i := 0) d_52_43 rfl rfl ?_
  refine wz_gA (pc := 44) (a := 24) (m := 32) (ci := 5) (n := 0) (b := 30) d_52_44 fl_6_22 rfl (by decide) ft_5_0 (by decide +kernel) ?_
  refine wp_iload_n (pc := 47) (i := 3) d_52_47 rfl rfl ?_
  refine wz_new (pc := 48) (m := 32) (k := 28) (ci := 7) d_52_48 rfl cl_6_7 rfl (by decide +kernel) ?_
  refine wp_dup (pc := 51) d_52_51 rfl ?_
  refine wz_callIN0 (pc := 52) d_52_52 lk_6_9 (by decide) rfl (Nat.le_of_ble_eq_true rfl) (ci_W (a := 32) (m := 33) (k := 28) (by decide) rfl rfl rfl rfl rfl rfl rfl rfl rfl) ?_
  refine wz_aast (pc := 55) (a := 30) (m := 37) (k := 32) (j := 0) (x := 32) (n := 12) (n2 := 0) d_52_55 rfl (by decide) (by decide) (by decide) rfl (by decide) rfl ?_
  refine wq_iincN (pc := 56) (L2 := [some (vR 24), some (vI (nI 12)), some (vI (nI 12)), some (vI (nI 1))]) d_52_56 rfl (b := 1) (by decide) rfl rfl ?_
  refine wp_goto (pc := 59) (tgt := 38) d_52_59 (by decide) ?_
  refine wp_iload_n (pc := 38) (i := 3) d_52_38 rfl rfl ?_
  refine wp_iload_n (pc := 39) (i := 2) d_52_39 rfl rfl ?_
  refine wp_icmpN_ge (pc := 40) (tgt := 62) d_52_40 (by decide) (by decide) (by decide) (fun h => absurd h (by decide)) (fun _ => ?_)
  refine wp_aload_n (pc := 43) (i := 0) d_52_43 rfl rfl ?_
  refine wz_gA (pc := 44) (a := 24) (m := 37) (ci := 5) (n := 0) (b := 30) d_52_44 fl_6_22 rfl (by decide) ft_5_0 (by decide +kernel) ?_
  refine wp_iload_n (pc := 47) (i := 3) d_52_47 rfl rfl ?_
  refine wz_new (pc := 48) (m := 37) (k := 33) (ci := 7) d_52_48 rfl cl_6_7 rfl (by decide +kernel) ?_
  refine wp_dup (pc := 51) d_52_51 rfl ?_
  refine wz_callIN0 (pc := 52) d_52_52 lk_6_9 (by decide) rfl (Nat.le_of_ble_eq_true rfl) (ci_W (a := 37) (m := 38) (k := 33) (by decide) rfl rfl rfl rfl rfl rfl rfl rfl rfl) ?_
  refine wz_aast (pc := 55) (a := 30) (m := 42) (k := 37) (j := 1) (x := 37) (n := 12) (n2 := 0) d_52_55 rfl (by decide) (by decide) (by decide) rfl (by decide) rfl ?_
  refine wq_iincN (pc := 56) (L2 := [some (vR 24), some (vI (nI 12)), some (vI (nI 12)), some (vI (nI 2))]) d_52_56 rfl (b := 1) (by decide) rfl rfl ?_
  refine wp_goto (pc := 59) (tgt := 38) d_52_59 (by decide) ?_
  refine wp_iload_n (pc := 38) (i := 3) d_52_38 rfl rfl ?_
  refine wp_iload_n (pc := 39) (i := 2) d_52_39 rfl rfl ?_
  refine wp_icmpN_ge (pc := 40) (tgt := 62) d_52_40 (by decide) (by decide) (by decide) (fun h => absurd h (by decide)) (fun _ => ?_)
  refine wp_aload_n (pc := 43) (i := 0) d_52_43 rfl rfl ?_
  refine wz_gA (pc := 44) (a := 24) (m := 42) (ci := 5) (n := 0) (b := 30) d_52_44 fl_6_22 rfl (by decide) ft_5_0 (by decide +kernel) ?_
  refine wp_iload_n (pc := 47) (i := 3) d_52_47 rfl rfl ?_
  refine wz_new (pc := 48) (m := 42) (k := 38) (ci := 7) d_52_48 rfl cl_6_7 rfl (by decide +kernel) ?_
  refine wp_dup (pc := 51) d_52_51 rfl ?_
  refine wz_callIN0 (pc := 52) d_52_52 lk_6_9 (by decide) rfl (Nat.le_of_ble_eq_true rfl) (ci_W (a := 42) (m := 43) (k := 38) (by decide) rfl rfl rfl rfl rfl rfl rfl rfl rfl) ?_
  refine wz_aast (pc := 55) (a := 30) (m := 47) (k := 42) (j := 2) (x := 42) (n := 12) (n2 := 0) d_52_55 rfl (by decide) (by decide) (by decide) rfl (by decide) rfl ?_
  refine wq_iincN (pc := 56) (L2 := [some (vR 24), some (vI (nI 12)), some (vI (nI 12)), some (vI (nI 3))]) d_52_56 rfl (b := 1) (by decide) rfl rfl ?_
  refine wp_goto (pc := 59) (tgt := 38) d_52_59 (by decide) ?_
  refine wp_iload_n (pc := 38) (i := 3) d_52_38 rfl rfl ?_
  refine wp_iload_n (pc := 39) (i := 2) d_52_39 rfl rfl ?_
  refine wp_icmpN_ge (pc := 40) (tgt := 62) d_52_40 (by decide) (by decide) (by decide) (fun h => absurd h (by decide)) (fun _ => ?_)
  refine wp_aload_n (pc := 43) (i := 0) d_52_43 rfl rfl ?_
  refine wz_gA (pc := 44) (a := 24) (m := 47) (ci := 5) (n := 0) (b := 30) d_52_44 fl_6_22 rfl (by decide) ft_5_0 (by decide +kernel) ?_
  refine wp_iload_n (pc := 47) (i := 3) d_52_47 rfl rfl ?_
  refine wz_new (pc := 48) (m := 47) (k := 43) (ci := 7) d_52_48 rfl cl_6_7 rfl (by decide +kernel) ?_
  refine wp_dup (pc := 51) d_52_51 rfl ?_
  refine wz_callIN0 (pc := 52) d_52_52 lk_6_9 (by decide) rfl (Nat.le_of_ble_eq_true rfl) (ci_W (a := 47) (m := 48) (k := 43) (by decide) rfl rfl rfl rfl rfl rfl rfl rfl rfl) ?_
  refine wz_aast (pc := 55) (a := 30) (m := 52) (k := 47) (j := 3) (x := 47) (n := 12) (n2 := 0) d_52_55 rfl (by decide) (by decide) (by decide) rfl (by decide) rfl ?_
  refine wq_iincN (pc := 56) (L2 := [some (vR 24), some (vI (nI 12)), some (vI (nI 12)), some (vI (nI 4))]) d_52_56 rfl (b := 1) (by decide) rfl rfl ?_
  refine wp_goto (pc := 59) (tgt := 38) d_52_59 (by decide) ?_
  refine wp_iload_n (pc := 38) (i := 3) d_52_38 rfl rfl ?_
  refine wp_iload_n (pc := 39) (i := 2) d_52_39 rfl rfl ?_
  refine wp_icmpN_ge (pc := 40) (tgt := 62) d_52_40 (by decide) (by decide) (by decide) (fun h => absurd h (by decide)) (fun _ => ?_)
  refine wp_aload_n (pc := 43) (i := 0) d_52_43 rfl rfl ?_
  refine wz_gA (pc := 44) (a := 24) (m := 52) (ci := 5) (n := 0) (b := 30) d_52_44 fl_6_22 rfl (by decide) ft_5_0 (by decide +kernel) ?_
  refine wp_iload_n (pc := 47) (i := 3) d_52_47 rfl rfl ?_
  refine wz_new (pc := 48) (m := 52) (k := 48) (ci := 7) d_52_48 rfl cl_6_7 rfl (by decide +kernel) ?_
  refine wp_dup (pc := 51) d_52_51 rfl ?_
  refine wz_callIN0 (pc := 52) d_52_52 lk_6_9 (by decide) rfl (Nat.le_of_ble_eq_true rfl) (ci_W (a := 52) (m := 53) (k := 48) (by decide) rfl rfl rfl rfl rfl rfl rfl rfl rfl) ?_
  refine wz_aast (pc := 55) (a := 30) (m := 57) (k := 52) (j := 4) (x := 52) (n := 12) (n2 := 0) d_52_55 rfl (by decide) (by decide) (by decide) rfl (by decide) rfl ?_
  refine wq_iincN (pc := 56) (L2 := [some (vR 24), some (vI (nI 12)), some (vI (nI 12)), some (vI (nI 5))]) d_52_56 rfl (b := 1) (by decide) rfl rfl ?_
  refine wp_goto (pc := 59) (tgt := 38) d_52_59 (by decide) ?_
  refine wp_iload_n (pc := 38) (i := 3) d_52_38 rfl rfl ?_
  refine wp_iload_n (pc := 39) (i := 2) d_52_39 rfl rfl ?_
  refine wp_icmpN_ge (pc := 40) (tgt := 62) d_52_40 (by decide) (by decide) (by decide) (fun h => absurd h (by decide)) (fun _ => ?_)
  refine wp_aload_n (pc := 43) (i := 0) d_52_43 rfl rfl ?_
  refine wz_gA (pc := 44) (a := 24) (m := 57) (ci := 5) (n := 0) (b := 30) d_52_44 fl_6_22 rfl (by decide) ft_5_0 (by decide +kernel) ?_
  refine wp_iload_n (pc := 47) (i := 3) d_52_47 rfl rfl ?_
  refine wz_new (pc := 48) (m := 57) (k := 53) (ci := 7) d_52_48 rfl cl_6_7 rfl (by decide +kernel) ?_
  refine wp_dup (pc := 51) d_52_51 rfl ?_
  refine wz_callIN0 (pc := 52) d_52_52 lk_6_9 (by decide) rfl (Nat.le_of_ble_eq_true rfl) (ci_W (a := 57) (m := 58) (k := 53) (by decide) rfl rfl rfl rfl rfl rfl rfl rfl rfl) ?_
  refine wz_aast (pc := 55) (a := 30) (m := 62) (k := 57) (j := 5) (x := 57) (n := 12) (n2 := 0) d_52_55 rfl (by decide) (by decide) (by decide) rfl (by decide) rfl ?_
  refine wq_iincN (pc := 56) (L2 := [some (vR 24), some (vI (nI 12)), some (vI (nI 12)), some (vI (nI 6))]) d_52_56 rfl (b := 1) (by decide) rfl rfl ?_
  refine wp_goto (pc := 59) (tgt := 38) d_52_59 (by decide) ?_
  refine wp_iload_n (pc := 38) (i := 3) d_52_38 rfl rfl ?_
  refine wp_iload_n (pc := 39) (i := 2) d_52_39 rfl rfl ?_
  refine wp_icmpN_ge (pc := 40) (tgt := 62) d_52_40 (by decide) (by decide) (by decide) (fun h => absurd h (by decide)) (fun _ => ?_)
  refine wp_aload_n (pc := 43) (i := 0) d_52_43 rfl rfl ?_
  refine wz_gA (pc := 44) (a := 24) (m := 62) (ci := 5) (n := 0) (b := 30) d_52_44 fl_6_22 rfl (by decide) ft_5_0 (by decide +kernel) ?_
  refine wp_iload_n (pc := 47) (i := 3) d_52_47 rfl rfl ?_
  refine wz_new (pc := 48) (m := 62) (k := 58) (ci := 7) d_52_48 rfl cl_6_7 rfl (by decide +kernel) ?_
  refine wp_dup (pc := 51) d_52_51 rfl ?_
  refine wz_callIN0 (pc := 52) d_52_52 lk_6_9 (by decide) rfl (Nat.le_of_ble_eq_true rfl) (ci_W (a := 62) (m := 63) (k := 58) (by decide) rfl rfl rfl rfl rfl rfl rfl rfl rfl) ?_
  refine wz_aast (pc := 55) (a := 30) (m := 67) (k := 62) (j := 6) (x := 62) (n := 12) (n2 := 0) d_52_55 rfl (by decide) (by decide) (by decide) rfl (by decide) rfl ?_
  refine wq_iincN (pc := 56) (L2 := [some (vR 24), some (vI (nI 12)), some (vI (nI 12)), some (vI (nI 7))]) d_52_56 rfl (b := 1) (by decide) rfl rfl ?_
  refine wp_goto (pc := 59) (tgt := 38) d_52_59 (by decide) ?_
  refine wp_iload_n (pc := 38) (i := 3) d_52_38 rfl rfl ?_
  refine wp_iload_n (pc := 39) (i := 2) d_52_39 rfl rfl ?_
  refine wp_icmpN_ge (pc := 40) (tgt := 62) d_52_40 (by decide) (by decide) (by decide) (fun h => absurd h (by decide)) (fun _ => ?_)
  refine wp_aload_n (pc := 43) (i := 0) d_52_43 rfl rfl ?_
  refine wz_gA (pc := 44) (a := 24) (m := 67) (ci := 5) (n := 0) (b := 30) d_52_44 fl_6_22 rfl (by decide) ft_5_0 (by decide +kernel) ?_
  refine wp_iload_n (pc := 47) (i := 3) d_52_47 rfl rfl ?_
  refine wz_new (pc := 48) (m := 67) (k := 63) (ci := 7) d_52_48 rfl cl_6_7 rfl (by decide +kernel) ?_
  refine wp_dup (pc := 51) d_52_51 rfl ?_
  refine wz_callIN0 (pc := 52) d_52_52 lk_6_9 (by decide) rfl (Nat.le_of_ble_eq_true rfl) (ci_W (a := 67) (m := 68) (k := 63) (by decide) rfl rfl rfl rfl rfl rfl rfl rfl rfl) ?_
  refine wz_aast (pc := 55) (a := 30) (m := 72) (k := 67) (j := 7) (x := 67) (n := 12) (n2 := 0) d_52_55 rfl (by decide) (by decide) (by decide) rfl (by decide) rfl ?_
  refine wq_iincN (pc := 56) (L2 := [some (vR 24), some (vI (nI 12)), some (vI (nI 12)), some (vI (nI 8))]) d_52_56 rfl (b := 1) (by decide) rfl rfl ?_
  refine wp_goto (pc := 59) (tgt := 38) d_52_59 (by decide) ?_
  refine wp_iload_n (pc := 38) (i := 3) d_52_38 rfl rfl ?_
  refine wp_iload_n (pc := 39) (i := 2) d_52_39 rfl rfl ?_
  refine wp_icmpN_ge (pc := 40) (tgt := 62) d_52_40 (by decide) (by decide) (by decide) (fun h => absurd h (by decide)) (fun _ => ?_)
  refine wp_aload_n (pc := 43) (i := 0) d_52_43 rfl rfl ?_
  refine wz_gA (pc := 44) (a := 24) (m := 72) (ci := 5) (n := 0) (b := 30) d_52_44 fl_6_22 rfl (by decide) ft_5_0 (by decide +kernel) ?_
  refine wp_iload_n (pc := 47) (i := 3) d_52_47 rfl rfl ?_
  refine wz_new (pc := 48) (m := 72) (k := 68) (ci := 7) d_52_48 rfl cl_6_7 rfl (by decide +kernel) ?_
  refine wp_dup (pc := 51) d_52_51 rfl ?_
  refine wz_callIN0 (pc := 52) d_52_52 lk_6_9 (by decide) rfl (Nat.le_of_ble_eq_true rfl) (ci_W (a := 72) (m := 73) (k := 68) (by decide) rfl rfl rfl rfl rfl rfl rfl rfl rfl) ?_
  refine wz_aast (pc := 55) (a := 30) (m := 77) (k := 72) (j := 8) (x := 72) (n := 12) (n2 := 0) d_52_55 rfl (by decide) (by decide) (by decide) rfl (by decide) rfl ?_
  refine wq_iincN (pc := 56) (L2 := [some (vR 24), some (vI (nI 12)), some (vI (nI 12)), some (vI (nI 9))]) d_52_56 rfl (b := 1) (by decide) rfl rfl ?_
  refine wp_goto (pc := 59) (tgt := 38) d_52_59 (by decide) ?_
  refine wp_iload_n (pc := 38) (i := 3) d_52_38 rfl rfl ?_
  refine wp_iload_n (pc := 39) (i := 2) d_52_39 rfl rfl ?_
  refine wp_icmpN_ge (pc := 40) (tgt := 62) d_52_40 (by decide) (by decide) (by decide) (fun h => absurd h (by decide)) (fun _ => ?_)
  refine wp_aload_n (pc := 43) (i := 0) d_52_43 rfl rfl ?_
  refine wz_gA (pc := 44) (a := 24) (m := 77) (ci := 5) (n := 0) (b := 30) d_52_44 fl_6_22 rfl (by decide) ft_5_0 (by decide +kernel) ?_
  refine wp_iload_n (pc := 47) (i := 3) d_52_47 rfl rfl ?_
  refine wz_new (pc := 48) (m := 77) (k := 73) (ci := 7) d_52_48 rfl cl_6_7 rfl (by decide +kernel) ?_
  refine wp_dup (pc := 51) d_52_51 rfl ?_
  refine wz_callIN0 (pc := 52) d_52_52 lk_6_9 (by decide) rfl (Nat.le_of_ble_eq_true rfl) (ci_W (a := 77) (m := 78) (k := 73) (by decide) rfl rfl rfl rfl rfl rfl rfl rfl rfl) ?_
  refine wz_aast (pc := 55) (a := 30) (m := 82) (k := 77) (j := 9) (x := 77) (n := 12) (n2 := 0) d_52_55 rfl (by decide) (by decide) (by decide) rfl (by decide) rfl ?_
  refine wq_iincN (pc := 56) (L2 := [some (vR 24), some (vI (nI 12)), some (vI (nI 12)), some (vI (nI 10))]) d_52_56 rfl (b := 1) (by decide) rfl rfl ?_
  refine wp_goto (pc := 59) (tgt := 38) d_52_59 (by decide) ?_
  refine wp_iload_n (pc := 38) (i := 3) d_52_38 rfl rfl ?_
  refine wp_iload_n (pc := 39) (i := 2) d_52_39 rfl rfl ?_
  refine wp_icmpN_ge (pc := 40) (tgt := 62) d_52_40 (by decide) (by decide) (by decide) (fun h => absurd h (by decide)) (fun _ => ?_)
  refine wp_aload_n (pc := 43) (i := 0) d_52_43 rfl rfl ?_
  refine wz_gA (pc := 44) (a := 24) (m := 82) (ci := 5) (n := 0) (b := 30) d_52_44 fl_6_22 rfl (by decide) ft_5_0 (by decide +kernel) ?_
  refine wp_iload_n (pc := 47) (i := 3) d_52_47 rfl rfl ?_
  refine wz_new (pc := 48) (m := 82) (k := 78) (ci := 7) d_52_48 rfl cl_6_7 rfl (by decide +kernel) ?_
  refine wp_dup (pc := 51) d_52_51 rfl ?_
  refine wz_callIN0 (pc := 52) d_52_52 lk_6_9 (by decide) rfl (Nat.le_of_ble_eq_true rfl) (ci_W (a := 82) (m := 83) (k := 78) (by decide) rfl rfl rfl rfl rfl rfl rfl rfl rfl) ?_
  refine wz_aast (pc := 55) (a := 30) (m := 87) (k := 82) (j := 10) (x := 82) (n := 12) (n2 := 0) d_52_55 rfl (by decide) (by decide) (by decide) rfl (by decide) rfl ?_
  refine wq_iincN (pc := 56) (L2 := [some (vR 24), some (vI (nI 12)), some (vI (nI 12)), some (vI (nI 11))]) d_52_56 rfl (b := 1) (by decide) rfl rfl ?_
  refine wp_goto (pc := 59) (tgt := 38) d_52_59 (by decide) ?_
  refine wp_iload_n (pc := 38) (i := 3) d_52_38 rfl rfl ?_
  refine wp_iload_n (pc := 39) (i := 2) d_52_39 rfl rfl ?_
  refine wp_icmpN_ge (pc := 40) (tgt := 62) d_52_40 (by decide) (by decide) (by decide) (fun h => absurd h (by decide)) (fun _ => ?_)
  refine wp_aload_n (pc := 43) (i := 0) d_52_43 rfl rfl ?_
  refine wz_gA (pc := 44) (a := 24) (m := 87) (ci := 5) (n := 0) (b := 30) d_52_44 fl_6_22 rfl (by decide) ft_5_0 (by decide +kernel) ?_
  refine wp_iload_n (pc := 47) (i := 3) d_52_47 rfl rfl ?_
  refine wz_new (pc := 48) (m := 87) (k := 83) (ci := 7) d_52_48 rfl cl_6_7 rfl (by decide +kernel) ?_
  refine wp_dup (pc := 51) d_52_51 rfl ?_
  refine wz_callIN0 (pc := 52) d_52_52 lk_6_9 (by decide) rfl (Nat.le_of_ble_eq_true rfl) (ci_W (a := 87) (m := 88) (k := 83) (by decide) rfl rfl rfl rfl rfl rfl rfl rfl rfl) ?_
  refine wz_aast (pc := 55) (a := 30) (m := 92) (k := 87) (j := 11) (x := 87) (n := 12) (n2 := 0) d_52_55 rfl (by decide) (by decide) (by decide) rfl (by decide) rfl ?_
  refine wq_iincN (pc := 56) (L2 := [some (vR 24), some (vI (nI 12)), some (vI (nI 12)), some (vI (nI 12))]) d_52_56 rfl (b := 1) (by decide) rfl rfl ?_
  refine wp_goto (pc := 59) (tgt := 38) d_52_59 (by decide) ?_
  refine wp_iload_n (pc := 38) (i := 3) d_52_38 rfl rfl ?_
  refine wp_iload_n (pc := 39) (i := 2) d_52_39 rfl rfl ?_
  refine wp_icmpN_ge (pc := 40) (tgt := 62) d_52_40 (by decide) (by decide) (by decide) (fun _ => ?_) (fun h => absurd h (by decide))
  exact wp_vret (pc := 62) d_52_62 rfl rfl
set_option maxRecDepth 8000 in
theorem ci_1_23 : Sp 1 [vR 23] (KK.take 24) zI zJ (FE 21) (fun R => R = (none, KK.take 92, zI, zJ, FE 89)) := by
  refine Sp.mk2 (Nat.le_of_ble_eq_true rfl) (L2 := [some (vR 23)]) rfl ?_
  refine wp_aload_n (pc := 0) (i := 0) d_1_0 rfl rfl ?_
  refine wp_objInit (pc := 1) d_1_1 oi_1_3 (Nat.le_of_ble_eq_true rfl) ?_
  refine wp_aload_n (pc := 4) (i := 0) d_1_4 rfl rfl ?_
  refine wz_new (pc := 5) (m := 24) (k := 21) (ci := 5) d_1_5 rfl cl_1_9 rfl (by decide +kernel) ?_
  refine wp_dup (pc := 8) d_1_8 rfl ?_
  refine wp_bpN (pc := 9) (m := 12) d_1_9 (by decide) ?_
  refine wz_callI1 (pc := 11) d_1_11 lk_1_11 (by decide) rfl (Nat.le_of_ble_eq_true rfl) ci_52_24 ?_
  refine wz_putF (pc := 14) (a := 23) (m := 92) (k := 88) (q := 0) (x := 24) (ci := 0) (n := 0) d_1_14 rfl fl_1_14 rfl (by decide) ft_0_0 rfl rfl rfl ?_
  refine wp_aload_n (pc := 17) (i := 0) d_1_17 rfl rfl ?_
  refine wp_icN (pc := 18) (m := 0) d_1_18 (by decide) ?_
  refine wz_putI (pc := 19) (a := 23) (m := 92) (ci := 0) (n := 0) d_1_19 fl_1_20 rfl (by decide) ft_0_1 rfl ?_
  refine wp_aload_n (pc := 22) (i := 0) d_1_22 rfl rfl ?_
  refine wp_icN (pc := 23) (m := 0) d_1_23 (by decide) ?_
  refine wz_putI (pc := 24) (a := 23) (m := 92) (ci := 0) (n := 0) d_1_24 fl_1_24 rfl (by decide) ft_0_2 rfl ?_
  exact wp_vret (pc := 27) d_1_27 rfl rfl
set_option maxRecDepth 8000 in
theorem ci_52_98 : Sp 52 [vR 98, vI (nI 9)] (KK.take 99) zI zJ (FE 95) (fun R => R = (none, KK.take 151, zI, zJ, FE 147)) := by
  refine Sp.mk2 (Nat.le_of_ble_eq_true rfl) (L2 := [some (vR 98), some (vI (nI 9)), none, none]) rfl ?_
  refine wp_aload_n (pc := 0) (i := 0) d_52_0 rfl rfl ?_
  refine wp_objInit (pc := 1) d_52_1 oi_6_1 (Nat.le_of_ble_eq_true rfl) ?_
  refine wp_aload_n (pc := 4) (i := 0) d_52_4 rfl rfl ?_
  refine wz_new (pc := 5) (m := 99) (k := 95) (ci := 7) d_52_5 rfl cl_6_7 rfl (by decide +kernel) ?_
  refine wp_dup (pc := 8) d_52_8 rfl ?_
  refine wz_callIN0 (pc := 9) d_52_9 lk_6_9 (by decide) rfl (Nat.le_of_ble_eq_true rfl) (ci_W (a := 99) (m := 100) (k := 95) (by decide) rfl rfl rfl rfl rfl rfl rfl rfl rfl) ?_
  refine wz_putF (pc := 12) (a := 98) (m := 104) (k := 99) (q := 2) (x := 99) (ci := 5) (n := 0) d_52_12 rfl fl_6_10 rfl (by decide) ft_5_2 rfl rfl rfl ?_
  refine wp_icN (pc := 15) (m := 0) d_52_15 (by decide) ?_
  refine wp_iload_n (pc := 16) (i := 1) d_52_16 rfl rfl ?_
  refine wq_mmaxN (pc := 17) d_52_17 mm_6_16 (Nat.le_of_ble_eq_true rfl) (by decide) (by decide) ?_
  refine (show Wp _ _ _ _ _ [vI (nI 9)] _ _ _ _ from ?_)
  refine wq_istore_n (pc := 20) (L2 := [some (vR 98), some (vI (nI 9)), some (vI (nI 9)), none]) (i := 2) d_52_20 rfl (Nat.le_of_ble_eq_true rfl) rfl rfl ?_
  refine wp_aload_n (pc := 21) (i := 0) d_52_21 rfl rfl ?_
  refine wp_iload_n (pc := 22) (i := 2) d_52_22 rfl rfl ?_
  refine wz_newA (pc := 23) (m := 104) (k := 100) (n := 9) d_52_23 cl_6_7 rfl (by decide) (by decide +kernel) ?_
  refine wz_putF (pc := 26) (a := 98) (m := 105) (k := 100) (q := 0) (x := 104) (ci := 5) (n := 0) d_52_26 rfl fl_6_22 rfl (by decide) ft_5_0 rfl rfl rfl ?_
  refine wp_aload_n (pc := 29) (i := 0) d_52_29 rfl rfl ?_
  refine wp_iload_n (pc := 30) (i := 2) d_52_30 rfl rfl ?_
  refine wz_newZ (pc := 31) (m := 105) (n := 9) d_52_31 rfl (by decide) ?_
  refine wz_putF (pc := 33) (a := 98) (m := 106) (k := 101) (q := 1) (x := 105) (ci := 5) (n := 0) d_52_33 rfl fl_6_26 rfl (by decide) ft_5_1 rfl rfl rfl ?_
  refine wp_icN (pc := 36) (m := 0) d_52_36 (by decide) ?_
  refine wq_istore_n (pc := 37) (L2 := [some (vR 98), some (vI (nI 9)), some (vI (nI 9)), some (vI (nI 0))]) (i := 3) d_52_37 rfl (Nat.le_of_ble_eq_true rfl) rfl rfl ?_
  refine wp_iload_n (pc := 38) (i := 3) d_52_38 rfl rfl ?_
  refine wp_iload_n (pc := 39) (i := 2) d_52_39 rfl rfl ?_
  refine wp_icmpN_ge (pc := 40) (tgt := 62) d_52_40 (by decide) (by decide) (by decide) (fun h => absurd h (by decide)) (fun _ => ?_)
  refine wp_aload_n (pc := 43) (i := 0) d_52_43 rfl rfl ?_
  refine wz_gA (pc := 44) (a := 98) (m := 106) (ci := 5) (n := 0) (b := 104) d_52_44 fl_6_22 rfl (by decide) ft_5_0 (by decide +kernel) ?_
  refine wp_iload_n (pc := 47) (i := 3) d_52_47 rfl rfl ?_
  refine wz_new (pc := 48) (m := 106) (k := 102) (ci := 7) d_52_48 rfl cl_6_7 rfl (by decide +kernel) ?_
  refine wp_dup (pc := 51) d_52_51 rfl ?_
  refine wz_callIN0 (pc := 52) d_52_52 lk_6_9 (by decide) rfl (Nat.le_of_ble_eq_true rfl) (ci_W (a := 106) (m := 107) (k := 102) (by decide) rfl rfl rfl rfl rfl rfl rfl rfl rfl) ?_
  refine wz_aast (pc := 55) (a := 104) (m := 111) (k := 106) (j := 0) (x := 106) (n := 9) (n2 := 0) d_52_55 rfl (by decide) (by decide) (by decide) rfl (by decide) rfl ?_
  refine wq_iincN (pc := 56) (L2 := [some (vR 98), some (vI (nI 9)), some (vI (nI 9)), some (vI (nI 1))]) d_52_56 rfl (b := 1) (by decide) rfl rfl ?_
  refine wp_goto (pc := 59) (tgt := 38) d_52_59 (by decide) ?_
  refine wp_iload_n (pc := 38) (i := 3) d_52_38 rfl rfl ?_
  refine wp_iload_n (pc := 39) (i := 2) d_52_39 rfl rfl ?_
  refine wp_icmpN_ge (pc := 40) (tgt := 62) d_52_40 (by decide) (by decide) (by decide) (fun h => absurd h (by decide)) (fun _ => ?_)
  refine wp_aload_n (pc := 43) (i := 0) d_52_43 rfl rfl ?_
  refine wz_gA (pc := 44) (a := 98) (m := 111) (ci := 5) (n := 0) (b := 104) d_52_44 fl_6_22 rfl (by decide) ft_5_0 (by decide +kernel) ?_
  refine wp_iload_n (pc := 47) (i := 3) d_52_47 rfl rfl ?_
  refine wz_new (pc := 48) (m := 111) (k := 107) (ci := 7) d_52_48 rfl cl_6_7 rfl (by decide +kernel) ?_
  refine wp_dup (pc := 51) d_52_51 rfl ?_
  refine wz_callIN0 (pc := 52) d_52_52 lk_6_9 (by decide) rfl (Nat.le_of_ble_eq_true rfl) (ci_W (a := 111) (m := 112) (k := 107) (by decide) rfl rfl rfl rfl rfl rfl rfl rfl rfl) ?_
  refine wz_aast (pc := 55) (a := 104) (m := 116) (k := 111) (j := 1) (x := 111) (n := 9) (n2 := 0) d_52_55 rfl (by decide) (by decide) (by decide) rfl (by decide) rfl ?_
  refine wq_iincN (pc := 56) (L2 := [some (vR 98), some (vI (nI 9)), some (vI (nI 9)), some (vI (nI 2))]) d_52_56 rfl (b := 1) (by decide) rfl rfl ?_
  refine wp_goto (pc := 59) (tgt := 38) d_52_59 (by decide) ?_
  refine wp_iload_n (pc := 38) (i := 3) d_52_38 rfl rfl ?_
  refine wp_iload_n (pc := 39) (i := 2) d_52_39 rfl rfl ?_
  refine wp_icmpN_ge (pc := 40) (tgt := 62) d_52_40 (by decide) (by decide) (by decide) (fun h => absurd h (by decide)) (fun _ => ?_)
  refine wp_aload_n (pc := 43) (i := 0) d_52_43 rfl rfl ?_
  refine wz_gA (pc := 44) (a := 98) (m := 116) (ci := 5) (n := 0) (b := 104) d_52_44 fl_6_22 rfl (by decide) ft_5_0 (by decide +kernel) ?_
  refine wp_iload_n (pc := 47) (i := 3) d_52_47 rfl rfl ?_
  refine wz_new (pc := 48) (m := 116) (k := 112) (ci := 7) d_52_48 rfl cl_6_7 rfl (by decide +kernel) ?_
  refine wp_dup (pc := 51) d_52_51 rfl ?_
  refine wz_callIN0 (pc := 52) d_52_52 lk_6_9 (by decide) rfl (Nat.le_of_ble_eq_true rfl) (ci_W (a := 116) (m := 117) (k := 112) (by decide) rfl rfl rfl rfl rfl rfl rfl rfl rfl) ?_
  refine wz_aast (pc := 55) (a := 104) (m := 121) (k := 116) (j := 2) (x := 116) (n := 9) (n2 := 0) d_52_55 rfl (by decide) (by decide) (by decide) rfl (by decide) rfl ?_
  refine wq_iincN (pc := 56) (L2 := [some (vR 98), some (vI (nI 9)), some (vI (nI 9)), some (vI (nI 3))]) d_52_56 rfl (b := 1) (by decide) rfl rfl ?_
  refine wp_goto (pc := 59) (tgt := 38) d_52_59 (by decide) ?_
  refine wp_iload_n (pc := 38) (i := 3) d_52_38 rfl rfl ?_
  refine wp_iload_n (pc := 39) (i := 2) d_52_39 rfl rfl ?_
  refine wp_icmpN_ge (pc := 40) (tgt := 62) d_52_40 (by decide) (by decide) (by decide) (fun h => absurd h (by decide)) (fun _ => ?_)
  refine wp_aload_n (pc := 43) (i := 0) d_52_43 rfl rfl ?_
  refine wz_gA (pc := 44) (a := 98) (m := 121) (ci := 5) (n := 0) (b := 104) d_52_44 fl_6_22 rfl (by decide) ft_5_0 (by decide +kernel) ?_
  refine wp_iload_n (pc := 47) (i := 3) d_52_47 rfl rfl ?_
  refine wz_new (pc := 48) (m := 121) (k := 117) (ci := 7) d_52_48 rfl cl_6_7 rfl (by decide +kernel) ?_
  refine wp_dup (pc := 51) d_52_51 rfl ?_
  refine wz_callIN0 (pc := 52) d_52_52 lk_6_9 (by decide) rfl (Nat.le_of_ble_eq_true rfl) (ci_W (a := 121) (m := 122) (k := 117) (by decide) rfl rfl rfl rfl rfl rfl rfl rfl rfl) ?_
  refine wz_aast (pc := 55) (a := 104) (m := 126) (k := 121) (j := 3) (x := 121) (n := 9) (n2 := 0) d_52_55 rfl (by decide) (by decide) (by decide) rfl (by decide) rfl ?_
  refine wq_iincN (pc := 56) (L2 := [some (vR 98), some (vI (nI 9)), some (vI (nI 9)), some (vI (nI 4))]) d_52_56 rfl (b := 1) (by decide) rfl rfl ?_
  refine wp_goto (pc := 59) (tgt := 38) d_52_59 (by decide) ?_
  refine wp_iload_n (pc := 38) (i := 3) d_52_38 rfl rfl ?_
  refine wp_iload_n (pc := 39) (i := 2) d_52_39 rfl rfl ?_
  refine wp_icmpN_ge (pc := 40) (tgt := 62) d_52_40 (by decide) (by decide) (by decide) (fun h => absurd h (by decide)) (fun _ => ?_)
  refine wp_aload_n (pc := 43) (i := 0) d_52_43 rfl rfl ?_
  refine wz_gA (pc := 44) (a := 98) (m := 126) (ci := 5) (n := 0) (b := 104) d_52_44 fl_6_22 rfl (by decide) ft_5_0 (by decide +kernel) ?_
  refine wp_iload_n (pc := 47) (i := 3) d_52_47 rfl rfl ?_
  refine wz_new (pc := 48) (m := 126) (k := 122) (ci := 7) d_52_48 rfl cl_6_7 rfl (by decide +kernel) ?_
  refine wp_dup (pc := 51) d_52_51 rfl ?_
  refine wz_callIN0 (pc := 52) d_52_52 lk_6_9 (by decide) rfl (Nat.le_of_ble_eq_true rfl) (ci_W (a := 126) (m := 127) (k := 122) (by decide) rfl rfl rfl rfl rfl rfl rfl rfl rfl) ?_
  refine wz_aast (pc := 55) (a := 104) (m := 131) (k := 126) (j := 4) (x := 126) (n := 9) (n2 := 0) d_52_55 rfl (by decide) (by decide) (by decide) rfl (by decide) rfl ?_
  refine wq_iincN (pc := 56) (L2 := [some (vR 98), some (vI (nI 9)), some (vI (nI 9)), some (vI (nI 5))]) d_52_56 rfl (b := 1) (by decide) rfl rfl ?_
  refine wp_goto (pc := 59) (tgt := 38) d_52_59 (by decide) ?_
  refine wp_iload_n (pc := 38) (i := 3) d_52_38 rfl rfl ?_
  refine wp_iload_n (pc := 39) (i := 2) d_52_39 rfl rfl ?_
  refine wp_icmpN_ge (pc := 40) (tgt := 62) d_52_40 (by decide) (by decide) (by decide) (fun h => absurd h (by decide)) (fun _ => ?_)
  refine wp_aload_n (pc := 43) (i := 0) d_52_43 rfl rfl ?_
  refine wz_gA (pc := 44) (a := 98) (m := 131) (ci := 5) (n := 0) (b := 104) d_52_44 fl_6_22 rfl (by decide) ft_5_0 (by decide +kernel) ?_
  refine wp_iload_n (pc := 47) (i := 3) d_52_47 rfl rfl ?_
  refine wz_new (pc := 48) (m := 131) (k := 127) (ci := 7) d_52_48 rfl cl_6_7 rfl (by decide +kernel) ?_
  refine wp_dup (pc := 51) d_52_51 rfl ?_
  refine wz_callIN0 (pc := 52) d_52_52 lk_6_9 (by decide) rfl (Nat.le_of_ble_eq_true rfl) (ci_W (a := 131) (m := 132) (k := 127) (by decide) rfl rfl rfl rfl rfl rfl rfl rfl rfl) ?_
  refine wz_aast (pc := 55) (a := 104) (m := 136) (k := 131) (j := 5) (x := 131) (n := 9) (n2 := 0) d_52_55 rfl (by decide) (by decide) (by decide) rfl (by decide) rfl ?_
  refine wq_iincN (pc := 56) (L2 := [some (vR 98), some (vI (nI 9)), some (vI (nI 9)), some (vI (nI 6))]) d_52_56 rfl (b := 1) (by decide) rfl rfl ?_
  refine wp_goto (pc := 59) (tgt := 38) d_52_59 (by decide) ?_
  refine wp_iload_n (pc := 38) (i := 3) d_52_38 rfl rfl ?_
  refine wp_iload_n (pc := 39) (i := 2) d_52_39 rfl rfl ?_
  refine wp_icmpN_ge (pc := 40) (tgt := 62) d_52_40 (by decide) (by decide) (by decide) (fun h => absurd h (by decide)) (fun _ => ?_)
  refine wp_aload_n (pc := 43) (i := 0) d_52_43 rfl rfl ?_
  refine wz_gA (pc := 44) (a := 98) (m := 136) (ci := 5) (n := 0) (b := 104) d_52_44 fl_6_22 rfl (by decide) ft_5_0 (by decide +kernel) ?_
  refine wp_iload_n (pc := 47) (i := 3) d_52_47 rfl rfl ?_
  refine wz_new (pc := 48) (m := 136) (k := 132) (ci := 7) d_52_48 rfl cl_6_7 rfl (by decide +kernel) ?_
  refine wp_dup (pc := 51) d_52_51 rfl ?_
  refine wz_callIN0 (pc := 52) d_52_52 lk_6_9 (by decide) rfl (Nat.le_of_ble_eq_true rfl) (ci_W (a := 136) (m := 137) (k := 132) (by decide) rfl rfl rfl rfl rfl rfl rfl rfl rfl) ?_
  refine wz_aast (pc := 55) (a := 104) (m := 141) (k := 136) (j := 6) (x := 136) (n := 9) (n2 := 0) d_52_55 rfl (by decide) (by decide) (by decide) rfl (by decide) rfl ?_
  refine wq_iincN (pc := 56) (L2 := [some (vR 98), some (vI (nI 9)), some (vI (nI 9)), some (vI (nI 7))]) d_52_56 rfl (b := 1) (by decide) rfl rfl ?_
  refine wp_goto (pc := 59) (tgt := 38) d_52_59 (by decide) ?_
  refine wp_iload_n (pc := 38) (i := 3) d_52_38 rfl rfl ?_
  refine wp_iload_n (pc := 39) (i := 2) d_52_39 rfl rfl ?_
  refine wp_icmpN_ge (pc := 40) (tgt := 62) d_52_40 (by decide) (by decide) (by decide) (fun h => absurd h (by decide)) (fun _ => ?_)
  refine wp_aload_n (pc := 43) (i := 0) d_52_43 rfl rfl ?_
  refine wz_gA (pc := 44) (a := 98) (m := 141) (ci := 5) (n := 0) (b := 104) d_52_44 fl_6_22 rfl (by decide) ft_5_0 (by decide +kernel) ?_
  refine wp_iload_n (pc := 47) (i := 3) d_52_47 rfl rfl ?_
  refine wz_new (pc := 48) (m := 141) (k := 137) (ci := 7) d_52_48 rfl cl_6_7 rfl (by decide +kernel) ?_
  refine wp_dup (pc := 51) d_52_51 rfl ?_
  refine wz_callIN0 (pc := 52) d_52_52 lk_6_9 (by decide) rfl (Nat.le_of_ble_eq_true rfl) (ci_W (a := 141) (m := 142) (k := 137) (by decide) rfl rfl rfl rfl rfl rfl rfl rfl rfl) ?_
  refine wz_aast (pc := 55) (a := 104) (m := 146) (k := 141) (j := 7) (x := 141) (n := 9) (n2 := 0) d_52_55 rfl (by decide) (by decide) (by decide) rfl (by decide) rfl ?_
  refine wq_iincN (pc := 56) (L2 := [some (vR 98), some (vI (nI 9)), some (vI (nI 9)), some (vI (nI 8))]) d_52_56 rfl (b := 1) (by decide) rfl rfl ?_
  refine wp_goto (pc := 59) (tgt := 38) d_52_59 (by decide) ?_
  refine wp_iload_n (pc := 38) (i := 3) d_52_38 rfl rfl ?_
  refine wp_iload_n (pc := 39) (i := 2) d_52_39 rfl rfl ?_
  refine wp_icmpN_ge (pc := 40) (tgt := 62) d_52_40 (by decide) (by decide) (by decide) (fun h => absurd h (by decide)) (fun _ => ?_)
  refine wp_aload_n (pc := 43) (i := 0) d_52_43 rfl rfl ?_
  refine wz_gA (pc := 44) (a := 98) (m := 146) (ci := 5) (n := 0) (b := 104) d_52_44 fl_6_22 rfl (by decide) ft_5_0 (by decide +kernel) ?_
  refine wp_iload_n (pc := 47) (i := 3) d_52_47 rfl rfl ?_
  refine wz_new (pc := 48) (m := 146) (k := 142) (ci := 7) d_52_48 rfl cl_6_7 rfl (by decide +kernel) ?_
  refine wp_dup (pc := 51) d_52_51 rfl ?_
  refine wz_callIN0 (pc := 52) d_52_52 lk_6_9 (by decide) rfl (Nat.le_of_ble_eq_true rfl) (ci_W (a := 146) (m := 147) (k := 142) (by decide) rfl rfl rfl rfl rfl rfl rfl rfl rfl) ?_
  refine wz_aast (pc := 55) (a := 104) (m := 151) (k := 146) (j := 8) (x := 146) (n := 9) (n2 := 0) d_52_55 rfl (by decide) (by decide) (by decide) rfl (by decide) rfl ?_
  refine wq_iincN (pc := 56) (L2 := [some (vR 98), some (vI (nI 9)), some (vI (nI 9)), some (vI (nI 9))]) d_52_56 rfl (b := 1) (by decide) rfl rfl ?_
  refine wp_goto (pc := 59) (tgt := 38) d_52_59 (by decide) ?_
  refine wp_iload_n (pc := 38) (i := 3) d_52_38 rfl rfl ?_
  refine wp_iload_n (pc := 39) (i := 2) d_52_39 rfl rfl ?_
  refine wp_icmpN_ge (pc := 40) (tgt := 62) d_52_40 (by decide) (by decide) (by decide) (fun _ => ?_) (fun h => absurd h (by decide))
  exact wp_vret (pc := 62) d_52_62 rfl rfl
set_option maxRecDepth 8000 in
theorem ci_16_92 : Sp 16 [vR 92, vR 12, vR 18] (KK.take 93) zI zJ (FE 90) (fun R => R = (none, KK.take 151, zI, zJ, FE 150)) := by
  refine Sp.mk2 (Nat.le_of_ble_eq_true rfl) (L2 := [some (vR 92), some (vR 12), some (vR 18)]) rfl ?_
  refine wp_aload_n (pc := 0) (i := 0) d_16_0 rfl rfl ?_
  refine wp_objInit (pc := 1) d_16_1 oi_3_3 (Nat.le_of_ble_eq_true rfl) ?_
  refine wp_aload_n (pc := 4) (i := 0) d_16_4 rfl rfl ?_
  refine wz_new (pc := 5) (m := 93) (k := 90) (ci := 7) d_16_5 rfl cl_3_9 rfl (by decide +kernel) ?_
  refine wp_dup (pc := 8) d_16_8 rfl ?_
  refine wz_callIN0 (pc := 9) d_16_9 lk_3_11 (by decide) rfl (Nat.le_of_ble_eq_true rfl) (ci_W (a := 93) (m := 94) (k := 90) (by decide) rfl rfl rfl rfl rfl rfl rfl rfl rfl) ?_
  refine wz_putF (pc := 12) (a := 92) (m := 98) (k := 94) (q := 2) (x := 93) (ci := 2) (n := 0) d_16_12 rfl fl_3_12 rfl (by decide) ft_2_2 rfl rfl rfl ?_
  refine wp_aload_n (pc := 15) (i := 0) d_16_15 rfl rfl ?_
  refine wz_new (pc := 16) (m := 98) (k := 95) (ci := 5) d_16_16 rfl cl_3_18 rfl (by decide +kernel) ?_
  refine wp_dup (pc := 19) d_16_19 rfl ?_
  refine wp_bpN (pc := 20) (m := 9) d_16_20 (by decide) ?_
  refine wz_callI1 (pc := 22) d_16_22 lk_3_20 (by decide) rfl (Nat.le_of_ble_eq_true rfl) ci_52_98 ?_
  refine wz_putF (pc := 25) (a := 92) (m := 151) (k := 147) (q := 3) (x := 98) (ci := 2) (n := 0) d_16_25 rfl fl_3_23 rfl (by decide) ft_2_3 rfl rfl rfl ?_
  refine wp_aload_n (pc := 28) (i := 0) d_16_28 rfl rfl ?_
  refine wp_icN (pc := 29) (m := 0) d_16_29 (by decide) ?_
  refine wz_putI (pc := 30) (a := 92) (m := 151) (ci := 2) (n := 0) d_16_30 fl_3_27 rfl (by decide) ft_2_4 rfl ?_
  refine wp_aload_n (pc := 33) (i := 0) d_16_33 rfl rfl ?_
  refine wp_icN (pc := 34) (m := 0) d_16_34 (by decide) ?_
  refine wz_putI (pc := 35) (a := 92) (m := 151) (ci := 2) (n := 0) d_16_35 fl_3_31 rfl (by decide) ft_2_5 rfl ?_
  refine wp_aload_n (pc := 38) (i := 0) d_16_38 rfl rfl ?_
  refine wp_aload_n (pc := 39) (i := 1) d_16_39 rfl rfl ?_
  refine wz_putF (pc := 40) (a := 92) (m := 151) (k := 148) (q := 0) (x := 12) (ci := 2) (n := 0) d_16_40 rfl fl_3_34 rfl (by decide) ft_2_0 rfl rfl rfl ?_
  refine wp_aload_n (pc := 43) (i := 0) d_16_43 rfl rfl ?_
  refine wp_aload_n (pc := 44) (i := 2) d_16_44 rfl rfl ?_
  refine wz_putF (pc := 45) (a := 92) (m := 151) (k := 149) (q := 1) (x := 18) (ci := 2) (n := 0) d_16_45 rfl fl_3_38 rfl (by decide) ft_2_1 rfl rfl rfl ?_
  exact wp_vret (pc := 48) d_16_48 rfl rfl
set_option maxRecDepth 8000 in
theorem ci_6_151 : Sp 6 [vR 151] (KK.take 152) zI zJ (FE 151) (fun R => R = (none, KK.take 155, zI, zJ, FE 154)) := by
  refine Sp.mk2 (Nat.le_of_ble_eq_true rfl) (L2 := [some (vR 151)]) rfl ?_
  refine wp_aload_n (pc := 0) (i := 0) d_6_0 rfl rfl ?_
  refine wp_objInit (pc := 1) d_6_1 oi_2_3 (Nat.le_of_ble_eq_true rfl) ?_
  refine wp_aload_n (pc := 4) (i := 0) d_6_4 rfl rfl ?_
  refine wp_bpN (pc := 5) (m := 6) d_6_5 (by decide) ?_
  refine wz_newI (pc := 7) (m := 152) (n := 6) d_6_7 rfl (by decide) ?_
  refine wz_putF (pc := 9) (a := 151) (m := 153) (k := 151) (q := 0) (x := 152) (ci := 1) (n := 0) d_6_9 rfl fl_2_9 rfl (by decide) ft_1_0 rfl rfl rfl ?_
  refine wp_aload_n (pc := 12) (i := 0) d_6_12 rfl rfl ?_
  refine wp_bpN (pc := 13) (m := 6) d_6_13 (by decide) ?_
  refine wz_newI (pc := 15) (m := 153) (n := 6) d_6_15 rfl (by decide) ?_
  refine wz_putF (pc := 17) (a := 151) (m := 154) (k := 152) (q := 1) (x := 153) (ci := 1) (n := 0) d_6_17 rfl fl_2_15 rfl (by decide) ft_1_1 rfl rfl rfl ?_
  refine wp_aload_n (pc := 20) (i := 0) d_6_20 rfl rfl ?_
  refine wp_bpN (pc := 21) (m := 6) d_6_21 (by decide) ?_
  refine wz_newI (pc := 23) (m := 154) (n := 6) d_6_23 rfl (by decide) ?_
  refine wz_putF (pc := 25) (a := 151) (m := 155) (k := 153) (q := 2) (x := 154) (ci := 1) (n := 0) d_6_25 rfl fl_2_18 rfl (by decide) ft_1_2 rfl rfl rfl ?_
  refine wp_aload_n (pc := 28) (i := 0) d_6_28 rfl rfl ?_
  refine wp_icN (pc := 29) (m := 0) d_6_29 (by decide) ?_
  refine wz_putI (pc := 30) (a := 151) (m := 155) (ci := 1) (n := 0) d_6_30 fl_2_21 rfl (by decide) ft_1_3 rfl ?_
  refine wp_aload_n (pc := 33) (i := 0) d_6_33 rfl rfl ?_
  refine wp_icN (pc := 34) (m := 0) d_6_34 (by decide) ?_
  refine wz_putI (pc := 35) (a := 151) (m := 155) (ci := 1) (n := 0) d_6_35 fl_2_25 rfl (by decide) ft_1_4 rfl ?_
  refine wp_aload_n (pc := 38) (i := 0) d_6_38 rfl rfl ?_
  refine wp_icN (pc := 39) (m := 0) d_6_39 (by decide) ?_
  refine wz_putI (pc := 40) (a := 151) (m := 155) (ci := 1) (n := 0) d_6_40 fl_2_28 rfl (by decide) ft_1_5 rfl ?_
  refine wp_aload_n (pc := 43) (i := 0) d_6_43 rfl rfl ?_
  refine wp_icN (pc := 44) (m := 0) d_6_44 (by decide) ?_
  refine wz_putI (pc := 45) (a := 151) (m := 155) (ci := 1) (n := 0) d_6_45 fl_2_31 rfl (by decide) ft_1_6 rfl ?_
  exact wp_vret (pc := 48) d_6_48 rfl rfl
set_option maxRecDepth 8000 in
theorem ci_52_155 : Sp 52 [vR 155, vI (nI 2)] (KK.take 156) zI zJ (FE 155) (fun R => R = (none, KK.take 173, zI, zJ, FE 172)) := by
  refine Sp.mk2 (Nat.le_of_ble_eq_true rfl) (L2 := [some (vR 155), some (vI (nI 2)), none, none]) rfl ?_
  refine wp_aload_n (pc := 0) (i := 0) d_52_0 rfl rfl ?_
  refine wp_objInit (pc := 1) d_52_1 oi_6_1 (Nat.le_of_ble_eq_true rfl) ?_
  refine wp_aload_n (pc := 4) (i := 0) d_52_4 rfl rfl ?_
  refine wz_new (pc := 5) (m := 156) (k := 155) (ci := 7) d_52_5 rfl cl_6_7 rfl (by decide +kernel) ?_
  refine wp_dup (pc := 8) d_52_8 rfl ?_
  refine wz_callIN0 (pc := 9) d_52_9 lk_6_9 (by decide) rfl (Nat.le_of_ble_eq_true rfl) (ci_W (a := 156) (m := 157) (k := 155) (by decide) rfl rfl rfl rfl rfl rfl rfl rfl rfl) ?_
  refine wz_putF (pc := 12) (a := 155) (m := 161) (k := 159) (q := 2) (x := 156) (ci := 5) (n := 0) d_52_12 rfl fl_6_10 rfl (by decide) ft_5_2 rfl rfl rfl ?_
  refine wp_icN (pc := 15) (m := 0) d_52_15 (by decide) ?_
  refine wp_iload_n (pc := 16) (i := 1) d_52_16 rfl rfl ?_
  refine wq_mmaxN (pc := 17) d_52_17 mm_6_16 (Nat.le_of_ble_eq_true rfl) (by decide) (by decide) ?_
  refine (show Wp _ _ _ _ _ [vI (nI 2)] _ _ _ _ from ?_)
  refine wq_istore_n (pc := 20) (L2 := [some (vR 155), some (vI (nI 2)), some (vI (nI 2)), none]) (i := 2) d_52_20 rfl (Nat.le_of_ble_eq_true rfl) rfl rfl ?_
  refine wp_aload_n (pc := 21) (i := 0) d_52_21 rfl rfl ?_
  refine wp_iload_n (pc := 22) (i := 2) d_52_22 rfl rfl ?_
  refine wz_newA (pc := 23) (m := 161) (k := 160) (n := 2) d_52_23 cl_6_7 rfl (by decide) (by decide +kernel) ?_
  refine wz_putF (pc := 26) (a := 155) (m := 162) (k := 160) (q := 0) (x := 161) (ci := 5) (n := 0) d_52_26 rfl fl_6_22 rfl (by decide) ft_5_0 rfl rfl rfl ?_
  refine wp_aload_n (pc := 29) (i := 0) d_52_29 rfl rfl ?_
  refine wp_iload_n (pc := 30) (i := 2) d_52_30 rfl rfl ?_
  refine wz_newZ (pc := 31) (m := 162) (n := 2) d_52_31 rfl (by decide) ?_
  refine wz_putF (pc := 33) (a := 155) (m := 163) (k := 161) (q := 1) (x := 162) (ci := 5) (n := 0) d_52_33 rfl fl_6_26 rfl (by decide) ft_5_1 rfl rfl rfl ?_
  refine wp_icN (pc := 36) (m := 0) d_52_36 (by decide) ?_
  refine wq_istore_n (pc := 37) (L2 := [some (vR 155), some (vI (nI 2)), some (vI (nI 2)), some (vI (nI 0))]) (i := 3) d_52_37 rfl (Nat.le_of_ble_eq_true rfl) rfl rfl ?_
  refine wp_iload_n (pc := 38) (i := 3) d_52_38 rfl rfl ?_
  refine wp_iload_n (pc := 39) (i := 2) d_52_39 rfl rfl ?_
  refine wp_icmpN_ge (pc := 40) (tgt := 62) d_52_40 (by decide) (by decide) (by decide) (fun h => absurd h (by decide)) (fun _ => ?_)
  refine wp_aload_n (pc := 43) (i := 0) d_52_43 rfl rfl ?_
  refine wz_gA (pc := 44) (a := 155) (m := 163) (ci := 5) (n := 0) (b := 161) d_52_44 fl_6_22 rfl (by decide) ft_5_0 (by decide +kernel) ?_
  refine wp_iload_n (pc := 47) (i := 3) d_52_47 rfl rfl ?_
  refine wz_new (pc := 48) (m := 163) (k := 162) (ci := 7) d_52_48 rfl cl_6_7 rfl (by decide +kernel) ?_
  refine wp_dup (pc := 51) d_52_51 rfl ?_
  refine wz_callIN0 (pc := 52) d_52_52 lk_6_9 (by decide) rfl (Nat.le_of_ble_eq_true rfl) (ci_W (a := 163) (m := 164) (k := 162) (by decide) rfl rfl rfl rfl rfl rfl rfl rfl rfl) ?_
  refine wz_aast (pc := 55) (a := 161) (m := 168) (k := 166) (j := 0) (x := 163) (n := 2) (n2 := 0) d_52_55 rfl (by decide) (by decide) (by decide) rfl (by decide) rfl ?_
  refine wq_iincN (pc := 56) (L2 := [some (vR 155), some (vI (nI 2)), some (vI (nI 2)), some (vI (nI 1))]) d_52_56 rfl (b := 1) (by decide) rfl rfl ?_
  refine wp_goto (pc := 59) (tgt := 38) d_52_59 (by decide) ?_
  refine wp_iload_n (pc := 38) (i := 3) d_52_38 rfl rfl ?_
  refine wp_iload_n (pc := 39) (i := 2) d_52_39 rfl rfl ?_
  refine wp_icmpN_ge (pc := 40) (tgt := 62) d_52_40 (by decide) (by decide) (by decide) (fun h => absurd h (by decide)) (fun _ => ?_)
  refine wp_aload_n (pc := 43) (i := 0) d_52_43 rfl rfl ?_
  refine wz_gA (pc := 44) (a := 155) (m := 168) (ci := 5) (n := 0) (b := 161) d_52_44 fl_6_22 rfl (by decide) ft_5_0 (by decide +kernel) ?_
  refine wp_iload_n (pc := 47) (i := 3) d_52_47 rfl rfl ?_
  refine wz_new (pc := 48) (m := 168) (k := 167) (ci := 7) d_52_48 rfl cl_6_7 rfl (by decide +kernel) ?_
  refine wp_dup (pc := 51) d_52_51 rfl ?_
  refine wz_callIN0 (pc := 52) d_52_52 lk_6_9 (by decide) rfl (Nat.le_of_ble_eq_true rfl) (ci_W (a := 168) (m := 169) (k := 167) (by decide) rfl rfl rfl rfl rfl rfl rfl rfl rfl) ?_
  refine wz_aast (pc := 55) (a := 161) (m := 173) (k := 171) (j := 1) (x := 168) (n := 2) (n2 := 0) d_52_55 rfl (by decide) (by decide) (by decide) rfl (by decide) rfl ?_
  refine wq_iincN (pc := 56) (L2 := [some (vR 155), some (vI (nI 2)), some (vI (nI 2)), some (vI (nI 2))]) d_52_56 rfl (b := 1) (by decide) rfl rfl ?_
  refine wp_goto (pc := 59) (tgt := 38) d_52_59 (by decide) ?_
  refine wp_iload_n (pc := 38) (i := 3) d_52_38 rfl rfl ?_
  refine wp_iload_n (pc := 39) (i := 2) d_52_39 rfl rfl ?_
  refine wp_icmpN_ge (pc := 40) (tgt := 62) d_52_40 (by decide) (by decide) (by decide) (fun _ => ?_) (fun h => absurd h (by decide))
  exact wp_vret (pc := 62) d_52_62 rfl rfl
set_option maxRecDepth 8000 in
theorem ci_85_1 : Sp 85 [vR 1] (KK.take 2) zI zJ (FE 0) (fun R => R = (none, KK.take 173, zI, zJ, FE 173)) := by
  refine Sp.mk2 (Nat.le_of_ble_eq_true rfl) (L2 := [some (vR 1)]) rfl ?_
  refine wp_aload_n (pc := 0) (i := 0) d_85_0 rfl rfl ?_
  refine wp_objInit (pc := 1) d_85_1 oi_9_1 (Nat.le_of_ble_eq_true rfl) ?_
  refine wp_aload_n (pc := 4) (i := 0) d_85_4 rfl rfl ?_
  refine wz_new (pc := 5) (m := 2) (k := 0) (ci := 6) d_85_5 rfl cl_9_7 rfl (by decide +kernel) ?_
  refine wp_dup (pc := 8) d_85_8 rfl ?_
  refine wz_callIN0 (pc := 9) d_85_9 lk_9_9 (by decide) rfl (Nat.le_of_ble_eq_true rfl) ci_57_2 ?_
  refine wz_putF (pc := 12) (a := 1) (m := 4) (k := 1) (q := 0) (x := 2) (ci := 8) (n := 0) d_85_12 rfl fl_9_10 rfl (by decide) ft_8_0 rfl rfl rfl ?_
  refine wp_aload_n (pc := 15) (i := 0) d_85_15 rfl rfl ?_
  refine wz_new (pc := 16) (m := 4) (k := 2) (ci := 3) d_85_16 rfl cl_9_16 rfl (by decide +kernel) ?_
  refine wp_dup (pc := 19) d_85_19 rfl ?_
  refine wz_callIN0 (pc := 20) d_85_20 lk_9_18 (by decide) rfl (Nat.le_of_ble_eq_true rfl) ci_30_4 ?_
  refine wz_putF (pc := 23) (a := 1) (m := 12) (k := 9) (q := 1) (x := 4) (ci := 8) (n := 0) d_85_23 rfl fl_9_19 rfl (by decide) ft_8_1 rfl rfl rfl ?_
  refine wp_aload_n (pc := 26) (i := 0) d_85_26 rfl rfl ?_
  refine wz_new (pc := 27) (m := 12) (k := 10) (ci := 4) d_85_27 rfl cl_9_23 rfl (by decide +kernel) ?_
  refine wp_dup (pc := 30) d_85_30 rfl ?_
  refine wz_callIN0 (pc := 31) d_85_31 lk_9_25 (by decide) rfl (Nat.le_of_ble_eq_true rfl) ci_37_12 ?_
  refine wz_putF (pc := 34) (a := 1) (m := 18) (k := 15) (q := 2) (x := 12) (ci := 8) (n := 0) d_85_34 rfl fl_9_26 rfl (by decide) ft_8_2 rfl rfl rfl ?_
  refine wp_aload_n (pc := 37) (i := 0) d_85_37 rfl rfl ?_
  refine wz_new (pc := 38) (m := 18) (k := 16) (ci := 7) d_85_38 rfl cl_9_30 rfl (by decide +kernel) ?_
  refine wp_dup (pc := 41) d_85_41 rfl ?_
  refine wz_callIN0 (pc := 42) d_85_42 lk_9_32 (by decide) rfl (Nat.le_of_ble_eq_true rfl) (ci_W (a := 18) (m := 19) (k := 16) (by decide) rfl rfl rfl rfl rfl rfl rfl rfl rfl) ?_
  refine wz_putF (pc := 45) (a := 1) (m := 23) (k := 20) (q := 3) (x := 18) (ci := 8) (n := 0) d_85_45 rfl fl_9_33 rfl (by decide) ft_8_3 rfl rfl rfl ?_
  refine wp_aload_n (pc := 48) (i := 0) d_85_48 rfl rfl ?_
  refine wz_new (pc := 49) (m := 23) (k := 21) (ci := 0) d_85_49 rfl cl_9_37 rfl (by decide +kernel) ?_
  refine wp_dup (pc := 52) d_85_52 rfl ?_
  refine wz_callIN0 (pc := 53) d_85_53 lk_9_39 (by decide) rfl (Nat.le_of_ble_eq_true rfl) ci_1_23 ?_
  refine wz_putF (pc := 56) (a := 1) (m := 92) (k := 89) (q := 4) (x := 23) (ci := 8) (n := 0) d_85_56 rfl fl_9_40 rfl (by decide) ft_8_4 rfl rfl rfl ?_
  refine wp_aload_n (pc := 59) (i := 0) d_85_59 rfl rfl ?_
  refine wz_new (pc := 60) (m := 92) (k := 90) (ci := 2) d_85_60 rfl cl_9_44 rfl (by decide +kernel) ?_
  refine wp_dup (pc := 63) d_85_63 rfl ?_
  refine wp_aload_n (pc := 64) (i := 0) d_85_64 rfl rfl ?_
  refine wz_gA (pc := 65) (a := 1) (m := 93) (ci := 8) (n := 0) (b := 12) d_85_65 fl_9_26 rfl (by decide) ft_8_2 (by decide +kernel) ?_
  refine wp_aload_n (pc := 68) (i := 0) d_85_68 rfl rfl ?_
  refine wz_gA (pc := 69) (a := 1) (m := 93) (ci := 8) (n := 0) (b := 18) d_85_69 fl_9_33 rfl (by decide) ft_8_3 (by decide +kernel) ?_
  refine wz_callI2 (pc := 72) d_85_72 lk_9_46 (by decide) rfl (Nat.le_of_ble_eq_true rfl) ci_16_92 ?_
  refine wz_putF (pc := 75) (a := 1) (m := 151) (k := 150) (q := 5) (x := 92) (ci := 8) (n := 0) d_85_75 rfl fl_9_49 rfl (by decide) ft_8_5 rfl rfl rfl ?_
  refine wp_aload_n (pc := 78) (i := 0) d_85_78 rfl rfl ?_
  refine wz_new (pc := 79) (m := 151) (k := 151) (ci := 1) d_85_79 rfl cl_9_53 rfl (by decide +kernel) ?_
  refine wp_dup (pc := 82) d_85_82 rfl ?_
  refine wz_callIN0 (pc := 83) d_85_83 lk_9_55 (by decide) rfl (Nat.le_of_ble_eq_true rfl) ci_6_151 ?_
  refine wz_putF (pc := 86) (a := 1) (m := 155) (k := 154) (q := 6) (x := 151) (ci := 8) (n := 0) d_85_86 rfl fl_9_56 rfl (by decide) ft_8_6 rfl rfl rfl ?_
  refine wp_aload_n (pc := 89) (i := 0) d_85_89 rfl rfl ?_
  refine wz_new (pc := 90) (m := 155) (k := 155) (ci := 5) d_85_90 rfl cl_9_60 rfl (by decide +kernel) ?_
  refine wp_dup (pc := 93) d_85_93 rfl ?_
  refine wp_icN (pc := 94) (m := 2) d_85_94 (by decide) ?_
  refine wz_callI1 (pc := 95) d_85_95 lk_9_62 (by decide) rfl (Nat.le_of_ble_eq_true rfl) ci_52_155 ?_
  refine wz_putF (pc := 98) (a := 1) (m := 173) (k := 172) (q := 7) (x := 155) (ci := 8) (n := 0) d_85_98 rfl fl_9_65 rfl (by decide) ft_8_7 rfl rfl rfl ?_
  refine wp_aload_n (pc := 101) (i := 0) d_85_101 rfl rfl ?_
  refine wp_lconst (pc := 102) (v := 0) d_85_102 (by decide) ?_
  refine wz_putL (pc := 103) (a := 1) (m := 173) (ci := 8) (n := 0) d_85_103 fl_9_69 rfl (by decide) ft_8_8 rfl ?_
  exact wp_vret (pc := 106) d_85_106 rfl rfl
set_option maxRecDepth 8000 in
theorem ci_120_173 : Sp 120 [vR 173] (KK.take 174) zI zJ (FE 173) (fun R => R = (none, KK.take 188, zI, zJ, FE 187)) := by
  refine Sp.mk2 (Nat.le_of_ble_eq_true rfl) (L2 := [some (vR 173)]) rfl ?_
  refine wp_aload_n (pc := 0) (i := 0) d_120_0 rfl rfl ?_
  refine wp_objInit (pc := 1) d_120_1 oi_10_1 (Nat.le_of_ble_eq_true rfl) ?_
  refine wp_aload_n (pc := 4) (i := 0) d_120_4 rfl rfl ?_
  refine wp_bpN (pc := 5) (m := 24) d_120_5 (by decide) ?_
  refine wz_newI (pc := 7) (m := 174) (n := 24) d_120_7 rfl (by decide) ?_
  refine wz_putF (pc := 9) (a := 173) (m := 175) (k := 173) (q := 0) (x := 174) (ci := 9) (n := 0) d_120_9 rfl fl_10_7 rfl (by decide) ft_9_0 rfl rfl rfl ?_
  refine wp_aload_n (pc := 12) (i := 0) d_120_12 rfl rfl ?_
  refine wp_bpN (pc := 13) (m := 6) d_120_13 (by decide) ?_
  refine wz_newI (pc := 15) (m := 175) (n := 6) d_120_15 rfl (by decide) ?_
  refine wz_putF (pc := 17) (a := 173) (m := 176) (k := 174) (q := 1) (x := 175) (ci := 9) (n := 0) d_120_17 rfl fl_10_13 rfl (by decide) ft_9_1 rfl rfl rfl ?_
  refine wp_aload_n (pc := 20) (i := 0) d_120_20 rfl rfl ?_
  refine wp_bpN (pc := 21) (m := 24) d_120_21 (by decide) ?_
  refine wz_newI (pc := 23) (m := 176) (n := 24) d_120_23 rfl (by decide) ?_
  refine wz_putF (pc := 25) (a := 173) (m := 177) (k := 175) (q := 3) (x := 176) (ci := 9) (n := 0) d_120_25 rfl fl_10_16 rfl (by decide) ft_9_3 rfl rfl rfl ?_
  refine wp_aload_n (pc := 28) (i := 0) d_120_28 rfl rfl ?_
  refine wp_bpN (pc := 29) (m := 60) d_120_29 (by decide) ?_
  refine wz_newI (pc := 31) (m := 177) (n := 60) d_120_31 rfl (by decide) ?_
  refine wz_putF (pc := 33) (a := 173) (m := 178) (k := 176) (q := 4) (x := 177) (ci := 9) (n := 0) d_120_33 rfl fl_10_19 rfl (by decide) ft_9_4 rfl rfl rfl ?_
  refine wp_aload_n (pc := 36) (i := 0) d_120_36 rfl rfl ?_
  refine wp_bpN (pc := 37) (m := 40) d_120_37 (by decide) ?_
  refine wz_newI (pc := 39) (m := 178) (n := 40) d_120_39 rfl (by decide) ?_
  refine wz_putF (pc := 41) (a := 173) (m := 179) (k := 177) (q := 8) (x := 178) (ci := 9) (n := 0) d_120_41 rfl fl_10_22 rfl (by decide) ft_9_8 rfl rfl rfl ?_
  refine wp_aload_n (pc := 44) (i := 0) d_120_44 rfl rfl ?_
  refine wp_spN (pc := 45) (m := 324) d_120_45 (by decide) ?_
  refine wz_newI (pc := 48) (m := 179) (n := 324) d_120_48 rfl (by decide) ?_
  refine wz_putF (pc := 50) (a := 173) (m := 180) (k := 178) (q := 14) (x := 179) (ci := 9) (n := 0) d_120_50 rfl fl_10_25 rfl (by decide) ft_9_14 rfl rfl rfl ?_
  refine wp_aload_n (pc := 53) (i := 0) d_120_53 rfl rfl ?_
  refine wp_bpN (pc := 54) (m := 7) d_120_54 (by decide) ?_
  refine wz_newI (pc := 56) (m := 180) (n := 7) d_120_56 rfl (by decide) ?_
  refine wz_putF (pc := 58) (a := 173) (m := 181) (k := 179) (q := 15) (x := 180) (ci := 9) (n := 0) d_120_58 rfl fl_10_28 rfl (by decide) ft_9_15 rfl rfl rfl ?_
  refine wp_aload_n (pc := 61) (i := 0) d_120_61 rfl rfl ?_
  refine wp_bpN (pc := 62) (m := 7) d_120_62 (by decide) ?_
  refine wz_newI (pc := 64) (m := 181) (n := 7) d_120_64 rfl (by decide) ?_
  refine wz_putF (pc := 66) (a := 173) (m := 182) (k := 180) (q := 16) (x := 181) (ci := 9) (n := 0) d_120_66 rfl fl_10_31 rfl (by decide) ft_9_16 rfl rfl rfl ?_
  refine wp_aload_n (pc := 69) (i := 0) d_120_69 rfl rfl ?_
  refine wp_bpN (pc := 70) (m := 64) d_120_70 (by decide) ?_
  refine wz_newI (pc := 72) (m := 182) (n := 64) d_120_72 rfl (by decide) ?_
  refine wz_putF (pc := 74) (a := 173) (m := 183) (k := 181) (q := 18) (x := 182) (ci := 9) (n := 0) d_120_74 rfl fl_10_34 rfl (by decide) ft_9_18 rfl rfl rfl ?_
  refine wp_aload_n (pc := 77) (i := 0) d_120_77 rfl rfl ?_
  refine wp_bpN (pc := 78) (m := 6) d_120_78 (by decide) ?_
  refine wz_newI (pc := 80) (m := 183) (n := 6) d_120_80 rfl (by decide) ?_
  refine wz_putF (pc := 82) (a := 173) (m := 184) (k := 182) (q := 20) (x := 183) (ci := 9) (n := 0) d_120_82 rfl fl_10_37 rfl (by decide) ft_9_20 rfl rfl rfl ?_
  refine wp_aload_n (pc := 85) (i := 0) d_120_85 rfl rfl ?_
  refine wp_bpN (pc := 86) (m := 6) d_120_86 (by decide) ?_
  refine wz_newI (pc := 88) (m := 184) (n := 6) d_120_88 rfl (by decide) ?_
  refine wz_putF (pc := 90) (a := 173) (m := 185) (k := 183) (q := 21) (x := 184) (ci := 9) (n := 0) d_120_90 rfl fl_10_40 rfl (by decide) ft_9_21 rfl rfl rfl ?_
  refine wp_aload_n (pc := 93) (i := 0) d_120_93 rfl rfl ?_
  refine wp_bpN (pc := 94) (m := 6) d_120_94 (by decide) ?_
  refine wz_newI (pc := 96) (m := 185) (n := 6) d_120_96 rfl (by decide) ?_
  refine wz_putF (pc := 98) (a := 173) (m := 186) (k := 184) (q := 22) (x := 185) (ci := 9) (n := 0) d_120_98 rfl fl_10_43 rfl (by decide) ft_9_22 rfl rfl rfl ?_
  refine wp_aload_n (pc := 101) (i := 0) d_120_101 rfl rfl ?_
  refine wp_icN (pc := 102) (m := 2) d_120_102 (by decide) ?_
  refine wz_newZ (pc := 103) (m := 186) (n := 2) d_120_103 rfl (by decide) ?_
  refine wz_putF (pc := 105) (a := 173) (m := 187) (k := 185) (q := 24) (x := 186) (ci := 9) (n := 0) d_120_105 rfl fl_10_46 rfl (by decide) ft_9_24 rfl rfl rfl ?_
  refine wp_aload_n (pc := 108) (i := 0) d_120_108 rfl rfl ?_
  refine wp_bpN (pc := 109) (m := 56) d_120_109 (by decide) ?_
  refine wz_newI (pc := 111) (m := 187) (n := 56) d_120_111 rfl (by decide) ?_
  refine wz_putF (pc := 113) (a := 173) (m := 188) (k := 186) (q := 25) (x := 187) (ci := 9) (n := 0) d_120_113 rfl fl_10_50 rfl (by decide) ft_9_25 rfl rfl rfl ?_
  refine wp_aload_n (pc := 116) (i := 0) d_120_116 rfl rfl ?_
  refine wp_icN (pc := 117) (m := 0) d_120_117 (by decide) ?_
  refine wz_putI (pc := 118) (a := 173) (m := 188) (ci := 9) (n := 0) d_120_118 fl_10_53 rfl (by decide) ft_9_5 rfl ?_
  exact wp_vret (pc := 121) d_120_121 rfl rfl
set_option maxRecDepth 8000 in
theorem FE_ok : Fok (FE 187) := by unfold Fok; decide +kernel
theorem KK_tk : KK.take 188 = KK := by decide +kernel
theorem CRt_0 : CRt zI zJ SS0 := ⟨⟨rfl, fun j hj => absurd hj (Nat.not_lt_zero j)⟩, ⟨Nat.zero_le 6, rfl, fun k _ j hj => absurd hj (Nat.not_lt_zero j)⟩, ⟨fun _ _ _ _ => rfl, fun _ _ _ => rfl⟩, ⟨rfl, rfl, fun _ _ => ⟨fun _ _ _ _ => rfl, fun _ _ _ => rfl⟩⟩, ⟨Nat.zero_le 6, rfl, fun _ _ j hj => absurd hj (Nat.not_lt_zero j)⟩, ⟨fun _ _ => ⟨fun _ _ _ _ => rfl, fun _ _ _ => rfl⟩, fun _ _ => rfl⟩, rfl⟩
theorem MRt_0 : MRt zI zJ SS0 := ⟨⟨rfl, fun j hj => absurd hj (Nat.not_lt_zero j)⟩, ⟨Nat.zero_le 6, rfl, fun k _ j hj => absurd hj (Nat.not_lt_zero j)⟩, ⟨⟨fun _ _ _ _ => rfl, rfl, rfl⟩, rfl, rfl⟩, ⟨rfl, rfl, fun _ _ => ⟨⟨fun _ _ _ _ => rfl, rfl, rfl⟩, rfl⟩⟩, ⟨Nat.zero_le 6, rfl, fun j hj => absurd hj (Nat.not_lt_zero j)⟩, ⟨fun _ _ => ⟨⟨fun _ _ _ _ => rfl, rfl, rfl⟩, rfl, rfl⟩, fun _ _ => rfl⟩, rfl⟩
set_option maxRecDepth 8000 in
theorem law_head {L : Nat} {xs : Nat → Int32} (hL : L ≤ 3072) : Wp (some (L, xs)) 0 lwP 0 [some (vR 0), none, none, none] [] (KK.take 1) zI zJ (FE 0) := by
  refine wz_new (pc := 0) (m := 1) (k := 0) (ci := 8) d_0_0 rfl cl_0_7 rfl (by decide +kernel) ?_
  refine wp_dup (pc := 3) d_0_3 rfl ?_
  refine wz_callI0 (pc := 4) d_0_4 lk_0_9 (by decide) rfl (Nat.le_of_ble_eq_true rfl) ci_85_1 ?_
  refine wq_astore_n (pc := 7) (L2 := [some (vR 0), some (vR 1), none, none]) (i := 1) d_0_7 rfl (Nat.le_of_ble_eq_true rfl) rfl rfl ?_
  refine wz_new (pc := 8) (m := 173) (k := 173) (ci := 9) d_0_8 rfl cl_0_10 rfl (by decide +kernel) ?_
  refine wp_dup (pc := 11) d_0_11 rfl ?_
  refine wz_callI0 (pc := 12) d_0_12 lk_0_12 (by decide) rfl (Nat.le_of_ble_eq_true rfl) ci_120_173 ?_
  refine wq_astore_n (pc := 15) (L2 := [some (vR 0), some (vR 1), some (vR 173), none]) (i := 2) d_0_15 rfl (Nat.le_of_ble_eq_true rfl) rfl rfl ?_
  refine wp_icN (pc := 16) (m := 0) d_0_16 (by decide) ?_
  refine wq_istore_n (pc := 17) (L2 := [some (vR 0), some (vR 1), some (vR 173), some (vI (nI 0))]) (i := 3) d_0_17 rfl (Nat.le_of_ble_eq_true rfl) rfl rfl ?_
  rw [KK_tk]
  exact law_loop FE_ok hL 512 0 0 SS0 zI zJ (by omega) (by decide) (by decide) OKt_0 CRt_0 MRt_0
theorem FE_0 : FE 0 = fun _ _ => none := rfl
