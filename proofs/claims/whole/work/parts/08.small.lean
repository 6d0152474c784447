theorem nmax_c {a b : Nat} (ha : a < 2 ^ 31) (hb : b < 2 ^ 31) : (if nI a < nI b then nI b else nI a) = nI (max a b) := by
  by_cases h : a < b
  · rw [if_pos ((nI_ltI ha hb).mpr h), Nat.max_eq_right (by omega)]
  · rw [if_neg (fun q => h ((nI_ltI ha hb).mp q)), Nat.max_eq_left (by omega)]
theorem nmin_c {a b : Nat} (ha : a < 2 ^ 31) (hb : b < 2 ^ 31) : (if nI b < nI a then nI b else nI a) = nI (min a b) := by
  by_cases h : b < a
  · rw [if_pos ((nI_ltI hb ha).mpr h), Nat.min_eq_right (by omega)]
  · rw [if_neg (fun q => h ((nI_ltI hb ha).mp q)), Nat.min_eq_left (by omega)]
theorem Sp.mk2 {y : Nat} {as : List VV} {K : KT} {I : IT} {J : JT} {F : FT} {Po : RT → Prop} {L2 : LL} (hl : (argL as).length ≤ mL y) (hL : entL (mL y) as = L2) (h : Wp none y Po 0 L2 [] K I J F) : Sp y as K I J F Po := Sp.mk hl (by rw [hL]; exact h)
theorem inR_bo {x : Int32} {n : Nat} (hn : n < 2 ^ 31) (h1 : ¬ x < 0) (h2 : ¬ nI n ≤ x) : inR x n = true := by
  unfold inR
  rw [Int32.lt_iff_toInt_lt] at h1
  rw [Int32.le_iff_toInt_le, nI_toInt hn] at h2
  have h0 : (0 : Int32).toInt = 0 := by decide
  exact decide_eq_true (by omega)
theorem inR_b0 {x : Int32} {n : Nat} (h1 : x < 0) : inR x n = false := by
  unfold inR
  rw [Int32.lt_iff_toInt_lt] at h1
  have h0 : (0 : Int32).toInt = 0 := by decide
  exact decide_eq_false (by omega)
theorem inR_b1 {x : Int32} {n : Nat} (hn : n < 2 ^ 31) (h2 : nI n ≤ x) : inR x n = false := by
  unfold inR
  rw [Int32.le_iff_toInt_le, nI_toInt hn] at h2
  exact decide_eq_false (by omega)
/-- between two numbers -/
def inB (x lo hi : Int32) : Bool := decide (lo.toInt ≤ x.toInt ∧ x.toInt ≤ hi.toInt)
theorem wq_istore_n {scr : Option (Nat × (Nat → Int32))} {y : Nat} {Po : RT → Prop} {pc : Nat} {L L2 : LL} {st : List VV} {K : KT} {I : IT} {J : JT} {F : FT} {q : Fin 4} {i : Nat} {x : Int32} (hd : decode (mB y) pc = .ok (.istore_n q, 1)) (hi : (q : Nat) = i) (hn : i < L.length) (hp : pvB L i = true) (hL : L.set i (some (vI x)) = L2) (k : Wp scr y Po (pc + 1) L2 st K I J F) : Wp scr y Po pc L (vI x :: st) K I J F := wp_istore_n hd hi hn hp (by rw [hL]; exact k)
theorem wq_istore {scr : Option (Nat × (Nat → Int32))} {y : Nat} {Po : RT → Prop} {pc : Nat} {L L2 : LL} {st : List VV} {K : KT} {I : IT} {J : JT} {F : FT} {i : Nat} {x : Int32} (hd : decode (mB y) pc = .ok (.istore i, 2)) (hn : i < L.length) (hp : pvB L i = true) (hL : L.set i (some (vI x)) = L2) (k : Wp scr y Po (pc + 2) L2 st K I J F) : Wp scr y Po pc L (vI x :: st) K I J F := wp_istore hd hn hp (by rw [hL]; exact k)
theorem wq_astore_n {scr : Option (Nat × (Nat → Int32))} {y : Nat} {Po : RT → Prop} {pc : Nat} {L L2 : LL} {st : List VV} {K : KT} {I : IT} {J : JT} {F : FT} {q : Fin 4} {i : Nat} {x : Nat} (hd : decode (mB y) pc = .ok (.astore_n q, 1)) (hi : (q : Nat) = i) (hn : i < L.length) (hp : pvB L i = true) (hL : L.set i (some (vR x)) = L2) (k : Wp scr y Po (pc + 1) L2 st K I J F) : Wp scr y Po pc L (vR x :: st) K I J F := wp_astore_n hd hi hn hp (by rw [hL]; exact k)
theorem wq_astore {scr : Option (Nat × (Nat → Int32))} {y : Nat} {Po : RT → Prop} {pc : Nat} {L L2 : LL} {st : List VV} {K : KT} {I : IT} {J : JT} {F : FT} {i : Nat} {x : Nat} (hd : decode (mB y) pc = .ok (.astore i, 2)) (hn : i < L.length) (hp : pvB L i = true) (hL : L.set i (some (vR x)) = L2) (k : Wp scr y Po (pc + 2) L2 st K I J F) : Wp scr y Po pc L (vR x :: st) K I J F := wp_astore hd hn hp (by rw [hL]; exact k)
theorem wq_lstore_n {scr : Option (Nat × (Nat → Int32))} {y : Nat} {Po : RT → Prop} {pc : Nat} {L L2 : LL} {st : List VV} {K : KT} {I : IT} {J : JT} {F : FT} {q : Fin 4} {i : Nat} {x : Int64} (hd : decode (mB y) pc = .ok (.lstore_n q, 1)) (hi : (q : Nat) = i) (hn : i + 1 < L.length) (hp : pvB L i = true) (hL : (L.set i (some (vL x))).set (i + 1) none = L2) (k : Wp scr y Po (pc + 1) L2 st K I J F) : Wp scr y Po pc L (vL x :: st) K I J F := wp_lstore_n hd hi hn hp (by rw [hL]; exact k)
theorem wq_lstore {scr : Option (Nat × (Nat → Int32))} {y : Nat} {Po : RT → Prop} {pc : Nat} {L L2 : LL} {st : List VV} {K : KT} {I : IT} {J : JT} {F : FT} {i : Nat} {x : Int64} (hd : decode (mB y) pc = .ok (.lstore i, 2)) (hn : i + 1 < L.length) (hp : pvB L i = true) (hL : (L.set i (some (vL x))).set (i + 1) none = L2) (k : Wp scr y Po (pc + 2) L2 st K I J F) : Wp scr y Po pc L (vL x :: st) K I J F := wp_lstore hd hn hp (by rw [hL]; exact k)
theorem wq_iincN {scr : Option (Nat × (Nat → Int32))} {y : Nat} {Po : RT → Prop} {pc : Nat} {L L2 : LL} {st : List VV} {K : KT} {I : IT} {J : JT} {F : FT} {i a b : Nat} {n : Int} (hd : decode (mB y) pc = .ok (.iinc i n, 3)) (hl : L[i]? = some (some (vI (nI a)))) (hv : Int32.ofInt n = nI b) (hp : pvB L i = true) (hL : L.set i (some (vI (nI (a + b)))) = L2) (k : Wp scr y Po (pc + 3) L2 st K I J F) : Wp scr y Po pc L st K I J F := wp_iincN hd hl hv hp (by rw [hL]; exact k)
theorem wq_mmaxN {scr : Option (Nat × (Nat → Int32))} {y : Nat} {Po : RT → Prop} {pc : Nat} {L : LL} {st : List VV} {K : KT} {I : IT} {J : JT} {F : FT} {a b i : Nat} (hd : decode (mB y) pc = .ok (.invokestatic i, 3)) (hw : Cond.methodLink (mN y).cls i Lib.Math.max.name ∈ gg_GW) (hs : vcats st ≤ 8) (ha : a < 2 ^ 31) (hb : b < 2 ^ 31) (k : Wp scr y Po (pc + 3) L (vI (nI (max a b)) :: st) K I J F) : Wp scr y Po pc L (vI (nI b) :: vI (nI a) :: st) K I J F := wp_mmax hd hw hs (by rw [nmax_c ha hb]; exact k)
theorem wq_mminN {scr : Option (Nat × (Nat → Int32))} {y : Nat} {Po : RT → Prop} {pc : Nat} {L : LL} {st : List VV} {K : KT} {I : IT} {J : JT} {F : FT} {a b i : Nat} (hd : decode (mB y) pc = .ok (.invokestatic i, 3)) (hw : Cond.methodLink (mN y).cls i Lib.Math.min.name ∈ gg_GW) (hs : vcats st ≤ 8) (ha : a < 2 ^ 31) (hb : b < 2 ^ 31) (k : Wp scr y Po (pc + 3) L (vI (nI (min a b)) :: st) K I J F) : Wp scr y Po pc L (vI (nI b) :: vI (nI a) :: st) K I J F := wp_mmin hd hw hs (by rw [nmin_c ha hb]; exact k)
set_option maxRecDepth 4000 in
theorem c_isPlace {I : IT} {J : JT} {F : FT} (x : Int32) : Sp 67 [vI x] KK I J F (fun R => R = (some (vI (b2 (inR x 6))), KK, I, J, F)) := by
  refine Sp.mk2 (Nat.le_of_ble_eq_true rfl) (L2 := [_]) rfl ?_
  refine wp_iload_n (pc := 0) (i := 0) d_67_0 rfl rfl ?_
  refine wp_if_lt (pc := 1) (tgt := 14) d_67_1 (by decide) (fun zq1 => ?_) (fun zq1 => ?_)
  · refine wp_icN (pc := 14) (m := 0) d_67_14 (by decide) ?_
    refine wp_iret (pc := 15) d_67_15 (Or.inr ⟨rfl, by decide⟩) ?_
    rw [inR_b0 zq1]; rfl
  · refine wp_iload_n (pc := 4) (i := 0) d_67_4 rfl rfl ?_
    refine wp_bpN (pc := 5) (m := 6) d_67_5 (by decide) ?_
    refine wp_icmp_ge (pc := 7) (tgt := 14) d_67_7 (by decide) (fun zq7 => ?_) (fun zq7 => ?_)
    · refine wp_icN (pc := 14) (m := 0) d_67_14 (by decide) ?_
      refine wp_iret (pc := 15) d_67_15 (Or.inr ⟨rfl, by decide⟩) ?_
      rw [inR_b1 (by decide) zq7]; rfl
    · refine wp_icN (pc := 10) (m := 1) d_67_10 (by decide) ?_
      refine wp_goto (pc := 11) (tgt := 15) d_67_11 (by decide) ?_
      refine wp_iret (pc := 15) d_67_15 (Or.inr ⟨rfl, by decide⟩) ?_
      rw [inR_bo (by decide) zq1 zq7]; rfl
set_option maxRecDepth 4000 in
theorem c_isWithin {I : IT} {J : JT} {F : FT} (x lo hi : Int32) : Sp 89 [vI x, vI lo, vI hi] KK I J F (fun R => R = (some (vI (b2 (inB x lo hi))), KK, I, J, F)) := by
  refine Sp.mk2 (Nat.le_of_ble_eq_true rfl) (L2 := [_, _, _]) rfl ?_
  refine wp_iload_n (pc := 0) (i := 0) d_89_0 rfl rfl ?_
  refine wp_iload_n (pc := 1) (i := 1) d_89_1 rfl rfl ?_
  refine wp_icmp_lt (pc := 2) (tgt := 14) d_89_2 (by decide) (fun zq2 => ?_) (fun zq2 => ?_)
  · refine wp_icN (pc := 14) (m := 0) d_89_14 (by decide) ?_
    refine wp_iret (pc := 15) d_89_15 (Or.inr ⟨rfl, by decide⟩) ?_
    rw [show inB x lo hi = false from decide_eq_false (by simp only [Int32.lt_iff_toInt_lt] at *; omega)]; rfl
  · refine wp_iload_n (pc := 5) (i := 0) d_89_5 rfl rfl ?_
    refine wp_iload_n (pc := 6) (i := 2) d_89_6 rfl rfl ?_
    refine wp_icmp_gt (pc := 7) (tgt := 14) d_89_7 (by decide) (fun zq7 => ?_) (fun zq7 => ?_)
    · refine wp_icN (pc := 14) (m := 0) d_89_14 (by decide) ?_
      refine wp_iret (pc := 15) d_89_15 (Or.inr ⟨rfl, by decide⟩) ?_
      rw [show inB x lo hi = false from decide_eq_false (by simp only [Int32.lt_iff_toInt_lt] at *; omega)]; rfl
    · refine wp_icN (pc := 10) (m := 1) d_89_10 (by decide) ?_
      refine wp_goto (pc := 11) (tgt := 15) d_89_11 (by decide) ?_
      refine wp_iret (pc := 15) d_89_15 (Or.inr ⟨rfl, by decide⟩) ?_
      rw [show inB x lo hi = true from decide_eq_true (by simp only [Int32.lt_iff_toInt_lt] at *; omega)]; rfl
