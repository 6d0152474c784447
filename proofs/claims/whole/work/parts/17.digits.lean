theorem wr_ldc2M {scr : Option (Nat × (Nat → Int32))} {y : Nat} {Po : RT → Prop} {pc : Nat} {L : LL} {st : List VV} {K : KT} {I : IT} {J : JT} {F : FT} {i m : Nat} {v : Int64} (hd : decode (mB y) pc = .ok (.ldc2_w i, 3)) (hw : Cond.constantLong (mN y).cls i v ∈ gg_GW) (hv : v = lN m) (k : Wp scr y Po (pc + 3) L (vL (lN m) :: st) K I J F) : Wp scr y Po pc L st K I J F := wp_ldc2 hd hw (by rw [hv]; exact k)
theorem wr_laddM {scr : Option (Nat × (Nat → Int32))} {y : Nat} {Po : RT → Prop} {pc : Nat} {L : LL} {st : List VV} {K : KT} {I : IT} {J : JT} {F : FT} {a b : Nat} (hd : decode (mB y) pc = .ok (.ladd, 1)) (k : Wp scr y Po (pc + 1) L (vL (lN (a + b)) :: st) K I J F) : Wp scr y Po pc L (vL (lN b) :: vL (lN a) :: st) K I J F := wp_ladd hd (by rw [lN_add]; exact k)
theorem wr_lmulM {scr : Option (Nat × (Nat → Int32))} {y : Nat} {Po : RT → Prop} {pc : Nat} {L : LL} {st : List VV} {K : KT} {I : IT} {J : JT} {F : FT} {a b : Nat} (hd : decode (mB y) pc = .ok (.lmul, 1)) (k : Wp scr y Po (pc + 1) L (vL (lN (a * b)) :: st) K I J F) : Wp scr y Po pc L (vL (lN b) :: vL (lN a) :: st) K I J F := wp_lmul hd (by rw [lN_mul]; exact k)
theorem wr_i2lM {scr : Option (Nat × (Nat → Int32))} {y : Nat} {Po : RT → Prop} {pc : Nat} {L : LL} {st : List VV} {K : KT} {I : IT} {J : JT} {F : FT} {a : Nat} (hd : decode (mB y) pc = .ok (.i2l, 1)) (ha : a < 2 ^ 31) (k : Wp scr y Po (pc + 1) L (vL (lN a) :: st) K I J F) : Wp scr y Po pc L (vI (nI a) :: st) K I J F := wp_i2l hd (by rw [nI_l ha]; exact k)
theorem wr_l2iM {scr : Option (Nat × (Nat → Int32))} {y : Nat} {Po : RT → Prop} {pc : Nat} {L : LL} {st : List VV} {K : KT} {I : IT} {J : JT} {F : FT} {a : Nat} (hd : decode (mB y) pc = .ok (.l2i, 1)) (k : Wp scr y Po (pc + 1) L (vI (nI a) :: st) K I J F) : Wp scr y Po pc L (vL (lN a) :: st) K I J F := wp_l2i hd (by rw [lN_i]; exact k)
theorem sh_l : ∀ k, k < 32 → ((nI k &&& 31).toBitVec.smod 32).toNat = k := by decide +kernel
theorem shr_c {P k : Nat} (hP : P < 2 ^ 31) (hk : k < 32) : nI P >>> (nI k &&& 31) = nI (P / 2 ^ k) := pk_shrN hP _ k (sh_l k hk)
theorem shl_c {P k : Nat} (hk : k < 32) (h : P * 2 ^ k < 2 ^ 32) : nI P <<< (nI k &&& 31) = nI (P * 2 ^ k) := pk_shlN _ k (sh_l k hk) h
theorem msk_c {a w : Nat} (ha : a < 2 ^ 31) (hw : w ≤ 6) : nI a &&& nI (2 ^ w - 1) = nI (a % 2 ^ w) := by
  have : 2 ^ w ≤ 2 ^ 6 := Nat.pow_le_pow_right (by decide) hw
  exact pk_andN (by omega) w (pk_tn (by omega))
/-- a digit, of w bits, the m-th from the lowest -/
def dgN (w P m : Nat) : Nat := P / 2 ^ (w * m) % 2 ^ w
theorem dgN_lt (w P m : Nat) : dgN w P m < 2 ^ w := Nat.mod_lt _ (Nat.two_pow_pos w)
set_option maxRecDepth 4000 in
theorem c_damsIn {I : IT} {J : JT} {F : FT} {P n i w : Nat} (hP : P < 2 ^ 31) (hi : i < n) (hw : w ≤ 6) (hwn : w * (n - 1 - i) < 32) : Sp 23 [vI (nI P), vI (nI n), vI (nI i), vI (nI w)] KK I J F (fun R => R = (some (vI (nI (dgN w P (n - 1 - i)))), KK, I, J, F)) := by
  refine Sp.mk2 (Nat.le_of_ble_eq_true rfl) (L2 := [_, _, _, _]) rfl ?_
  refine wp_iload_n (pc := 0) (i := 0) d_23_0 rfl rfl ?_
  refine wp_iload_n (pc := 1) (i := 3) d_23_1 rfl rfl ?_
  refine wp_iload_n (pc := 2) (i := 1) d_23_2 rfl rfl ?_
  refine wp_icN (pc := 3) (m := 1) d_23_3 (by decide) ?_
  refine wp_isubN (pc := 4) d_23_4 (by omega) ?_
  refine wp_iload_n (pc := 5) (i := 2) d_23_5 rfl rfl ?_
  refine wp_isubN (pc := 6) d_23_6 (by omega) ?_
  refine wp_imulN (pc := 7) d_23_7 ?_
  refine wp_ishr (pc := 8) d_23_8 ?_
  rw [shr_c hP hwn]
  refine wp_icN (pc := 9) (m := 1) d_23_9 (by decide) ?_
  refine wp_iload_n (pc := 10) (i := 3) d_23_10 rfl rfl ?_
  refine wp_ishl (pc := 11) d_23_11 ?_
  rw [bit_c w (by omega)]
  refine wp_icN (pc := 12) (m := 1) d_23_12 (by decide) ?_
  refine wp_isubN (pc := 13) d_23_13 Nat.one_le_two_pow ?_
  refine wp_iand (pc := 14) d_23_14 ?_
  rw [msk_c (Nat.lt_of_le_of_lt (Nat.div_le_self _ _) hP) hw]
  exact wp_iret (pc := 15) d_23_15 (Or.inl rfl) rfl
/-- from place i down to the first digit that isn't 0 -/
def fnN (w P n : Nat) : Nat → Nat
  | 0 => 0
  | i + 1 => if dgN w P (n - 1 - (i + 1)) = 0 then fnN w P n i else i + 1
theorem fnN_le (w P n : Nat) : ∀ i, fnN w P n i ≤ i
  | 0 => Nat.le_refl _
  | i + 1 => by
    unfold fnN
    have := fnN_le w P n i
    split <;> omega
theorem wr_idec {scr : Option (Nat × (Nat → Int32))} {y : Nat} {Po : RT → Prop} {pc : Nat} {L : LL} {st : List VV} {K : KT} {I : IT} {J : JT} {F : FT} {i a : Nat} {L2 : LL} (hd : decode (mB y) pc = .ok (.iinc i (-1), 3)) (hl : L[i]? = some (some (vI (nI (a + 1))))) (hp : pvB L i = true) (hL : L.set i (some (vI (nI a))) = L2) (k : Wp scr y Po (pc + 3) L2 st K I J F) : Wp scr y Po pc L st K I J F := wp_iinc hd hl (show nI (a + 1) + (-1) = nI a from pk_m1 a) hp (by rw [hL]; exact k)
set_option maxRecDepth 4000 in
theorem firstNew_loop {I : IT} {J : JT} {F : FT} {P n w : Nat} (hP : P < 2 ^ 31) (hw : w ≤ 6) (hwn : w * (n - 1) < 32) (hn31 : n < 2 ^ 31) : ∀ (i : Nat), i < n → ∀ v, v = fnN w P n i → Wp none 22 (fun R => R = (some (vI (nI v)), KK, I, J, F)) 4 [some (vI (nI P)), some (vI (nI n)), some (vI (nI w)), some (vI (nI i))] [] KK I J F := by
  intro i
  induction i with
  | zero =>
    intro hin v hv
    refine wp_iload_n (pc := 4) (i := 3) d_22_4 rfl rfl ?_
    refine wp_ifN_le (pc := 5) (tgt := 24) d_22_5 (by decide) (by omega) (fun zq5 => ?_) (fun zq5 => ?_)
    · refine wp_iload_n (pc := 24) (i := 3) d_22_24 rfl rfl ?_
      refine wp_icN (pc := 25) (m := 0) d_22_25 (by decide) ?_
      refine wq_mmaxN (pc := 26) d_22_26 mm_3_121 (Nat.le_of_ble_eq_true rfl) (by omega) (by omega) ?_
      exact wp_iret (pc := 29) d_22_29 (Or.inl rfl) (by rw [Nat.max_eq_left (Nat.zero_le _), hv]; rfl)
    · exact absurd zq5 (by decide)
  | succ i ih =>
    intro hin v hv
    refine wp_iload_n (pc := 4) (i := 3) d_22_4 rfl rfl ?_
    refine wp_ifN_le (pc := 5) (tgt := 24) d_22_5 (by decide) (by omega) (fun zq5 => ?_) (fun zq5 => ?_)
    · exact absurd zq5 (by omega)
    · refine wp_iload_n (pc := 8) (i := 0) d_22_8 rfl rfl ?_
      refine wp_iload_n (pc := 9) (i := 1) d_22_9 rfl rfl ?_
      refine wp_iload_n (pc := 10) (i := 3) d_22_10 rfl rfl ?_
      refine wp_iload_n (pc := 11) (i := 2) d_22_11 rfl rfl ?_
      refine wp_callS4p (pc := 12) d_22_12 lk_3_98 (by decide) rfl (Nat.le_of_ble_eq_true rfl) (c_damsIn (i := i + 1) hP (by omega) hw (by have := Nat.mul_le_mul_left w (show n - 1 - (i + 1) ≤ n - 1 by omega); omega)) ?_
      refine wp_ifN_ne (pc := 15) (tgt := 24) d_22_15 (by decide) (by have := dgN_lt w P (n - 1 - (i + 1)); have : 2 ^ w ≤ 2 ^ 6 := Nat.pow_le_pow_right (by decide) hw; omega) (fun zq15 => ?_) (fun zq15 => ?_)
      · refine wp_iload_n (pc := 24) (i := 3) d_22_24 rfl rfl ?_
        refine wp_icN (pc := 25) (m := 0) d_22_25 (by decide) ?_
        refine wq_mmaxN (pc := 26) d_22_26 mm_3_121 (Nat.le_of_ble_eq_true rfl) (by omega) (by decide) ?_
        exact wp_iret (pc := 29) d_22_29 (Or.inl rfl) (by rw [Nat.max_eq_left (Nat.zero_le _), hv, show fnN w P n (i + 1) = i + 1 from if_neg zq15])
      · refine wr_idec (pc := 18) (L2 := [_, _, _, _]) d_22_18 rfl rfl rfl ?_
        refine wp_goto (pc := 21) (tgt := 4) d_22_21 (by decide) ?_
        exact ih (by omega) v (by rw [hv]; exact if_pos zq15)
set_option maxRecDepth 4000 in
theorem c_firstNew {I : IT} {J : JT} {F : FT} {P n w : Nat} (hP : P < 2 ^ 31) (hw : w ≤ 6) (hwn : w * (n - 1) < 32) (hn31 : n < 2 ^ 31) (hn1 : 1 ≤ n) : Sp 22 [vI (nI P), vI (nI n), vI (nI w)] KK I J F (fun R => R = (some (vI (nI (fnN w P n (n - 1)))), KK, I, J, F)) := by
  refine Sp.mk2 (Nat.le_of_ble_eq_true rfl) (L2 := [_, _, _, _]) rfl ?_
  refine wp_iload_n (pc := 0) (i := 1) d_22_0 rfl rfl ?_
  refine wp_icN (pc := 1) (m := 1) d_22_1 (by decide) ?_
  refine wp_isubN (pc := 2) d_22_2 (by omega) ?_
  refine wq_istore_n (pc := 3) (L2 := [_, _, _, _]) (i := 3) d_22_3 rfl (Nat.le_of_ble_eq_true rfl) rfl rfl ?_
  exact firstNew_loop hP hw hwn hn31 (n - 1) (by omega) _ rfl
set_option maxRecDepth 4000 in
theorem c_firstNew0 {I : IT} {J : JT} {F : FT} {P w : Nat} : Sp 22 [vI (nI P), vI (nI 0), vI (nI w)] KK I J F (fun R => R = (some (vI (nI 0)), KK, I, J, F)) := by
  refine Sp.mk2 (Nat.le_of_ble_eq_true rfl) (L2 := [_, _, _, _]) rfl ?_
  refine wp_iload_n (pc := 0) (i := 1) d_22_0 rfl rfl ?_
  refine wp_icN (pc := 1) (m := 1) d_22_1 (by decide) ?_
  refine wp_isub (pc := 2) d_22_2 ?_
  refine wq_istore_n (pc := 3) (L2 := [_, _, _, _]) (i := 3) d_22_3 rfl (Nat.le_of_ble_eq_true rfl) rfl rfl ?_
  refine wp_iload_n (pc := 4) (i := 3) d_22_4 rfl rfl ?_
  refine wp_if_le (pc := 5) (tgt := 24) d_22_5 (by decide) (fun zq5 => ?_) (fun zq5 => ?_)
  · refine wp_iload_n (pc := 24) (i := 3) d_22_24 rfl rfl ?_
    refine wp_icN (pc := 25) (m := 0) d_22_25 (by decide) ?_
    refine wp_mmax (pc := 26) d_22_26 mm_3_121 (Nat.le_of_ble_eq_true rfl) ?_
    exact wp_iret (pc := 29) d_22_29 (Or.inl rfl) (by rw [show (if (nI 0 - nI 1) < (nI 0) then (nI 0) else (nI 0 - nI 1)) = nI 0 by decide])
  · exact absurd (by decide) zq5
theorem isS98 : isS 98 9 := Or.inr (Or.inl ⟨rfl, rfl⟩)
theorem isWs {F : FT} (hF : Fok F) {i : Nat} (hi : i < 9) : isW (98 + 8 + 5 * i) := (fSp hF isS98 hi).2
set_option maxRecDepth 4000 in
theorem c_step {I : IT} {J : JT} {F : FT} {n i dm rn t : Nat} {ρ τ : SN} (hF : Fok F) (hρ : ∀ k j, ρ k j ≤ 9) (hdm : dm < 64) (hrn : rn ≤ 9) (hok : okN t τ) (ht : t ≤ 1000) (hi : i + 1 < 9) (hT : atW I (98 + 8 + 5 * i) τ) (hR : atR I 12 ρ n) : Sp 24 [vR 92, vI (nI i), vI (nI dm), vI (nI rn)] KK I J F (fun R => ∃ I2, R = (none, KK, I2, J, F) ∧ atW I2 (98 + 8 + 5 * (i + 1)) (passN ρ n dm rn τ) ∧ offW (98 + 8 + 5 * (i + 1)) I I2) := by
  have hx1 := isWs hF (i := i + 1) hi
  have hx0 := isWs hF (i := i) (by omega)
  refine Sp.mk2 (Nat.le_of_ble_eq_true rfl) (L2 := [_, _, _, _, _]) rfl ?_
  refine wp_aload_n (pc := 0) (i := 0) d_24_0 rfl rfl ?_
  refine wp_gA (pc := 1) d_24_1 fl_3_23 rfl ft_2_3 (F_92_3 hF) ?_
  refine wp_iload_n (pc := 4) (i := 1) d_24_4 rfl rfl ?_
  refine wp_icN (pc := 5) (m := 1) d_24_5 (by decide) ?_
  refine wp_iaddN (pc := 6) d_24_6 ?_
  refine wp_callV1p (pc := 7) d_24_7 lk_3_106 (by decide) rfl (Nat.le_of_ble_eq_true rfl) (kS isS98).1 rfl (c_at hF isS98 (i := i + 1) hi) ?_
  refine wq_astore (pc := 10) (L2 := [_, _, _, _, _]) d_24_10 (Nat.le_of_ble_eq_true rfl) rfl rfl ?_
  refine wp_aload (pc := 12) d_24_12 rfl ?_
  refine wp_aload_n (pc := 14) (i := 0) d_24_14 rfl rfl ?_
  refine wp_gA (pc := 15) d_24_15 fl_3_23 rfl ft_2_3 (F_92_3 hF) ?_
  refine wp_iload_n (pc := 18) (i := 1) d_24_18 rfl rfl ?_
  refine wp_callV1p (pc := 19) d_24_19 lk_3_106 (by decide) rfl (Nat.le_of_ble_eq_true rfl) (kS isS98).1 rfl (c_at hF isS98 (i := i) (by omega)) ?_
  refine wp_callV1v (pc := 22) d_24_22 lk_3_41 (by decide) rfl (Nat.le_of_ble_eq_true rfl) (kW hx1) rfl (c_become hF hx1 hx0 (by omega) hT) (fun Iq22 hq22 => ?_)
  refine wp_aload (pc := 25) d_24_25 rfl ?_
  refine wp_aload_n (pc := 27) (i := 0) d_24_27 rfl rfl ?_
  refine wp_gA (pc := 28) d_24_28 fl_3_34 rfl ft_2_0 (F_92_0 hF) ?_
  refine wp_iload_n (pc := 31) (i := 2) d_24_31 rfl rfl ?_
  refine wp_iload_n (pc := 32) (i := 3) d_24_32 rfl rfl ?_
  refine wp_callV3e (pc := 33) d_24_33 lk_3_45 (by decide) rfl (Nat.le_of_ble_eq_true rfl) (kW hx1) rfl (c_pass hF hx1 isR12 hρ hdm hrn (ok29 hok ht hR.1) hq22.1 (atR_off isR12 hx1 hR hq22.2)) (fun Iq33 hq33 => ?_)
  refine wp_pop (pc := 36) d_24_36 rfl ?_
  exact wp_vret (pc := 37) d_24_37 rfl ⟨_, rfl, hq33.1, hq22.2.tr hq33.2⟩
/-- the states along a plan P, of q quarters, digits of n bits -/
def csN (ρ : SN) (n rn : Nat) (σ : SN) (q P : Nat) : Nat → SN
  | 0 => σ
  | i + 1 => passN ρ n (dgN n P (q - 1 - i)) rn (csN ρ n rn σ q P i)
theorem cs_ok {ρ σ : SN} {n rn t q P : Nat} (hn : n ≤ 6) (hrn : rn ≤ 9) (hρ : ∀ k j, ρ k j ≤ 9) (h : okN t σ) : ∀ k, okN (t + k) (csN ρ n rn σ q P k)
  | 0 => h
  | k + 1 => pass_ok hn hrn hρ (cs_ok hn hrn hρ h k)
theorem cs_cong {ρ σ : SN} {n rn q P P' : Nat} : ∀ {i : Nat}, (∀ j, j < i → dgN n P (q - 1 - j) = dgN n P' (q - 1 - j)) → csN ρ n rn σ q P i = csN ρ n rn σ q P' i
  | 0, _ => rfl
  | i + 1, h => by
    show passN ρ n (dgN n P (q - 1 - i)) rn (csN ρ n rn σ q P i) = passN ρ n (dgN n P' (q - 1 - i)) rn (csN ρ n rn σ q P' i)
    rw [h i (by omega), cs_cong (i := i) (fun j hj => h j (by omega))]
def cntP (ρ : SN) (n rn : Nat) (σ : SN) (q l : Nat) : Nat := pcn (bitsN (enN ρ (csN ρ n rn σ q (l * 2 ^ n) q)) n)
/-- the first best -/
def plN (f : Nat → Nat) : Nat → Nat × Nat
  | 0 => (0, f 0)
  | l + 1 => if (plN f l).2 < f (l + 1) then (l + 1, f (l + 1)) else plN f l
theorem plN_v (f : Nat → Nat) : ∀ i, (plN f i).2 = f (plN f i).1
  | 0 => rfl
  | i + 1 => by
    unfold plN
    split
    · rfl
    · exact plN_v f i
theorem plN_le (f : Nat → Nat) : ∀ i, (plN f i).1 ≤ i
  | 0 => Nat.le_refl _
  | i + 1 => by
    unfold plN
    have := plN_le f i
    split
    · exact Nat.le_refl _
    · omega
/-- nothing better than all -/
theorem plN_top {f : Nat → Nat} {m l : Nat} (hm : ∀ j, f j ≤ m) (h : m ≤ (plN f l).2) : ∀ d, plN f (l + d) = plN f l
  | 0 => rfl
  | d + 1 => by
    have ih := plN_top hm h d
    show (if (plN f (l + d)).2 < f (l + d + 1) then _ else plN f (l + d)) = _
    rw [ih, if_neg (by have := hm (l + d + 1); omega)]
/-- the digits ahead of the first new one are those of the plan before -/
theorem dg_plan : ∀ n, n ≤ 4 → ∀ q, q < 4 → ∀ l, l < 2 ^ min (n * (q - 1)) 8 → 0 < l → ∀ j, j < fnN n (l * 2 ^ n) q (q - 1) → dgN n (l * 2 ^ n) (q - 1 - j) = dgN n ((l - 1) * 2 ^ n) (q - 1 - j) := by decide +kernel
theorem pcn_n : ∀ n, n ≤ 6 → ∀ x, x < 2 ^ n → pcn x ≤ n := by decide +kernel
theorem cntP_le {ρ σ : SN} {n rn q : Nat} (hn : n ≤ 6) (l : Nat) : cntP ρ n rn σ q l ≤ n := pcn_n n hn _ (bitsN_lt _ _)
def offP (I I2 : IT) : Prop := ∀ a, a ≠ 92 → (a < 93 ∨ 150 < a) → I2 a = I a
theorem offP.A {I I2 : IT} {σ : SN} (h : offP I I2) (hA : atW I 18 σ) : atW I2 18 σ := ⟨fun k hk j hj => by rw [h (18 + 1 + k) (by omega) (by omega)]; exact hA.1 k hk j hj, fun q h1 h2 => by rw [h 18 (by omega) (by omega)]; exact hA.2 q h1 h2⟩
theorem offP.R {I I2 : IT} {ρ : SN} {n : Nat} (h : offP I I2) (hR : atR I 12 ρ n) : atR I2 12 ρ n := atR_keep hR (fun a h1 h2 => h a (by omega) (by omega))
theorem offP.tr {I I2 I3 : IT} (h : offP I I2) (h2 : offP I2 I3) : offP I I3 := fun a h3 h4 => (h2 a h3 h4).trans (h a h3 h4)
theorem offP_s {I I2 : IT} {i : Nat} (hi : i < 9) (h : offW (98 + 8 + 5 * i) I I2) : offP I I2 := fun a h3 h4 => h a (by omega)
theorem offW.x {I I2 : IT} {i j : Nat} {τ : SN} (hij : i ≠ j) (h : offW (98 + 8 + 5 * i) I I2) (hT : atW I (98 + 8 + 5 * j) τ) : atW I2 (98 + 8 + 5 * j) τ :=
  ⟨fun k hk j' hj => by rw [h (98 + 8 + 5 * j + 1 + k) (by omega)]; exact hT.1 k hk j' hj, fun q h1 h2 => by rw [h (98 + 8 + 5 * j) (by omega)]; exact hT.2 q h1 h2⟩
set_option maxRecDepth 4000 in
theorem planIn_step {Po : RT → Prop} {I0 : IT} {J : JT} {F : FT} {n rn q t ld l : Nat} {v4 v5 : Int32} {ρ σ : SN} (hF : Fok F) (hρ : ∀ k j, ρ k j ≤ 9) (hrn : rn ≤ 9) (hok : okN t σ) (ht : t + 3 ≤ 1000) (hn4 : n ≤ 4) (hq3 : q ≤ 3) (hP31 : l * 2 ^ n < 2 ^ 31) (hk : ∀ (I : IT) (i : Nat), i = q → (∀ j, j ≤ i → atW I (98 + 8 + 5 * j) (csN ρ n rn σ q (l * 2 ^ n) j)) → atR I 12 ρ n → I 92 4 = v4 → I 92 5 = v5 → offP I0 I → Wp none 21 Po 105 [some (vR 92), some (vI (nI q)), some (vI (nI rn)), some (vI (nI n)), some (vI (nI ld)), some (vI (nI l)), some (vI (nI (l * 2 ^ n))), some (vI (nI i))] [] KK I J F) (i : Nat) (hi0 : i ≤ q) (I : IT) (hT : ∀ j, j ≤ i → atW I (98 + 8 + 5 * j) (csN ρ n rn σ q (l * 2 ^ n) j)) (hR : atR I 12 ρ n) (h4 : I 92 4 = v4) (h5 : I 92 5 = v5) (hoff : offP I0 I)
    (ih0 : ∀ i', i < q → i' = i + 1 → ∀ (I : IT), (∀ j, j ≤ i' → atW I (98 + 8 + 5 * j) (csN ρ n rn σ q (l * 2 ^ n) j)) → (atR I 12 ρ n) → (I 92 4 = v4) → (I 92 5 = v5) → (offP I0 I) → Wp none 21 Po 77 [some (vR 92), some (vI (nI q)), some (vI (nI rn)), some (vI (nI n)), some (vI (nI ld)), some (vI (nI l)), some (vI (nI (l * 2 ^ n))), some (vI (nI i'))] [] KK I J F) : Wp none 21 Po 77 [some (vR 92), some (vI (nI q)), some (vI (nI rn)), some (vI (nI n)), some (vI (nI ld)), some (vI (nI l)), some (vI (nI (l * 2 ^ n))), some (vI (nI i))] [] KK I J F := by
  refine wp_iload (pc := 77) d_21_77 rfl ?_
  refine wp_iload_n (pc := 79) (i := 1) d_21_79 rfl rfl ?_
  refine wp_icmpN_ge (pc := 80) (tgt := 105) d_21_80 (by decide) (by omega) (by omega) (fun zq80 => ?_) (fun zq80 => ?_)
  · exact hk I i (by omega) hT hR h4 h5 hoff
  · refine wp_aload_n (pc := 83) (i := 0) d_21_83 rfl rfl ?_
    refine wp_iload (pc := 84) d_21_84 rfl ?_
    refine wp_iload (pc := 86) d_21_86 rfl ?_
    refine wp_iload_n (pc := 88) (i := 1) d_21_88 rfl rfl ?_
    refine wp_iload (pc := 89) d_21_89 rfl ?_
    refine wp_iload_n (pc := 91) (i := 3) d_21_91 rfl rfl ?_
    refine wp_callS4p (pc := 92) d_21_92 lk_3_98 (by decide) rfl (Nat.le_of_ble_eq_true rfl) (c_damsIn (P := l * 2 ^ n) (n := q) (i := i) (w := n) hP31 zq80 (by omega) (by have := Nat.mul_le_mul (show n ≤ 4 by omega) (show q - 1 - i ≤ 2 by omega); omega)) ?_
    refine wp_iload_n (pc := 95) (i := 2) d_21_95 rfl rfl ?_
    refine wp_callV3v (pc := 96) d_21_96 lk_3_102 (by decide) rfl (Nat.le_of_ble_eq_true rfl) rfl rfl (c_step hF hρ (dm := dgN n (l * 2 ^ n) (q - 1 - i)) (Nat.lt_of_lt_of_le (dgN_lt _ _ _) (p64 (by omega))) hrn (cs_ok (by omega) hrn hρ hok i) (by omega) (by omega) (hT i (Nat.le_refl i)) hR) (fun Iq96 hq96 => ?_)
    refine wq_iincN (pc := 99) (L2 := [_, _, _, _, _, _, _, _]) d_21_99 rfl (b := 1) (by decide) rfl rfl ?_
    refine wp_goto (pc := 102) (tgt := 77) d_21_102 (by decide) ?_
    refine ih0 (i + 1) zq80 rfl _ (fun j hj => ?_) (atR_off isR12 (isWs hF (by omega)) hR hq96.2) (by rw [hq96.2 92 (by omega)]; exact h4) (by rw [hq96.2 92 (by omega)]; exact h5) (hoff.tr (offP_s (by omega) hq96.2))
    by_cases e : j = i + 1
    · subst e; exact hq96.1
    · exact hq96.2.x (fun h => e h.symm) (hT j (by omega))
theorem planIn_loop {Po : RT → Prop} {I0 : IT} {J : JT} {F : FT} {n rn q t ld l : Nat} {v4 v5 : Int32} {ρ σ : SN} (hF : Fok F) (hρ : ∀ k j, ρ k j ≤ 9) (hrn : rn ≤ 9) (hok : okN t σ) (ht : t + 3 ≤ 1000) (hn4 : n ≤ 4) (hq3 : q ≤ 3) (hP31 : l * 2 ^ n < 2 ^ 31) (hk : ∀ (I : IT) (i : Nat), i = q → (∀ j, j ≤ i → atW I (98 + 8 + 5 * j) (csN ρ n rn σ q (l * 2 ^ n) j)) → atR I 12 ρ n → I 92 4 = v4 → I 92 5 = v5 → offP I0 I → Wp none 21 Po 105 [some (vR 92), some (vI (nI q)), some (vI (nI rn)), some (vI (nI n)), some (vI (nI ld)), some (vI (nI l)), some (vI (nI (l * 2 ^ n))), some (vI (nI i))] [] KK I J F) : ∀ (d i : Nat), i + d = q → ∀ (I : IT), (∀ j, j ≤ i → atW I (98 + 8 + 5 * j) (csN ρ n rn σ q (l * 2 ^ n) j)) → (atR I 12 ρ n) → (I 92 4 = v4) → (I 92 5 = v5) → (offP I0 I) → Wp none 21 Po 77 [some (vR 92), some (vI (nI q)), some (vI (nI rn)), some (vI (nI n)), some (vI (nI ld)), some (vI (nI l)), some (vI (nI (l * 2 ^ n))), some (vI (nI i))] [] KK I J F := by
  intro d
  induction d with
  | zero =>
    intro i hid I hT hR h4 h5 hoff
    exact planIn_step hF hρ hrn hok ht hn4 hq3 hP31 hk i (by omega) I hT hR h4 h5 hoff (fun i' hlt => absurd hlt (by omega))
  | succ d ih =>
    intro i hid I hT hR h4 h5 hoff
    exact planIn_step hF hρ hrn hok ht hn4 hq3 hP31 hk i (by omega) I hT hR h4 h5 hoff (fun i' hlt he => ih i' (by omega))

theorem fn_zero : ∀ n, n ≤ 4 → ∀ q, q < 4 → fnN n (0 * 2 ^ n) q (q - 1) = 0 := by decide +kernel
theorem offP_f {I I2 : IT} {q : Nat} {x : Int32} (u : Up I I2 92 q x) : offP I I2 := fun a h _ => u.2 a h
theorem atW_92 {I I2 : IT} {q j : Nat} {x : Int32} {τ : SN} (u : Up I I2 92 q x) (h : atW I (98 + 8 + 5 * j) τ) : atW I2 (98 + 8 + 5 * j) τ := ⟨fun k hk j' hj => by rw [u.off (by omega)]; exact h.1 k hk j' hj, fun q h1 h2 => by rw [u.off (by omega)]; exact h.2 q h1 h2⟩
set_option maxRecDepth 4000 in
theorem plan_step {I0 : IT} {J : JT} {F : FT} {n rn q t ld : Nat} {ρ σ : SN} (hF : Fok F) (hρ : ∀ k j, ρ k j ≤ 9) (hrn : rn ≤ 9) (hok : okN t σ) (ht : t + 3 ≤ 1000) (hn4 : n ≤ 4) (hq1 : 1 ≤ q) (hq3 : q ≤ 3) (hld : ld = 2 ^ min (n * (q - 1)) 8) (hld8 : ld ≤ 256) (hA0 : atW I0 18 σ) (hR0 : atR I0 12 ρ n) (l : Nat) (hi0 : l ≤ ld) (I : IT) (x6 : Option VV) (x7 : Option VV) (hA : atW I 18 σ) (hR : atR I 12 ρ n) (hch : ∀ j, j ≤ q → (l = 0 → j = 0) → atW I (98 + 8 + 5 * j) (csN ρ n rn σ q ((l - 1) * 2 ^ n) j)) (hst : (l = 0 ∧ I 92 4 = nI 0 ∧ I 92 5 = (-1)) ∨ ∃ k, l = k + 1 ∧ I 92 4 = nI ((plN (cntP ρ n rn σ q) k).1 * 2 ^ n) ∧ I 92 5 = nI (plN (cntP ρ n rn σ q) k).2) (hoff : offP I0 I)
    (ih0 : ∀ i', l < ld → i' = l + 1 → ∀ (I : IT) (x6 : Option VV) (x7 : Option VV), (atW I 18 σ) → (atR I 12 ρ n) → (∀ j, j ≤ q → (i' = 0 → j = 0) → atW I (98 + 8 + 5 * j) (csN ρ n rn σ q ((i' - 1) * 2 ^ n) j)) → ((i' = 0 ∧ I 92 4 = nI 0 ∧ I 92 5 = (-1)) ∨ ∃ k, i' = k + 1 ∧ I 92 4 = nI ((plN (cntP ρ n rn σ q) k).1 * 2 ^ n) ∧ I 92 5 = nI (plN (cntP ρ n rn σ q) k).2) → (offP I0 I) → Wp none 21 (fun R => ∃ I2, R = (none, KK, I2, J, F) ∧ I2 92 4 = nI ((plN (cntP ρ n rn σ q) (ld - 1)).1 * 2 ^ n) ∧ I2 92 5 = nI (plN (cntP ρ n rn σ q) (ld - 1)).2 ∧ offP I0 I2) 47 [some (vR 92), some (vI (nI q)), some (vI (nI rn)), some (vI (nI n)), some (vI (nI ld)), some (vI (nI i')), x6, x7] [] KK I J F) : Wp none 21 (fun R => ∃ I2, R = (none, KK, I2, J, F) ∧ I2 92 4 = nI ((plN (cntP ρ n rn σ q) (ld - 1)).1 * 2 ^ n) ∧ I2 92 5 = nI (plN (cntP ρ n rn σ q) (ld - 1)).2 ∧ offP I0 I2) 47 [some (vR 92), some (vI (nI q)), some (vI (nI rn)), some (vI (nI n)), some (vI (nI ld)), some (vI (nI l)), x6, x7] [] KK I J F := by
  refine wp_iload (pc := 47) d_21_47 rfl ?_
  refine wp_iload (pc := 49) d_21_49 rfl ?_
  refine wp_icmpN_ge (pc := 51) (tgt := 152) d_21_51 (by decide) (by omega) (by omega) (fun zq51 => ?_) (fun zq51 => ?_)
  · rcases hst with ⟨g1, g2, g3⟩ | ⟨k, g1, g2, g3⟩
    · exact absurd zq51 (by have h9 : 1 ≤ ld := (by rw [hld]; exact Nat.one_le_two_pow); omega)
    · exact wp_vret (pc := 152) d_21_152 rfl ⟨_, rfl, by rw [g2, show k = ld - 1 by omega], by rw [g3, show k = ld - 1 by omega], hoff⟩
  · have hlt : l < ld := zq51
    have hn16 : 2 ^ n ≤ 16 := Nat.pow_le_pow_right (by decide) hn4
    have hPl : l * 2 ^ n ≤ 256 * 16 := Nat.mul_le_mul (by omega) hn16
    have hP31 : l * 2 ^ n < 2 ^ 31 := by omega
    rcases hst with ⟨g1, g2, g3⟩ | ⟨k, g1, g2, g3⟩
    · have hcl : (cntP ρ n rn σ q) l ≤ n := cntP_le (by omega) l
      refine wp_aload_n (pc := 54) (i := 0) d_21_54 rfl rfl ?_
      refine wp_gI (pc := 55) d_21_55 fl_3_31 rfl ft_2_5 g3 ?_
      refine wp_iload_n (pc := 58) (i := 3) d_21_58 rfl rfl ?_
      refine wp_icmp_ge (pc := 59) (tgt := 152) d_21_59 (by decide) (fun zq59 => ?_) (fun zq59 => ?_)
      · exact absurd zq59 (Int32.not_le.mpr (neg1_lt (by omega)))
      · refine wp_iload (pc := 62) d_21_62 rfl ?_
        refine wp_iload_n (pc := 64) (i := 3) d_21_64 rfl rfl ?_
        refine wp_ishl (pc := 65) d_21_65 ?_
        rw [shl_c (by omega) (by omega)]
        refine wq_istore (pc := 66) (L2 := [_, _, _, _, _, _, _, _]) d_21_66 (Nat.le_of_ble_eq_true rfl) rfl rfl ?_
        refine wp_iload (pc := 68) d_21_68 rfl ?_
        refine wp_iload_n (pc := 70) (i := 1) d_21_70 rfl rfl ?_
        refine wp_iload_n (pc := 71) (i := 3) d_21_71 rfl rfl ?_
        refine wp_callS3p (pc := 72) d_21_72 lk_3_95 (by decide) rfl (Nat.le_of_ble_eq_true rfl) (c_firstNew (P := l * 2 ^ n) (n := q) (w := n) hP31 (by omega) (by have := Nat.mul_le_mul hn4 (show q - 1 ≤ 2 by omega); omega) (by omega) hq1) ?_
        refine wq_istore (pc := 75) (L2 := [_, _, _, _, _, _, _, _]) d_21_75 (Nat.le_of_ble_eq_true rfl) rfl rfl ?_
        have hi0q : fnN n (l * 2 ^ n) q (q - 1) ≤ q - 1 := fnN_le _ _ _ _
        refine planIn_loop (I0 := I) (v4 := I 92 4) (v5 := I 92 5) hF hρ hrn hok ht hn4 hq3 hP31 (fun I i hiq hT hR h4x h5x hoff2 => ?_) (q - fnN n (l * 2 ^ n) q (q - 1)) (fnN n (l * 2 ^ n) q (q - 1)) (by omega) I (fun j hj => ?_) hR rfl rfl (fun _ _ _ => rfl)
        · have h5 := h5x.trans g3
          have h4 := h4x.trans g2
          have hqi := hiq.symm
          subst hqi
          refine wp_aload_n (pc := 105) (i := 0) d_21_105 rfl rfl ?_
          refine wp_gA (pc := 106) d_21_106 fl_3_23 rfl ft_2_3 (F_92_3 hF) ?_
          refine wp_iload_n (pc := 109) (i := 1) d_21_109 rfl rfl ?_
          refine wp_callV1p (pc := 110) d_21_110 lk_3_106 (by decide) rfl (Nat.le_of_ble_eq_true rfl) (kS isS98).1 rfl (c_at hF isS98 (i := q) (by omega)) ?_
          refine wp_aload_n (pc := 113) (i := 0) d_21_113 rfl rfl ?_
          refine wp_gA (pc := 114) d_21_114 fl_3_34 rfl ft_2_0 (F_92_0 hF) ?_
          refine wp_callV1p (pc := 117) d_21_117 lk_3_66 (by decide) rfl (Nat.le_of_ble_eq_true rfl) (kW (isWs hF (by omega))) rfl (c_contentBits hF (isWs hF (by omega)) isR12 (hT q (Nat.le_refl q)) hR hρ ((cs_ok (by omega) hrn hρ hok q).g (by omega))) ?_
          refine wp_callS1p (pc := 120) d_21_120 lk_3_70 (by decide) rfl (Nat.le_of_ble_eq_true rfl) (c_bitCount (by have h9 := bits64 (enN ρ (csN ρ n rn σ q (l * 2 ^ n) q)) (show n ≤ 6 by omega); omega)) ?_
          refine wq_istore (pc := 123) (L2 := [_, _, _, _, _, _, _, _]) d_21_123 (Nat.le_of_ble_eq_true rfl) rfl rfl ?_
          refine wp_iload (pc := 125) d_21_125 rfl ?_
          refine wp_aload_n (pc := 127) (i := 0) d_21_127 rfl rfl ?_
          refine wp_gI (pc := 128) d_21_128 fl_3_31 rfl ft_2_5 h5 ?_
          refine wp_icmp_le (pc := 131) (tgt := 146) d_21_131 (by decide) (fun zq131 => ?_) (fun zq131 => ?_)
          · exact absurd zq131 (Int32.not_le.mpr (neg1_lt (Nat.lt_of_le_of_lt hcl (by omega))))
          · refine wp_aload_n (pc := 134) (i := 0) d_21_134 rfl rfl ?_
            refine wp_iload (pc := 135) d_21_135 rfl ?_
            refine wp_pI (pc := 137) d_21_137 fl_3_27 rfl ft_2_4 rfl (fun Iq137 uq137 => ?_)
            refine wp_aload_n (pc := 140) (i := 0) d_21_140 rfl rfl ?_
            refine wp_iload (pc := 141) d_21_141 rfl ?_
            refine wp_pI (pc := 143) d_21_143 fl_3_31 rfl ft_2_5 rfl (fun Iq143 uq143 => ?_)
            refine wq_iincN (pc := 146) (L2 := [_, _, _, _, _, _, _, _]) d_21_146 rfl (b := 1) (by decide) rfl rfl ?_
            refine wp_goto (pc := 149) (tgt := 47) d_21_149 (by decide) ?_
            refine ih0 (l + 1) hlt rfl _ _ _ ((((hoff.tr hoff2).tr (offP_f uq137)).tr (offP_f uq143)).A hA0) ((((hoff.tr hoff2).tr (offP_f uq137)).tr (offP_f uq143)).R hR0) (fun j hj hz => ?_) ?_ (((hoff.tr hoff2).tr (offP_f uq137)).tr (offP_f uq143))
            · exact atW_92 uq143 (atW_92 uq137 (by rw [Nat.add_sub_cancel]; exact hT j (by omega)))
            · exact Or.inr ⟨l, rfl, by rw [uq143.ne (by decide), uq137.at, g1]; rfl, by rw [uq143.at, g1]; rfl⟩
        · have hz : fnN n (l * 2 ^ n) q (q - 1) = 0 := by rw [g1]; exact fn_zero n hn4 q (by omega)
          have hj0 : j = 0 := by omega
          rw [hj0]
          exact hch 0 (by omega) (fun _ => rfl)
    · have hcl : (cntP ρ n rn σ q) l ≤ n := cntP_le (by omega) l
      have hfl : (plN (cntP ρ n rn σ q) k).2 ≤ n := by rw [plN_v]; exact cntP_le (by omega) _
      refine wp_aload_n (pc := 54) (i := 0) d_21_54 rfl rfl ?_
      refine wp_gI (pc := 55) d_21_55 fl_3_31 rfl ft_2_5 g3 ?_
      refine wp_iload_n (pc := 58) (i := 3) d_21_58 rfl rfl ?_
      refine wp_icmpN_ge (pc := 59) (tgt := 152) d_21_59 (by decide) (by omega) (by omega) (fun zq59 => ?_) (fun zq59 => ?_)
      · have htp : plN (cntP ρ n rn σ q) (ld - 1) = plN (cntP ρ n rn σ q) k := by rw [show ld - 1 = k + (ld - 1 - k) by omega]; exact plN_top (fun j => cntP_le (by omega) j) zq59 _
        exact wp_vret (pc := 152) d_21_152 rfl ⟨_, rfl, by rw [htp]; exact g2, by rw [htp]; exact g3, hoff⟩
      · refine wp_iload (pc := 62) d_21_62 rfl ?_
        refine wp_iload_n (pc := 64) (i := 3) d_21_64 rfl rfl ?_
        refine wp_ishl (pc := 65) d_21_65 ?_
        rw [shl_c (by omega) (by omega)]
        refine wq_istore (pc := 66) (L2 := [_, _, _, _, _, _, _, _]) d_21_66 (Nat.le_of_ble_eq_true rfl) rfl rfl ?_
        refine wp_iload (pc := 68) d_21_68 rfl ?_
        refine wp_iload_n (pc := 70) (i := 1) d_21_70 rfl rfl ?_
        refine wp_iload_n (pc := 71) (i := 3) d_21_71 rfl rfl ?_
        refine wp_callS3p (pc := 72) d_21_72 lk_3_95 (by decide) rfl (Nat.le_of_ble_eq_true rfl) (c_firstNew (P := l * 2 ^ n) (n := q) (w := n) hP31 (by omega) (by have := Nat.mul_le_mul hn4 (show q - 1 ≤ 2 by omega); omega) (by omega) hq1) ?_
        refine wq_istore (pc := 75) (L2 := [_, _, _, _, _, _, _, _]) d_21_75 (Nat.le_of_ble_eq_true rfl) rfl rfl ?_
        have hi0q : fnN n (l * 2 ^ n) q (q - 1) ≤ q - 1 := fnN_le _ _ _ _
        refine planIn_loop (I0 := I) (v4 := I 92 4) (v5 := I 92 5) hF hρ hrn hok ht hn4 hq3 hP31 (fun I i hiq hT hR h4x h5x hoff2 => ?_) (q - fnN n (l * 2 ^ n) q (q - 1)) (fnN n (l * 2 ^ n) q (q - 1)) (by omega) I (fun j hj => ?_) hR rfl rfl (fun _ _ _ => rfl)
        · have h5 := h5x.trans g3
          have h4 := h4x.trans g2
          have hqi := hiq.symm
          subst hqi
          refine wp_aload_n (pc := 105) (i := 0) d_21_105 rfl rfl ?_
          refine wp_gA (pc := 106) d_21_106 fl_3_23 rfl ft_2_3 (F_92_3 hF) ?_
          refine wp_iload_n (pc := 109) (i := 1) d_21_109 rfl rfl ?_
          refine wp_callV1p (pc := 110) d_21_110 lk_3_106 (by decide) rfl (Nat.le_of_ble_eq_true rfl) (kS isS98).1 rfl (c_at hF isS98 (i := q) (by omega)) ?_
          refine wp_aload_n (pc := 113) (i := 0) d_21_113 rfl rfl ?_
          refine wp_gA (pc := 114) d_21_114 fl_3_34 rfl ft_2_0 (F_92_0 hF) ?_
          refine wp_callV1p (pc := 117) d_21_117 lk_3_66 (by decide) rfl (Nat.le_of_ble_eq_true rfl) (kW (isWs hF (by omega))) rfl (c_contentBits hF (isWs hF (by omega)) isR12 (hT q (Nat.le_refl q)) hR hρ ((cs_ok (by omega) hrn hρ hok q).g (by omega))) ?_
          refine wp_callS1p (pc := 120) d_21_120 lk_3_70 (by decide) rfl (Nat.le_of_ble_eq_true rfl) (c_bitCount (by have h9 := bits64 (enN ρ (csN ρ n rn σ q (l * 2 ^ n) q)) (show n ≤ 6 by omega); omega)) ?_
          refine wq_istore (pc := 123) (L2 := [_, _, _, _, _, _, _, _]) d_21_123 (Nat.le_of_ble_eq_true rfl) rfl rfl ?_
          refine wp_iload (pc := 125) d_21_125 rfl ?_
          refine wp_aload_n (pc := 127) (i := 0) d_21_127 rfl rfl ?_
          refine wp_gI (pc := 128) d_21_128 fl_3_31 rfl ft_2_5 h5 ?_
          refine wp_icmpN_le (pc := 131) (tgt := 146) d_21_131 (by decide) (by have h9 := pcn_n n (by omega) _ (bitsN_lt (enN ρ (csN ρ n rn σ q (l * 2 ^ n) q)) n); omega) (by omega) (fun zq131 => ?_) (fun zq131 => ?_)
          · refine wq_iincN (pc := 146) (L2 := [_, _, _, _, _, _, _, _]) d_21_146 rfl (b := 1) (by decide) rfl rfl ?_
            refine wp_goto (pc := 149) (tgt := 47) d_21_149 (by decide) ?_
            refine ih0 (l + 1) hlt rfl _ _ _ ((hoff.tr hoff2).A hA0) ((hoff.tr hoff2).R hR0) (fun j hj hz => ?_) ?_ (hoff.tr hoff2)
            · rw [Nat.add_sub_cancel]; exact hT j (by omega)
            · have hpl : plN (cntP ρ n rn σ q) l = plN (cntP ρ n rn σ q) k := by rw [g1]; exact if_neg (by rw [← g1]; exact Nat.not_lt.mpr zq131)
              exact Or.inr ⟨l, rfl, by rw [h4, hpl], by rw [h5, hpl]⟩
          · refine wp_aload_n (pc := 134) (i := 0) d_21_134 rfl rfl ?_
            refine wp_iload (pc := 135) d_21_135 rfl ?_
            refine wp_pI (pc := 137) d_21_137 fl_3_27 rfl ft_2_4 rfl (fun Iq137 uq137 => ?_)
            refine wp_aload_n (pc := 140) (i := 0) d_21_140 rfl rfl ?_
            refine wp_iload (pc := 141) d_21_141 rfl ?_
            refine wp_pI (pc := 143) d_21_143 fl_3_31 rfl ft_2_5 rfl (fun Iq143 uq143 => ?_)
            refine wq_iincN (pc := 146) (L2 := [_, _, _, _, _, _, _, _]) d_21_146 rfl (b := 1) (by decide) rfl rfl ?_
            refine wp_goto (pc := 149) (tgt := 47) d_21_149 (by decide) ?_
            refine ih0 (l + 1) hlt rfl _ _ _ ((((hoff.tr hoff2).tr (offP_f uq137)).tr (offP_f uq143)).A hA0) ((((hoff.tr hoff2).tr (offP_f uq137)).tr (offP_f uq143)).R hR0) (fun j hj hz => ?_) ?_ (((hoff.tr hoff2).tr (offP_f uq137)).tr (offP_f uq143))
            · exact atW_92 uq143 (atW_92 uq137 (by rw [Nat.add_sub_cancel]; exact hT j (by omega)))
            · have hpl : plN (cntP ρ n rn σ q) l = (l, (cntP ρ n rn σ q) l) := by rw [g1]; exact if_pos (by rw [← g1]; exact zq131)
              exact Or.inr ⟨l, rfl, by rw [uq143.ne (by decide), uq137.at, hpl], by rw [uq143.at, hpl]; rfl⟩
        · have hc1 := hch j (by omega) (fun h => absurd h (by omega))
          rw [cs_cong (P := l * 2 ^ n) (P' := (l - 1) * 2 ^ n) (fun j2 hj2 => dg_plan n hn4 q (by omega) l (by rw [← hld]; exact hlt) (by omega) j2 (by omega))]
          exact hc1
theorem plan_loop {I0 : IT} {J : JT} {F : FT} {n rn q t ld : Nat} {ρ σ : SN} (hF : Fok F) (hρ : ∀ k j, ρ k j ≤ 9) (hrn : rn ≤ 9) (hok : okN t σ) (ht : t + 3 ≤ 1000) (hn4 : n ≤ 4) (hq1 : 1 ≤ q) (hq3 : q ≤ 3) (hld : ld = 2 ^ min (n * (q - 1)) 8) (hld8 : ld ≤ 256) (hA0 : atW I0 18 σ) (hR0 : atR I0 12 ρ n) : ∀ (d i : Nat), i + d = ld → ∀ (I : IT) (x6 : Option VV) (x7 : Option VV), (atW I 18 σ) → (atR I 12 ρ n) → (∀ j, j ≤ q → (i = 0 → j = 0) → atW I (98 + 8 + 5 * j) (csN ρ n rn σ q ((i - 1) * 2 ^ n) j)) → ((i = 0 ∧ I 92 4 = nI 0 ∧ I 92 5 = (-1)) ∨ ∃ k, i = k + 1 ∧ I 92 4 = nI ((plN (cntP ρ n rn σ q) k).1 * 2 ^ n) ∧ I 92 5 = nI (plN (cntP ρ n rn σ q) k).2) → (offP I0 I) → Wp none 21 (fun R => ∃ I2, R = (none, KK, I2, J, F) ∧ I2 92 4 = nI ((plN (cntP ρ n rn σ q) (ld - 1)).1 * 2 ^ n) ∧ I2 92 5 = nI (plN (cntP ρ n rn σ q) (ld - 1)).2 ∧ offP I0 I2) 47 [some (vR 92), some (vI (nI q)), some (vI (nI rn)), some (vI (nI n)), some (vI (nI ld)), some (vI (nI i)), x6, x7] [] KK I J F := by
  intro d
  induction d with
  | zero =>
    intro i hid I x6 x7 hA hR hch hst hoff
    exact plan_step hF hρ hrn hok ht hn4 hq1 hq3 hld hld8 hA0 hR0 i (by omega) I x6 x7 hA hR hch hst hoff (fun i' hlt => absurd hlt (by omega))
  | succ d ih =>
    intro i hid I x6 x7 hA hR hch hst hoff
    exact plan_step hF hρ hrn hok ht hn4 hq1 hq3 hld hld8 hA0 hR0 i (by omega) I x6 x7 hA hR hch hst hoff (fun i' hlt he => ih i' (by omega))

set_option maxRecDepth 4000 in
theorem c_makePlan {I0 : IT} {J : JT} {F : FT} {n rn q t : Nat} {ρ σ : SN} (hF : Fok F) (hρ : ∀ k j, ρ k j ≤ 9) (hrn : rn ≤ 9) (hok : okN t σ) (ht : t + 3 ≤ 1000) (hn4 : n ≤ 4) (hq1 : 1 ≤ q) (hq3 : q ≤ 3) (hA : atW I0 18 σ) (hR : atR I0 12 ρ n) : Sp 21 [vR 92, vI (nI q), vI (nI rn)] KK I0 J F (fun R => ∃ I2, R = (none, KK, I2, J, F) ∧ I2 92 4 = nI ((plN (cntP ρ n rn σ q) ((2 ^ min (n * (q - 1)) 8) - 1)).1 * 2 ^ n) ∧ I2 92 5 = nI (plN (cntP ρ n rn σ q) ((2 ^ min (n * (q - 1)) 8) - 1)).2 ∧ offP I0 I2) := by
  refine Sp.mk2 (Nat.le_of_ble_eq_true rfl) (L2 := [_, _, _, _, _, _, _, _]) rfl ?_
  refine wp_aload_n (pc := 0) (i := 0) d_21_0 rfl rfl ?_
  refine wp_gA (pc := 1) d_21_1 fl_3_34 rfl ft_2_0 (F_92_0 hF) ?_
  refine wp_callV0p (pc := 4) d_21_4 lk_3_49 (by decide) rfl (Nat.le_of_ble_eq_true rfl) (kR isR12) rfl (c_Rnumber isR12 hR) ?_
  refine wq_istore_n (pc := 7) (L2 := [_, _, _, _, _, _, _, _]) (i := 3) d_21_7 rfl (Nat.le_of_ble_eq_true rfl) rfl rfl ?_
  refine wp_icN (pc := 8) (m := 1) d_21_8 (by decide) ?_
  refine wp_iload_n (pc := 9) (i := 3) d_21_9 rfl rfl ?_
  refine wp_iload_n (pc := 10) (i := 1) d_21_10 rfl rfl ?_
  refine wp_icN (pc := 11) (m := 1) d_21_11 (by decide) ?_
  refine wp_isubN (pc := 12) d_21_12 hq1 ?_
  refine wp_imulN (pc := 13) d_21_13 ?_
  refine wp_bpN (pc := 14) (m := 8) d_21_14 (by decide) ?_
  refine wq_mminN (pc := 16) d_21_16 mm_3_85 (Nat.le_of_ble_eq_true rfl) (by have := Nat.mul_le_mul hn4 (show q - 1 ≤ 2 by omega); omega) (by decide) ?_
  refine wp_ishl (pc := 19) d_21_19 ?_
  rw [shl_c (by have := Nat.min_le_right (n * (q - 1)) 8; omega) (by have h9 : 2 ^ min (n * (q - 1)) 8 ≤ 2 ^ 8 := Nat.pow_le_pow_right (by decide) (Nat.min_le_right _ _); omega), Nat.one_mul]
  refine wq_istore (pc := 20) (L2 := [_, _, _, _, _, _, _, _]) d_21_20 (Nat.le_of_ble_eq_true rfl) rfl rfl ?_
  refine wp_aload_n (pc := 22) (i := 0) d_21_22 rfl rfl ?_
  refine wp_icN (pc := 23) (m := 0) d_21_23 (by decide) ?_
  refine wp_pI (pc := 24) d_21_24 fl_3_27 rfl ft_2_4 rfl (fun Iq24 uq24 => ?_)
  refine wp_aload_n (pc := 27) (i := 0) d_21_27 rfl rfl ?_
  refine wp_iconst (pc := 28) (v := (-1)) d_21_28 (by decide) ?_
  refine wp_pI (pc := 29) d_21_29 fl_3_31 rfl ft_2_5 rfl (fun Iq29 uq29 => ?_)
  have hA29 : atW Iq29 18 σ := ((offP_f uq24).tr (offP_f uq29)).A hA
  refine wp_aload_n (pc := 32) (i := 0) d_21_32 rfl rfl ?_
  refine wp_gA (pc := 33) d_21_33 fl_3_23 rfl ft_2_3 (F_92_3 hF) ?_
  refine wp_icN (pc := 36) (m := 0) d_21_36 (by decide) ?_
  refine wp_aload_n (pc := 37) (i := 0) d_21_37 rfl rfl ?_
  refine wp_gA (pc := 38) d_21_38 fl_3_38 rfl ft_2_1 (F_92_1 hF) ?_
  refine wp_callV2v (pc := 41) d_21_41 lk_3_91 (by decide) rfl (Nat.le_of_ble_eq_true rfl) (kS isS98).1 rfl (c_put hF isS98 (i := 0) (by decide) isW18 (by decide) hA29) (fun Iq41 hq41 => ?_)
  obtain ⟨Im, hm1, hm2, hm3⟩ := hq41
  have hof : offP I0 Iq41 := ((offP_f uq24).tr (offP_f uq29)).tr (fun a h1 h2 => by rw [hm3.2 a (by omega), hm2 a (by omega)])
  refine wp_icN (pc := 44) (m := 0) d_21_44 (by decide) ?_
  refine wq_istore (pc := 45) (L2 := [_, _, _, _, _, _, _, _]) d_21_45 (Nat.le_of_ble_eq_true rfl) rfl rfl ?_
  refine plan_loop hF hρ hrn hok ht hn4 hq1 hq3 rfl (Nat.pow_le_pow_right (by decide) (Nat.min_le_right _ _) : 2 ^ min (n * (q - 1)) 8 ≤ 2 ^ 8) hA hR (2 ^ min (n * (q - 1)) 8) 0 (by omega) _ _ _ (hof.A hA) (hof.R hR) (fun j hj hz => ?_) (Or.inl ⟨rfl, ?_, ?_⟩) hof
  · rw [hz rfl]
    exact ⟨fun k hk j hj => by rw [hm3.off (by omega)]; exact hm1.1 k hk j hj, fun q2 g1 g2 => by rw [hm3.off (by omega)]; exact hm1.2 q2 g1 g2⟩
  · rw [hm3.off (by decide), hm2 92 (by omega), uq29.ne (by decide)]; exact uq24.at
  · rw [hm3.off (by decide), hm2 92 (by omega)]; exact uq29.at
set_option maxRecDepth 4000 in
theorem c_contentByPlan {I : IT} {J : JT} {F : FT} {v : Nat} (hv : I 92 5 = nI v) : Sp 25 [vR 92] KK I J F (fun R => R = (some (vI (nI v)), KK, I, J, F)) := by
  refine Sp.mk2 (Nat.le_of_ble_eq_true rfl) (L2 := [_]) rfl ?_
  refine wp_aload_n (pc := 0) (i := 0) d_25_0 rfl rfl ?_
  refine wp_gI (pc := 1) d_25_1 fl_3_31 rfl ft_2_5 hv ?_
  exact wp_iret (pc := 4) d_25_4 (Or.inl rfl) rfl
set_option maxRecDepth 4000 in
theorem c_damsInPlan {I : IT} {J : JT} {F : FT} {P q i n : Nat} {ρ : SN} (hF : Fok F) (hv : I 92 4 = nI P) (hP : P < 2 ^ 31) (hi : i < q) (hn : n ≤ 6) (hwn : n * (q - 1 - i) < 32) (hR : atR I 12 ρ n) : Sp 26 [vR 92, vI (nI q), vI (nI i)] KK I J F (fun R => R = (some (vI (nI (dgN n P (q - 1 - i)))), KK, I, J, F)) := by
  refine Sp.mk2 (Nat.le_of_ble_eq_true rfl) (L2 := [_, _, _]) rfl ?_
  refine wp_aload_n (pc := 0) (i := 0) d_26_0 rfl rfl ?_
  refine wp_gI (pc := 1) d_26_1 fl_3_27 rfl ft_2_4 hv ?_
  refine wp_iload_n (pc := 4) (i := 1) d_26_4 rfl rfl ?_
  refine wp_iload_n (pc := 5) (i := 2) d_26_5 rfl rfl ?_
  refine wp_aload_n (pc := 6) (i := 0) d_26_6 rfl rfl ?_
  refine wp_gA (pc := 7) d_26_7 fl_3_34 rfl ft_2_0 (F_92_0 hF) ?_
  refine wp_callV0p (pc := 10) d_26_10 lk_3_49 (by decide) rfl (Nat.le_of_ble_eq_true rfl) (kR isR12) rfl (c_Rnumber isR12 hR) ?_
  refine wp_callS4p (pc := 13) d_26_13 lk_3_98 (by decide) rfl (Nat.le_of_ble_eq_true rfl) (c_damsIn hP hi hn hwn) ?_
  exact wp_iret (pc := 16) d_26_16 (Or.inl rfl) rfl
