set_option maxRecDepth 4000 in
theorem power_step {I : IT} {J : JT} {F : FT} {b ee : Nat} (he : ee < 2 ^ 31) (i : Nat) (hi0 : i ≤ ee) (x : Nat) (hx : x = b ^ i)
    (ih0 : ∀ i', i < ee → i' = i + 1 → ∀ (x : Nat), (x = b ^ i') → Wp none 113 (fun R => R = (some (vL (lN (b ^ ee))), KK, I, J, F)) 5 [some (vL (lN b)), none, some (vI (nI ee)), some (vL (lN x)), none, some (vI (nI i'))] [] KK I J F) : Wp none 113 (fun R => R = (some (vL (lN (b ^ ee))), KK, I, J, F)) 5 [some (vL (lN b)), none, some (vI (nI ee)), some (vL (lN x)), none, some (vI (nI i))] [] KK I J F := by
  refine wp_iload (pc := 5) d_113_5 rfl ?_
  refine wp_iload_n (pc := 7) (i := 2) d_113_7 rfl rfl ?_
  refine wp_icmpN_ge (pc := 8) (tgt := 21) d_113_8 (by decide) (by omega) he (fun zq8 => ?_) (fun zq8 => ?_)
  · refine wp_lload_n (pc := 21) (i := 3) d_113_21 rfl rfl ?_
    exact wp_lret (pc := 22) d_113_22 rfl (by rw [hx, show i = ee by omega])
  · refine wp_lload_n (pc := 11) (i := 3) d_113_11 rfl rfl ?_
    refine wp_lload_n (pc := 12) (i := 0) d_113_12 rfl rfl ?_
    refine wr_lmulM (pc := 13) d_113_13 ?_
    refine wq_lstore_n (pc := 14) (L2 := [_, _, _, _, _, _]) (i := 3) d_113_14 rfl (Nat.le_of_ble_eq_true rfl) rfl rfl ?_
    refine wq_iincN (pc := 15) (L2 := [_, _, _, _, _, _]) d_113_15 rfl (b := 1) (by decide) rfl rfl ?_
    refine wp_goto (pc := 18) (tgt := 5) d_113_18 (by decide) ?_
    exact ih0 (i + 1) zq8 rfl _ (by rw [hx]; exact (Nat.pow_succ b i).symm)
theorem power_loop {I : IT} {J : JT} {F : FT} {b ee : Nat} (he : ee < 2 ^ 31) : ∀ (d i : Nat), i + d = ee → ∀ (x : Nat), (x = b ^ i) → Wp none 113 (fun R => R = (some (vL (lN (b ^ ee))), KK, I, J, F)) 5 [some (vL (lN b)), none, some (vI (nI ee)), some (vL (lN x)), none, some (vI (nI i))] [] KK I J F := by
  intro d
  induction d with
  | zero =>
    intro i hid x hx
    exact power_step he i (by omega) x hx (fun i' hlt => absurd hlt (by omega))
  | succ d ih =>
    intro i hid x hx
    exact power_step he i (by omega) x hx (fun i' hlt he => ih i' (by omega))

set_option maxRecDepth 4000 in
theorem c_power {I : IT} {J : JT} {F : FT} {b ee : Nat} (he : ee < 2 ^ 31) : Sp 113 [vL (lN b), vI (nI ee)] KK I J F (fun R => R = (some (vL (lN (b ^ ee))), KK, I, J, F)) := by
  refine Sp.mk2 (Nat.le_of_ble_eq_true rfl) (L2 := [_, _, _, _, _, _]) rfl ?_
  refine wp_lconst (pc := 0) (v := lN 1) d_113_0 (by decide) ?_
  refine wq_lstore_n (pc := 1) (L2 := [_, _, _, _, _, _]) (i := 3) d_113_1 rfl (Nat.le_of_ble_eq_true rfl) rfl rfl ?_
  refine wp_icN (pc := 2) (m := 0) d_113_2 (by decide) ?_
  refine wq_istore (pc := 3) (L2 := [_, _, _, _, _, _]) d_113_3 (Nat.le_of_ble_eq_true rfl) rfl rfl ?_
  exact power_loop he ee 0 (by omega) 1 (by rw [Nat.pow_zero])
theorem c_firstNewA {I : IT} {J : JT} {F : FT} {P q : Nat} (hP : P < 2 ^ 31) (hq : q ≤ 8) : Sp 22 [vI (nI P), vI (nI q), vI (nI 1)] KK I J F (fun R => R = (some (vI (nI (fnN 1 P q (q - 1)))), KK, I, J, F)) := by
  match q, hq with
  | 0, _ => exact c_firstNew0
  | q + 1, hq => exact c_firstNew hP (by decide) (by omega) (by omega) (by omega)
/-- the states along a row P of rain or none, of q quarters -/
def clN (ρ : SN) (n dm rn : Nat) (σ : SN) (q P : Nat) : Nat → SN
  | 0 => σ
  | i + 1 => passN ρ n dm (dgN 1 P (q - 1 - i) * rn) (clN ρ n dm rn σ q P i)
theorem dg1 (P m : Nat) : dgN 1 P m ≤ 1 := by have := dgN_lt 1 P m; omega
theorem dg1r {rn : Nat} (h : rn ≤ 9) (P m : Nat) : dgN 1 P m * rn ≤ 9 := by have := Nat.mul_le_mul (dg1 P m) h; omega
theorem cl_ok {ρ σ : SN} {n dm rn t q P : Nat} (hn : n ≤ 6) (hrn : rn ≤ 9) (hρ : ∀ k j, ρ k j ≤ 9) (h : okN t σ) : ∀ k, okN (t + k) (clN ρ n dm rn σ q P k)
  | 0 => h
  | k + 1 => pass_ok hn (dg1r hrn _ _) hρ (cl_ok hn hrn hρ h k)
theorem cl_cong {ρ σ : SN} {n dm rn q P P' : Nat} : ∀ {i : Nat}, (∀ j, j < i → dgN 1 P (q - 1 - j) = dgN 1 P' (q - 1 - j)) → clN ρ n dm rn σ q P i = clN ρ n dm rn σ q P' i
  | 0, _ => rfl
  | i + 1, h => by
    show passN ρ n dm (dgN 1 P (q - 1 - i) * rn) (clN ρ n dm rn σ q P i) = passN ρ n dm (dgN 1 P' (q - 1 - i) * rn) (clN ρ n dm rn σ q P' i)
    rw [h i (by omega), cl_cong (i := i) (fun j hj => h j (by omega))]
theorem dg_luck : ∀ q, q ≤ 8 → ∀ P, P < 2 ^ q → 0 < P → ∀ j, j < fnN 1 P q (q - 1) → dgN 1 P (q - 1 - j) = dgN 1 (P - 1) (q - 1 - j) := by decide +kernel
theorem fn_zero1 : ∀ q, q ≤ 8 → fnN 1 0 q (q - 1) = 0 := by decide +kernel
theorem pcn_n8 : ∀ n, n ≤ 8 → ∀ x, x < 2 ^ n → pcn x ≤ n := by decide +kernel
/-- of the first m rows of rain, those by which it is enough, by their weights -/
def luN (ok : Nat → Bool) (x q : Nat) : Nat → Nat
  | 0 => 0
  | P + 1 => luN ok x q P + if ok P then x ^ pcn P * (10 - x) ^ (q - pcn P) else 0
set_option maxRecDepth 4000 in
theorem luckIn_step {Po : RT → Prop} {I0 : IT} {J : JT} {F : FT} {n rf rn q x t ws l : Nat} {ρ σ : SN} (hF : Fok F) (hρ : ∀ k j, ρ k j ≤ 9) (hrn : rn ≤ 9) (hok : okN t σ) (ht : t + 8 ≤ 1000) (hq8 : q ≤ 8) (hP31 : l < 2 ^ 31) (hk : ∀ (I : IT) (i : Nat), i = q → (∀ j, j ≤ i → atW I (98 + 8 + 5 * j) (clN ρ n (σ 4 7) rn σ q l j)) → atW I 18 σ → atR I 12 ρ n → offP I0 I → Wp none 29 Po 71 [some (vR 92), some (vI (nI rf)), some (vI (nI q)), some (vI (nI rn)), some (vI (nI x)), some (vL (lN ws)), none, some (vI (nI l)), some (vI (nI i))] [] KK I J F) (i : Nat) (hi0 : i ≤ q) (I : IT) (hT : ∀ j, j ≤ i → atW I (98 + 8 + 5 * j) (clN ρ n (σ 4 7) rn σ q l j)) (hA18 : atW I 18 σ) (hR : atR I 12 ρ n) (hoff : offP I0 I)
    (ih0 : ∀ i', i < q → i' = i + 1 → ∀ (I : IT), (∀ j, j ≤ i' → atW I (98 + 8 + 5 * j) (clN ρ n (σ 4 7) rn σ q l j)) → (atW I 18 σ) → (atR I 12 ρ n) → (offP I0 I) → Wp none 29 Po 35 [some (vR 92), some (vI (nI rf)), some (vI (nI q)), some (vI (nI rn)), some (vI (nI x)), some (vL (lN ws)), none, some (vI (nI l)), some (vI (nI i'))] [] KK I J F) : Wp none 29 Po 35 [some (vR 92), some (vI (nI rf)), some (vI (nI q)), some (vI (nI rn)), some (vI (nI x)), some (vL (lN ws)), none, some (vI (nI l)), some (vI (nI i))] [] KK I J F := by
  refine wp_iload (pc := 35) d_29_35 rfl ?_
  refine wp_iload_n (pc := 37) (i := 2) d_29_37 rfl rfl ?_
  refine wp_icmpN_ge (pc := 38) (tgt := 71) d_29_38 (by decide) (by omega) (by omega) (fun zq38 => ?_) (fun zq38 => ?_)
  · exact hk I i (by omega) hT hA18 hR hoff
  · refine wp_aload_n (pc := 41) (i := 0) d_29_41 rfl rfl ?_
    refine wp_iload (pc := 42) d_29_42 rfl ?_
    refine wp_aload_n (pc := 44) (i := 0) d_29_44 rfl rfl ?_
    refine wp_gA (pc := 45) d_29_45 fl_3_38 rfl ft_2_1 (F_92_1 hF) ?_
    refine wp_callV0p (pc := 48) d_29_48 lk_3_110 (by decide) rfl (Nat.le_of_ble_eq_true rfl) (kW isW18) rfl (c_damBits isW18 (hA18.2 7 (by decide) (by decide))) ?_
    refine wp_iload (pc := 51) d_29_51 rfl ?_
    refine wp_iload_n (pc := 53) (i := 2) d_29_53 rfl rfl ?_
    refine wp_iload (pc := 54) d_29_54 rfl ?_
    refine wp_icN (pc := 56) (m := 1) d_29_56 (by decide) ?_
    refine wp_callS4p (pc := 57) d_29_57 lk_3_98 (by decide) rfl (Nat.le_of_ble_eq_true rfl) (c_damsIn (P := l) (n := q) (i := i) (w := 1) hP31 zq38 (by decide) (by omega)) ?_
    refine wp_iload_n (pc := 60) (i := 3) d_29_60 rfl rfl ?_
    refine wp_imulN (pc := 61) d_29_61 ?_
    refine wp_callV3v (pc := 62) d_29_62 lk_3_102 (by decide) rfl (Nat.le_of_ble_eq_true rfl) rfl rfl (c_step hF hρ (dm := σ 4 7) (rn := dgN 1 l (q - 1 - i) * rn) hok.2.2.2.2.2 (dg1r hrn _ _) (cl_ok hR.1 hrn hρ hok i) (by omega) (by omega) (hT i (Nat.le_refl i)) hR) (fun Iq62 hq62 => ?_)
    refine wq_iincN (pc := 65) (L2 := [_, _, _, _, _, _, _, _, _]) d_29_65 rfl (b := 1) (by decide) rfl rfl ?_
    refine wp_goto (pc := 68) (tgt := 35) d_29_68 (by decide) ?_
    refine ih0 (i + 1) zq38 rfl _ (fun j hj => ?_) (?_) (atR_off isR12 (isWs hF (by omega)) hR hq62.2) (hoff.tr (offP_s (by omega) hq62.2))
    · by_cases e : j = i + 1
      · subst e; exact hq62.1
      · exact hq62.2.x (fun h => e h.symm) (hT j (by omega))
    · exact (offP_s (by omega) hq62.2).A hA18
theorem luckIn_loop {Po : RT → Prop} {I0 : IT} {J : JT} {F : FT} {n rf rn q x t ws l : Nat} {ρ σ : SN} (hF : Fok F) (hρ : ∀ k j, ρ k j ≤ 9) (hrn : rn ≤ 9) (hok : okN t σ) (ht : t + 8 ≤ 1000) (hq8 : q ≤ 8) (hP31 : l < 2 ^ 31) (hk : ∀ (I : IT) (i : Nat), i = q → (∀ j, j ≤ i → atW I (98 + 8 + 5 * j) (clN ρ n (σ 4 7) rn σ q l j)) → atW I 18 σ → atR I 12 ρ n → offP I0 I → Wp none 29 Po 71 [some (vR 92), some (vI (nI rf)), some (vI (nI q)), some (vI (nI rn)), some (vI (nI x)), some (vL (lN ws)), none, some (vI (nI l)), some (vI (nI i))] [] KK I J F) : ∀ (d i : Nat), i + d = q → ∀ (I : IT), (∀ j, j ≤ i → atW I (98 + 8 + 5 * j) (clN ρ n (σ 4 7) rn σ q l j)) → (atW I 18 σ) → (atR I 12 ρ n) → (offP I0 I) → Wp none 29 Po 35 [some (vR 92), some (vI (nI rf)), some (vI (nI q)), some (vI (nI rn)), some (vI (nI x)), some (vL (lN ws)), none, some (vI (nI l)), some (vI (nI i))] [] KK I J F := by
  intro d
  induction d with
  | zero =>
    intro i hid I hT hA18 hR hoff
    exact luckIn_step hF hρ hrn hok ht hq8 hP31 hk i (by omega) I hT hA18 hR hoff (fun i' hlt => absurd hlt (by omega))
  | succ d ih =>
    intro i hid I hT hA18 hR hoff
    exact luckIn_step hF hρ hrn hok ht hq8 hP31 hk i (by omega) I hT hA18 hR hoff (fun i' hlt he => ih i' (by omega))

set_option maxRecDepth 4000 in
theorem luck_step {I0 : IT} {J : JT} {F : FT} {n rf rn q x t : Nat} {ρ σ : SN} (hF : Fok F) (hρ : ∀ k j, ρ k j ≤ 9) (hrn : rn ≤ 9) (hok : okN t σ) (ht : t + 8 ≤ 1000) (hq8 : q ≤ 8) (hx10 : x ≤ 10) (hrf : rf < n) (h256 : 2 ^ q ≤ 256) (hA0 : atW I0 18 σ) (hR0 : atR I0 12 ρ n) (l : Nat) (hi0 : l ≤ 2 ^ q) (I : IT) (ws : Nat) (x8 : Option VV) (hA : atW I 18 σ) (hR : atR I 12 ρ n) (hch : ∀ j, j ≤ q → (l = 0 → j = 0) → atW I (98 + 8 + 5 * j) (clN ρ n (σ 4 7) rn σ q (l - 1) j)) (hws : ws = luN (fun P => enN ρ (clN ρ n (σ 4 7) rn σ q P q) rf) x q l) (hoff : offP I0 I)
    (ih0 : ∀ i', l < 2 ^ q → i' = l + 1 → ∀ (I : IT) (ws : Nat) (x8 : Option VV), (atW I 18 σ) → (atR I 12 ρ n) → (∀ j, j ≤ q → (i' = 0 → j = 0) → atW I (98 + 8 + 5 * j) (clN ρ n (σ 4 7) rn σ q (i' - 1) j)) → (ws = luN (fun P => enN ρ (clN ρ n (σ 4 7) rn σ q P q) rf) x q i') → (offP I0 I) → Wp none 29 (fun R => ∃ I2, R = (some (vL (lN (luN (fun P => enN ρ (clN ρ n (σ 4 7) rn σ q P q) rf) x q (2 ^ q)))), KK, I2, J, F) ∧ offP I0 I2) 18 [some (vR 92), some (vI (nI rf)), some (vI (nI q)), some (vI (nI rn)), some (vI (nI x)), some (vL (lN ws)), none, some (vI (nI i')), x8] [] KK I J F) : Wp none 29 (fun R => ∃ I2, R = (some (vL (lN (luN (fun P => enN ρ (clN ρ n (σ 4 7) rn σ q P q) rf) x q (2 ^ q)))), KK, I2, J, F) ∧ offP I0 I2) 18 [some (vR 92), some (vI (nI rf)), some (vI (nI q)), some (vI (nI rn)), some (vI (nI x)), some (vL (lN ws)), none, some (vI (nI l)), x8] [] KK I J F := by
  refine wp_iload (pc := 18) d_29_18 rfl ?_
  refine wp_icN (pc := 20) (m := 1) d_29_20 (by decide) ?_
  refine wp_iload_n (pc := 21) (i := 2) d_29_21 rfl rfl ?_
  refine wp_ishl (pc := 22) d_29_22 ?_
  rw [shl_c (by omega) (by omega), Nat.one_mul]
  refine wp_icmpN_ge (pc := 23) (tgt := 130) d_29_23 (by decide) (by omega) (by omega) (fun zq23 => ?_) (fun zq23 => ?_)
  · refine wp_lload (pc := 130) d_29_130 rfl ?_
    exact wp_lret (pc := 132) d_29_132 rfl ⟨_, by rw [hws, show l = 2 ^ q by omega], hoff⟩
  · have hlt : l < 2 ^ q := zq23
    have hP31 : l < 2 ^ 31 := by omega
    refine wp_iload (pc := 26) d_29_26 rfl ?_
    refine wp_iload_n (pc := 28) (i := 2) d_29_28 rfl rfl ?_
    refine wp_icN (pc := 29) (m := 1) d_29_29 (by decide) ?_
    refine wp_callS3p (pc := 30) d_29_30 lk_3_95 (by decide) rfl (Nat.le_of_ble_eq_true rfl) (c_firstNewA (P := l) hP31 hq8) ?_
    refine wq_istore (pc := 33) (L2 := [_, _, _, _, _, _, _, _, _]) d_29_33 (Nat.le_of_ble_eq_true rfl) rfl rfl ?_
    have hi0q : fnN 1 l q (q - 1) ≤ q - 1 := fnN_le _ _ _ _
    refine luckIn_loop (I0 := I) hF hρ hrn hok ht hq8 hP31 (fun I i hiq hT hA18 hR hoff2 => ?_) (q - fnN 1 l q (q - 1)) (fnN 1 l q (q - 1)) (by omega) I (fun j hj => ?_) hA hR (fun _ _ _ => rfl)
    · have hqi := hiq.symm
      subst hqi
      refine wp_aload_n (pc := 71) (i := 0) d_29_71 rfl rfl ?_
      refine wp_gA (pc := 72) d_29_72 fl_3_23 rfl ft_2_3 (F_92_3 hF) ?_
      refine wp_iload_n (pc := 75) (i := 2) d_29_75 rfl rfl ?_
      refine wp_callV1p (pc := 76) d_29_76 lk_3_106 (by decide) rfl (Nat.le_of_ble_eq_true rfl) (kS isS98).1 rfl (c_at hF isS98 (i := q) (by omega)) ?_
      refine wp_aload_n (pc := 79) (i := 0) d_29_79 rfl rfl ?_
      refine wp_gA (pc := 80) d_29_80 fl_3_34 rfl ft_2_0 (F_92_0 hF) ?_
      refine wp_iload_n (pc := 83) (i := 1) d_29_83 rfl rfl ?_
      refine wp_callV2p (pc := 84) d_29_84 lk_3_113 (by decide) rfl (Nat.le_of_ble_eq_true rfl) (kW (isWs hF (by omega))) rfl (c_isContent hF (isWs hF (by omega)) isR12 (hT q (Nat.le_refl q)) hR hrf (hρ 2 rf) ((cl_ok hR.1 hrn hρ hok q).g (by omega) rf (by have := hR.1; omega))) ?_
      refine wp_ifB_eq (pc := 87) (tgt := 124) d_29_87 (by decide) (fun zq87 => ?_) (fun zq87 => ?_)
      · refine wq_iincN (pc := 124) (L2 := [_, _, _, _, _, _, _, _, _]) d_29_124 rfl (b := 1) (by decide) rfl rfl ?_
        refine wp_goto (pc := 127) (tgt := 18) d_29_127 (by decide) ?_
        refine ih0 (l + 1) hlt rfl _ _ _ ((hoff.tr hoff2).A hA0) ((hoff.tr hoff2).R hR0) (fun j hj hz => by rw [Nat.add_sub_cancel]; exact hT j (by omega)) ?_ (hoff.tr hoff2)
        rw [hws]
        show _ = luN (fun P => enN ρ (clN ρ n (σ 4 7) rn σ q P q) rf) x q l + (if (fun P => enN ρ (clN ρ n (σ 4 7) rn σ q P q) rf) l then _ else 0)
        rw [show (fun P => enN ρ (clN ρ n (σ 4 7) rn σ q P q) rf) l = false from zq87]
        rfl
      · refine wp_iload (pc := 90) d_29_90 rfl ?_
        refine wp_callS1p (pc := 92) d_29_92 lk_3_70 (by decide) rfl (Nat.le_of_ble_eq_true rfl) (c_bitCount (x := l) (by omega)) ?_
        refine wq_istore (pc := 95) (L2 := [_, _, _, _, _, _, _, _, _]) d_29_95 (Nat.le_of_ble_eq_true rfl) rfl rfl ?_
        refine wp_lload (pc := 97) d_29_97 rfl ?_
        refine wp_iload (pc := 99) d_29_99 rfl ?_
        refine wr_i2lM (pc := 101) d_29_101 (by omega) ?_
        refine wp_iload (pc := 102) d_29_102 rfl ?_
        refine wp_callSN2p (pc := 104) d_29_104 lk_3_117 (by decide) rfl (Nat.le_of_ble_eq_true rfl) (c_power (by have h9 := pcn_n8 q hq8 l hlt; omega)) ?_
        refine wp_bpN (pc := 107) (m := 10) d_29_107 (by decide) ?_
        refine wp_iload (pc := 109) d_29_109 rfl ?_
        refine wp_isubN (pc := 111) d_29_111 hx10 ?_
        refine wr_i2lM (pc := 112) d_29_112 (by omega) ?_
        refine wp_iload_n (pc := 113) (i := 2) d_29_113 rfl rfl ?_
        refine wp_iload (pc := 114) d_29_114 rfl ?_
        refine wp_isubN (pc := 116) d_29_116 (pcn_n8 q hq8 l hlt) ?_
        refine wp_callSN2p (pc := 117) d_29_117 lk_3_117 (by decide) rfl (Nat.le_of_ble_eq_true rfl) (c_power (by omega)) ?_
        refine wr_lmulM (pc := 120) d_29_120 ?_
        refine wr_laddM (pc := 121) d_29_121 ?_
        refine wq_lstore (pc := 122) (L2 := [_, _, _, _, _, _, _, _, _]) d_29_122 (Nat.le_of_ble_eq_true rfl) rfl rfl ?_
        refine wq_iincN (pc := 124) (L2 := [_, _, _, _, _, _, _, _, _]) d_29_124 rfl (b := 1) (by decide) rfl rfl ?_
        refine wp_goto (pc := 127) (tgt := 18) d_29_127 (by decide) ?_
        refine ih0 (l + 1) hlt rfl _ _ _ ((hoff.tr hoff2).A hA0) ((hoff.tr hoff2).R hR0) (fun j hj hz => by rw [Nat.add_sub_cancel]; exact hT j (by omega)) ?_ (hoff.tr hoff2)
        rw [hws]
        show _ = luN (fun P => enN ρ (clN ρ n (σ 4 7) rn σ q P q) rf) x q l + (if (fun P => enN ρ (clN ρ n (σ 4 7) rn σ q P q) rf) l then _ else 0)
        rw [show (fun P => enN ρ (clN ρ n (σ 4 7) rn σ q P q) rf) l = true from zq87]
        rfl
    · by_cases hl0 : l = 0
      · have hz : fnN 1 l q (q - 1) = 0 := by rw [hl0]; exact fn_zero1 q hq8
        have hj0 : j = 0 := by omega
        rw [hj0]
        exact hch 0 (by omega) (fun _ => rfl)
      · have hc1 := hch j (by omega) (fun h => absurd h hl0)
        rw [cl_cong (P := l) (P' := l - 1) (fun j2 hj2 => dg_luck q hq8 l hlt (by omega) j2 (by omega))]
        exact hc1
theorem luck_loop {I0 : IT} {J : JT} {F : FT} {n rf rn q x t : Nat} {ρ σ : SN} (hF : Fok F) (hρ : ∀ k j, ρ k j ≤ 9) (hrn : rn ≤ 9) (hok : okN t σ) (ht : t + 8 ≤ 1000) (hq8 : q ≤ 8) (hx10 : x ≤ 10) (hrf : rf < n) (h256 : 2 ^ q ≤ 256) (hA0 : atW I0 18 σ) (hR0 : atR I0 12 ρ n) : ∀ (d i : Nat), i + d = 2 ^ q → ∀ (I : IT) (ws : Nat) (x8 : Option VV), (atW I 18 σ) → (atR I 12 ρ n) → (∀ j, j ≤ q → (i = 0 → j = 0) → atW I (98 + 8 + 5 * j) (clN ρ n (σ 4 7) rn σ q (i - 1) j)) → (ws = luN (fun P => enN ρ (clN ρ n (σ 4 7) rn σ q P q) rf) x q i) → (offP I0 I) → Wp none 29 (fun R => ∃ I2, R = (some (vL (lN (luN (fun P => enN ρ (clN ρ n (σ 4 7) rn σ q P q) rf) x q (2 ^ q)))), KK, I2, J, F) ∧ offP I0 I2) 18 [some (vR 92), some (vI (nI rf)), some (vI (nI q)), some (vI (nI rn)), some (vI (nI x)), some (vL (lN ws)), none, some (vI (nI i)), x8] [] KK I J F := by
  intro d
  induction d with
  | zero =>
    intro i hid I ws x8 hA hR hch hws hoff
    exact luck_step hF hρ hrn hok ht hq8 hx10 hrf h256 hA0 hR0 i (by omega) I ws x8 hA hR hch hws hoff (fun i' hlt => absurd hlt (by omega))
  | succ d ih =>
    intro i hid I ws x8 hA hR hch hws hoff
    exact luck_step hF hρ hrn hok ht hq8 hx10 hrf h256 hA0 hR0 i (by omega) I ws x8 hA hR hch hws hoff (fun i' hlt he => ih i' (by omega))

set_option maxRecDepth 4000 in
theorem c_luckOf {I0 : IT} {J : JT} {F : FT} {n rf rn q x t : Nat} {ρ σ : SN} (hF : Fok F) (hρ : ∀ k j, ρ k j ≤ 9) (hrn : rn ≤ 9) (hok : okN t σ) (ht : t + 8 ≤ 1000) (hq8 : q ≤ 8) (hx10 : x ≤ 10) (hrf : rf < n) (hA : atW I0 18 σ) (hR : atR I0 12 ρ n) : Sp 29 [vR 92, vI (nI rf), vI (nI q), vI (nI rn), vI (nI x)] KK I0 J F (fun R => ∃ I2, R = (some (vL (lN (luN (fun P => enN ρ (clN ρ n (σ 4 7) rn σ q P q) rf) x q (2 ^ q)))), KK, I2, J, F) ∧ offP I0 I2) := by
  refine Sp.mk2 (Nat.le_of_ble_eq_true rfl) (L2 := [_, _, _, _, _, _, _, _, _]) rfl ?_
  refine wp_lconst (pc := 0) (v := lN 0) d_29_0 (by decide) ?_
  refine wq_lstore (pc := 1) (L2 := [_, _, _, _, _, _, _, _, _]) d_29_1 (Nat.le_of_ble_eq_true rfl) rfl rfl ?_
  refine wp_aload_n (pc := 3) (i := 0) d_29_3 rfl rfl ?_
  refine wp_gA (pc := 4) d_29_4 fl_3_23 rfl ft_2_3 (F_92_3 hF) ?_
  refine wp_icN (pc := 7) (m := 0) d_29_7 (by decide) ?_
  refine wp_aload_n (pc := 8) (i := 0) d_29_8 rfl rfl ?_
  refine wp_gA (pc := 9) d_29_9 fl_3_38 rfl ft_2_1 (F_92_1 hF) ?_
  refine wp_callV2v (pc := 12) d_29_12 lk_3_91 (by decide) rfl (Nat.le_of_ble_eq_true rfl) (kS isS98).1 rfl (c_put hF isS98 (i := 0) (by decide) isW18 (by decide) hA) (fun Iq12 hq12 => ?_)
  obtain ⟨Im, hm1, hm2, hm3⟩ := hq12
  have hof : offP I0 Iq12 := (fun a h1 h2 => by rw [hm3.2 a (by omega), hm2 a (by omega)])
  refine wp_icN (pc := 15) (m := 0) d_29_15 (by decide) ?_
  refine wq_istore (pc := 16) (L2 := [_, _, _, _, _, _, _, _, _]) d_29_16 (Nat.le_of_ble_eq_true rfl) rfl rfl ?_
  refine luck_loop hF hρ hrn hok ht hq8 hx10 hrf (Nat.pow_le_pow_right (by decide) hq8 : 2 ^ q ≤ 2 ^ 8) hA hR (2 ^ q) 0 (by omega) _ 0 _ (hof.A hA) (hof.R hR) (fun j hj hz => ?_) rfl hof
  rw [hz rfl]
  exact ⟨fun k hk j hj => by rw [hm3.off (by omega)]; exact hm1.1 k hk j hj, fun q2 g1 g2 => by rw [hm3.off (by omega)]; exact hm1.2 q2 g1 g2⟩
/-- Euclid's steps -/
def gcN : Nat → Nat → Nat → Nat
  | 0, a, _ => a
  | k + 1, a, b => if b = 0 then a else gcN k b (a % b)
theorem lcmp0 {b : Nat} (hb : b < 2 ^ 63) : lg_cmp (lN b) (lN 0) = 0 ↔ b = 0 := by
  unfold lg_cmp
  by_cases h : b = 0
  · subst h
    simp
  · have h1 : lN 0 < lN b := (pk_lLT (by decide) hb).mpr (by omega)
    simp only [gt_iff_lt, h1, if_true, h, iff_false]
    decide
theorem ne0L {b : Nat} (hb : b < 2 ^ 63) (h : b ≠ 0) : ¬ lN b = 0 := fun q => h ((pk_lEQ hb (by decide)).mp q)
set_option maxRecDepth 4000 in
theorem cdiv_step {I : IT} {J : JT} {F : FT} {l0 l2 : VV} {v : Nat} (i : Nat) (hi0 : i ≤ 200) (a : Nat) (b : Nat) (x9 : Option VV) (ha : a < 2 ^ 63) (hb : b < 2 ^ 63) (hv : v = gcN (200 - i) a b)
    (ih0 : ∀ i', i < 200 → i' = i + 1 → ∀ (a : Nat) (b : Nat) (x9 : Option VV), (a < 2 ^ 63) → (b < 2 ^ 63) → (v = gcN (200 - i') a b) → Wp none 114 (fun R => R = (some (vL (lN v)), KK, I, J, F)) 9 [some l0, none, some l2, none, some (vL (lN a)), none, some (vL (lN b)), none, some (vI (nI i')), x9, none] [] KK I J F) : Wp none 114 (fun R => R = (some (vL (lN v)), KK, I, J, F)) 9 [some l0, none, some l2, none, some (vL (lN a)), none, some (vL (lN b)), none, some (vI (nI i)), x9, none] [] KK I J F := by
  refine wp_iload (pc := 9) d_114_9 rfl ?_
  refine wp_spN (pc := 11) (m := 200) d_114_11 (by decide) ?_
  refine wp_icmpN_ge (pc := 14) (tgt := 45) d_114_14 (by decide) (by omega) (by decide) (fun zq14 => ?_) (fun zq14 => ?_)
  · refine wp_lload (pc := 45) d_114_45 rfl ?_
    exact wp_lret (pc := 47) d_114_47 rfl (by rw [hv, show 200 - i = 0 by omega]; rfl)
  · refine wp_lload (pc := 17) d_114_17 rfl ?_
    refine wp_lconst (pc := 19) (v := lN 0) d_114_19 (by decide) ?_
    refine wp_lcmp (pc := 20) d_114_20 ?_
    refine wp_if_eq (pc := 21) (tgt := 45) d_114_21 (by decide) (fun zq21 => ?_) (fun zq21 => ?_)
    · refine wp_lload (pc := 45) d_114_45 rfl ?_
      exact wp_lret (pc := 47) d_114_47 rfl (by rw [hv, show 200 - i = (199 - i) + 1 by omega, show gcN ((199 - i) + 1) a b = a from if_pos ((lcmp0 hb).mp zq21)])
    · refine wp_lload (pc := 24) d_114_24 rfl ?_
      refine wp_lload (pc := 26) d_114_26 rfl ?_
      have hb0 : b ≠ 0 := fun h => zq21 ((lcmp0 hb).mpr h)
      refine wp_lrem (pc := 28) d_114_28 (ne0L hb hb0) ?_
      rw [pk_lRem ha (by omega) hb]
      refine wq_lstore (pc := 29) (L2 := [_, _, _, _, _, _, _, _, _, _, _]) d_114_29 (Nat.le_of_ble_eq_true rfl) rfl rfl ?_
      refine wp_lload (pc := 31) d_114_31 rfl ?_
      refine wq_lstore (pc := 33) (L2 := [_, _, _, _, _, _, _, _, _, _, _]) d_114_33 (Nat.le_of_ble_eq_true rfl) rfl rfl ?_
      refine wp_lload (pc := 35) d_114_35 rfl ?_
      refine wq_lstore (pc := 37) (L2 := [_, _, _, _, _, _, _, _, _, _, _]) d_114_37 (Nat.le_of_ble_eq_true rfl) rfl rfl ?_
      refine wq_iincN (pc := 39) (L2 := [_, _, _, _, _, _, _, _, _, _, _]) d_114_39 rfl (b := 1) (by decide) rfl rfl ?_
      refine wp_goto (pc := 42) (tgt := 9) d_114_42 (by decide) ?_
      exact ih0 (i + 1) zq14 rfl _ _ _ hb (Nat.lt_of_le_of_lt (Nat.mod_le a b) ha) (by rw [hv, show 200 - i = (200 - (i + 1)) + 1 by omega, show gcN ((200 - (i + 1)) + 1) a b = gcN (200 - (i + 1)) b (a % b) from if_neg hb0])
theorem cdiv_loop {I : IT} {J : JT} {F : FT} {l0 l2 : VV} {v : Nat} : ∀ (d i : Nat), i + d = 200 → ∀ (a : Nat) (b : Nat) (x9 : Option VV), (a < 2 ^ 63) → (b < 2 ^ 63) → (v = gcN (200 - i) a b) → Wp none 114 (fun R => R = (some (vL (lN v)), KK, I, J, F)) 9 [some l0, none, some l2, none, some (vL (lN a)), none, some (vL (lN b)), none, some (vI (nI i)), x9, none] [] KK I J F := by
  intro d
  induction d with
  | zero =>
    intro i hid a b x9 ha hb hv
    exact cdiv_step  i (by omega) a b x9 ha hb hv (fun i' hlt => absurd hlt (by omega))
  | succ d ih =>
    intro i hid a b x9 ha hb hv
    exact cdiv_step  i (by omega) a b x9 ha hb hv (fun i' hlt he => ih i' (by omega))

set_option maxRecDepth 4000 in
theorem c_commonDivisor {I : IT} {J : JT} {F : FT} {a b : Nat} (ha : a < 2 ^ 63) (hb : b < 2 ^ 63) : Sp 114 [vL (lN a), vL (lN b)] KK I J F (fun R => R = (some (vL (lN (gcN 200 a b))), KK, I, J, F)) := by
  refine Sp.mk2 (Nat.le_of_ble_eq_true rfl) (L2 := [_, _, _, _, _, _, _, _, _, _, _]) rfl ?_
  refine wp_lload_n (pc := 0) (i := 0) d_114_0 rfl rfl ?_
  refine wq_lstore (pc := 1) (L2 := [_, _, _, _, _, _, _, _, _, _, _]) d_114_1 (Nat.le_of_ble_eq_true rfl) rfl rfl ?_
  refine wp_lload_n (pc := 3) (i := 2) d_114_3 rfl rfl ?_
  refine wq_lstore (pc := 4) (L2 := [_, _, _, _, _, _, _, _, _, _, _]) d_114_4 (Nat.le_of_ble_eq_true rfl) rfl rfl ?_
  refine wp_icN (pc := 6) (m := 0) d_114_6 (by decide) ?_
  refine wq_istore (pc := 7) (L2 := [_, _, _, _, _, _, _, _, _, _, _]) d_114_7 (Nat.le_of_ble_eq_true rfl) rfl rfl ?_
  exact cdiv_loop 200 0 (by omega) a b _ ha hb rfl
