set_option maxRecDepth 4000 in
theorem msummer_step {I0 : IT} {J0 : JT} {F : FT} {t jr jm : Nat} {tx : Nat → Nat} {tl : Nat} {ρ : SN} {n : Nat} {σ : SN} {rg : Nat → SN} {nx na : Nat} {γ : SN} {gn : Nat} {sl : Nat → SN} {sf : Nat → Bool} {sd : Int64} (hF : Fok F) (hC : MR I0 J0 tx tl ρ n σ rg nx na γ gn sl sf sd) (hO : OKS t tx tl ρ n σ rg nx na γ gn sl sf) (ht : t + 100 ≤ 1000) (hjr : jr < n) (hjm : jm ≤ 40) (hin1 : inR (nI jr) n = true) (hin2 : inB (nI jm) (nI 1) (nI 40) = true) (hcjr : (nI jr).toNatClampNeg = jr) (hcjm : (nI jm).toNatClampNeg = jm) (i : Nat) (hi0 : i ≤ jm) (I : IT) (J : JT) (hT : mW (I 177) 30 (smS ρ n (σ 4 7) sd σ i)) (hsc : SCP I0 I) (hsd2 : J 173 23 = sdS sd i) (hJ : ∀ a, a ≠ 173 → J a = J0 a)
    (ih0 : ∀ i', i < jm → i' = i + 1 → ∀ (I : IT) (J : JT), (mW (I 177) 30 (smS ρ n (σ 4 7) sd σ i')) → (SCP I0 I) → (J 173 23 = sdS sd i') → (∀ a, a ≠ 173 → J a = J0 a) → Wp none 161 (PN (q_summer tx tl ρ n σ rg nx na γ gn sl sf sd (nI jr) (nI jm)) I0 J0 F) 31 [some (vR 173), some (vI (nI jr)), some (vI (nI jm)), some (vI (nI i'))] [] KK I J F) : Wp none 161 (PN (q_summer tx tl ρ n σ rg nx na γ gn sl sf sd (nI jr) (nI jm)) I0 J0 F) 31 [some (vR 173), some (vI (nI jr)), some (vI (nI jm)), some (vI (nI i))] [] KK I J F := by
  have hC0 := hC
  obtain ⟨hTx, hRo, hNo, hAc, hGa, hSl, hsd⟩ := hC
  obtain ⟨ht40, hx256, hρ, hok, hrg, hnx, hna, hgo, hsl, hz, hzr, hzs, hn6⟩ := hO
  have hd64 := hok.2.2.2.2.2
  have hgn6 := hGa.1
  have h12 : I0 177 (12 + jr) = nI (σ 2 jr) := mW0 hNo.1 (show 2 < 4 by decide) (show jr < 6 by omega)
  refine wp_iload_n (pc := 31) (i := 3) d_161_31 rfl rfl ?_
  refine wp_iload_n (pc := 32) (i := 2) d_161_32 rfl rfl ?_
  refine wp_icmpN_ge (pc := 33) (tgt := 81) d_161_33 (by decide) (by omega) (by omega) (fun zq33 => ?_) (fun zq33 => ?_)
  · have him : i = jm := by omega
    subst him
    refine wp_aload_n (pc := 81) (i := 0) d_161_81 rfl rfl ?_
    refine wp_gA (pc := 82) d_161_82 fl_10_19 rfl ft_9_4 (F_173_4 hF) ?_
    refine wp_bpN (pc := 85) (m := 42) d_161_85 (by decide) ?_
    refine wp_iload_n (pc := 87) (i := 1) d_161_87 rfl rfl ?_
    refine wp_iaddN (pc := 88) d_161_88 ?_
    refine wp_aL (pc := 89) (j := (42 + jr)) d_161_89 rfl rfl (by omega) (by decide) (hT.1 2 (by decide) jr (by omega)) ?_
    refine wp_aload_n (pc := 90) (i := 0) d_161_90 rfl rfl ?_
    refine wp_gA (pc := 91) d_161_91 fl_10_19 rfl ft_9_4 (F_173_4 hF) ?_
    refine wp_bpN (pc := 94) (m := 12) d_161_94 (by decide) ?_
    refine wp_iload_n (pc := 96) (i := 1) d_161_96 rfl rfl ?_
    refine wp_iaddN (pc := 97) d_161_97 ?_
    refine wp_aL (pc := 98) (j := (12 + jr)) d_161_98 rfl rfl (by omega) (by decide) ((hsc.1 _ (by omega)).trans h12) ?_
    refine wp_isubN (pc := 99) d_161_99 (sm_mono hjr i) ?_
    have hC2 := hC0.k hsc.M
    exact wp_iret (pc := 100) d_161_100 (Or.inl rfl) (PN.mk (by unfold q_summer; rw [if_pos hin1, if_pos hin2, hcjr, hcjm]) ⟨hC2.1, hC2.2.1, hC2.2.2.1, hC2.2.2.2.1, hC2.2.2.2.2.1, hC2.2.2.2.2.2.1, hsd2⟩ ⟨fun a ha => hsc.2 a (by omega) (by omega) (by omega), hJ 1 (by decide)⟩)
  · refine wp_aload_n (pc := 36) (i := 0) d_161_36 rfl rfl ?_
    refine wp_aload_n (pc := 37) (i := 0) d_161_37 rfl rfl ?_
    refine wp_gL (pc := 38) d_161_38 fl_10_167 rfl ft_9_23 hsd2 ?_
    refine wp_ldc2 (pc := 41) d_161_41 cs_10_173 ?_
    refine wp_lmul (pc := 44) d_161_44 ?_
    refine wp_ldc2 (pc := 45) d_161_45 cs_10_175 ?_
    refine wp_ladd (pc := 48) d_161_48 ?_
    refine wr_pJ (pc := 49) d_161_49 fl_10_167 rfl ft_9_23 rfl (fun Jq49 vq49 jq49 => ?_)
    refine wp_aload_n (pc := 52) (i := 0) d_161_52 rfl rfl ?_
    refine wp_bpN (pc := 53) (m := 30) d_161_53 (by decide) ?_
    refine wp_aload_n (pc := 55) (i := 0) d_161_55 rfl rfl ?_
    refine wp_gL (pc := 56) d_161_56 fl_10_167 rfl ft_9_23 vq49 ?_
    refine wp_bpN (pc := 59) (m := 33) d_161_59 (by decide) ?_
    refine wp_lushr (pc := 61) d_161_61 ?_
    rw [shr64 _ (by decide)]
    refine wr_ldc2M (pc := 62) (m := 10) d_161_62 cs_10_159 (by decide) ?_
    refine wp_lrem (pc := 65) d_161_65 (by decide) ?_
    rw [pk_lRem (Nat.lt_trans (u64_lt _) (by decide)) (by decide) (by decide)]
    refine wr_l2iM (pc := 66) d_161_66 ?_
    refine wp_aload_n (pc := 67) (i := 0) d_161_67 rfl rfl ?_
    refine wp_gI (pc := 68) d_161_68 fl_10_90 rfl ft_9_6 ((congrFun (hsc.2 173 (by decide) (by decide) (by decide)) _).trans hNo.2.2) ?_
    refine wp_callV3e (pc := 71) d_161_71 lk_10_121 (by decide) rfl (Nat.le_of_ble_eq_true rfl) rfl rfl (m_pass hF (hRo.s hsc.M) hρ (Nat.le_refl 30) hd64 (rnS9 _) (sm_ok hn6 hρ hok i) (by omega) hT) (fun Iq71 hq71 => ?_)
    refine wp_pop (pc := 74) d_161_74 rfl ?_
    refine wq_iincN (pc := 75) (L2 := [_, _, _, _]) d_161_75 rfl (b := 1) (by decide) rfl rfl ?_
    refine wp_goto (pc := 78) (tgt := 31) d_161_78 (by decide) ?_
    exact ih0 (i + 1) zq33 rfl _ _ hq71.1 (hsc.tr ⟨fun k hk => hq71.2.1 k (by omega), hq71.2.2⟩) vq49 (fun a ha => (jq49 a ha).trans (hJ a ha))
theorem msummer_loop {I0 : IT} {J0 : JT} {F : FT} {t jr jm : Nat} {tx : Nat → Nat} {tl : Nat} {ρ : SN} {n : Nat} {σ : SN} {rg : Nat → SN} {nx na : Nat} {γ : SN} {gn : Nat} {sl : Nat → SN} {sf : Nat → Bool} {sd : Int64} (hF : Fok F) (hC : MR I0 J0 tx tl ρ n σ rg nx na γ gn sl sf sd) (hO : OKS t tx tl ρ n σ rg nx na γ gn sl sf) (ht : t + 100 ≤ 1000) (hjr : jr < n) (hjm : jm ≤ 40) (hin1 : inR (nI jr) n = true) (hin2 : inB (nI jm) (nI 1) (nI 40) = true) (hcjr : (nI jr).toNatClampNeg = jr) (hcjm : (nI jm).toNatClampNeg = jm) : ∀ (d i : Nat), i + d = jm → ∀ (I : IT) (J : JT), (mW (I 177) 30 (smS ρ n (σ 4 7) sd σ i)) → (SCP I0 I) → (J 173 23 = sdS sd i) → (∀ a, a ≠ 173 → J a = J0 a) → Wp none 161 (PN (q_summer tx tl ρ n σ rg nx na γ gn sl sf sd (nI jr) (nI jm)) I0 J0 F) 31 [some (vR 173), some (vI (nI jr)), some (vI (nI jm)), some (vI (nI i))] [] KK I J F := by
  intro d
  induction d with
  | zero =>
    intro i hid I J hT hsc hsd2 hJ
    exact msummer_step hF hC hO ht hjr hjm hin1 hin2 hcjr hcjm i (by omega) I J hT hsc hsd2 hJ (fun i' hlt => absurd hlt (by omega))
  | succ d ih =>
    intro i hid I J hT hsc hsd2 hJ
    exact msummer_step hF hC hO ht hjr hjm hin1 hin2 hcjr hcjm i (by omega) I J hT hsc hsd2 hJ (fun i' hlt he => ih i' (by omega))

set_option maxRecDepth 4000 in
theorem m_gsummer {I : IT} {J : JT} {F : FT} {t : Nat} {tx : Nat → Nat} {tl : Nat} {ρ : SN} {n : Nat} {σ : SN} {rg : Nat → SN} {nx na : Nat} {γ : SN} {gn : Nat} {sl : Nat → SN} {sf : Nat → Bool} {sd : Int64} (hF : Fok F) (hC : MR I J tx tl ρ n σ rg nx na γ gn sl sf sd) (hO : OKS t tx tl ρ n σ rg nx na γ gn sl sf) (ht : t + 100 ≤ 1000) {x y : Int32} : Sp 161 [vR 173, vI x, vI y] KK I J F (PN (q_summer tx tl ρ n σ rg nx na γ gn sl sf sd x y) I J F) := by
  have hC0 := hC
  have hO0 := hO
  obtain ⟨hTx, hRo, hNo, hAc, hGa, hSl, hsd⟩ := hC
  obtain ⟨ht40, hx256, hρ, hok, hrg, hnx, hna, hgo, hsl, hz, hzr, hzs, hn6⟩ := hO
  have hd64 := hok.2.2.2.2.2
  have hgn6 := hGa.1
  refine Sp.mk2 (Nat.le_of_ble_eq_true rfl) (L2 := [_, _, _, _]) rfl ?_
  refine wp_aload_n (pc := 0) (i := 0) d_161_0 rfl rfl ?_
  refine wp_iload_n (pc := 1) (i := 1) d_161_1 rfl rfl ?_
  refine wp_callV1p (pc := 2) d_161_2 lk_10_99 (by decide) rfl (Nat.le_of_ble_eq_true rfl) rfl rfl (m_isRoof hF hRo x) ?_
  refine wp_ifB_ne (pc := 5) (tgt := 10) d_161_5 (by decide) (fun zq5 => ?_) (fun zq5 => ?_)
  · obtain ⟨jr, hjr, hxjr⟩ := inR_t zq5 (by omega)
    subst hxjr
    have hcjr : (nI jr).toNatClampNeg = jr := nI_clamp (by omega)
    refine wp_iload_n (pc := 10) (i := 2) d_161_10 rfl rfl ?_
    refine wp_i2l (pc := 11) d_161_11 ?_
    refine wp_lconst (pc := 12) (v := lN 1) d_161_12 (by decide) ?_
    refine wr_ldc2M (pc := 13) (m := 40) d_161_13 cs_10_171 (by decide) ?_
    refine wp_callS3p (pc := 16) d_161_16 lk_10_59 (by decide) rfl (Nat.le_of_ble_eq_true rfl) (c_inN y 1 40 (by decide) (by decide)) ?_
    refine wp_ifB_ne (pc := 19) (tgt := 25) d_161_19 (by decide) (fun zq19 => ?_) (fun zq19 => ?_)
    · obtain ⟨jm, h0jm, h1jm, hxjm⟩ := inB_t zq19 (by decide) (by decide)
      subst hxjm
      have hcjm : (nI jm).toNatClampNeg = jm := nI_clamp (by omega)
      refine wp_aload_n (pc := 25) (i := 0) d_161_25 rfl rfl ?_
      refine wp_callV0v (pc := 26) d_161_26 lk_10_124 (by decide) rfl (Nat.le_of_ble_eq_true rfl) rfl rfl (m_copy hF) (fun Iq26 hq26 => ?_)
      refine wp_icN (pc := 29) (m := 0) d_161_29 (by decide) ?_
      refine wq_istore_n (pc := 30) (L2 := [_, _, _, _]) (i := 3) d_161_30 rfl (Nat.le_of_ble_eq_true rfl) rfl rfl ?_
      have hcW : mW (Iq26 177) 30 σ := hNo.1.cp (fun q hq => by rw [Nat.zero_add]; exact hq26.1 q (by omega))
      exact msummer_loop hF hC0 hO0 ht hjr h1jm zq5 zq19 hcjr hcjm jm 0 (by omega) _ _ hcW ⟨fun k hk => hq26.2.1 k (Or.inl hk), fun a a1 _ _ => hq26.2.2 a a1⟩ hsd (fun _ _ => rfl)
    · refine wp_bipush (pc := 22) (v := (-2)) d_161_22 (by decide) ?_
      exact wp_iret (pc := 24) d_161_24 (Or.inl rfl) (PN.mk (by unfold q_summer; rw [if_pos zq5, if_neg (nT zq19)]) hC0 ⟨fun _ _ => rfl, rfl⟩)
  · refine wp_iconst (pc := 8) (v := (-1)) d_161_8 (by decide) ?_
    exact wp_iret (pc := 9) d_161_9 (Or.inl rfl) (PN.mk (by unfold q_summer; rw [if_neg (nT zq5)]) hC0 ⟨fun _ _ => rfl, rfl⟩)
def clM (ρ : SN) (n dm rn : Nat) (σ : SN) (c : Nat) : Nat → SN
  | 0 => σ
  | k + 1 => passN ρ n dm (c / 2 ^ k % 2 * rn) (clM ρ n dm rn σ c k)
def wtM (x c : Nat) : Nat → Nat
  | 0 => 1
  | k + 1 => wtM x c k * (if c / 2 ^ k % 2 = 1 then x else 10 - x)
theorem clM_ok {ρ σ : SN} {n dm rn t c : Nat} (hn : n ≤ 6) (hrn : rn ≤ 9) (hρ : ∀ k j, ρ k j ≤ 9) (h : okN t σ) : ∀ k, okN (t + k) (clM ρ n dm rn σ c k)
  | 0 => h
  | k + 1 => pass_ok hn (by have h1 : c / 2 ^ k % 2 ≤ 1 := by omega
                            have := Nat.mul_le_mul h1 hrn; omega) hρ (clM_ok hn hrn hρ h k)
/-- by all rows of q quarters -/
def lkT (ρ : SN) (n dm rn rf x : Nat) : Nat → SN → Nat
  | 0, τ => if enN ρ τ rf then 1 else 0
  | k + 1, τ => (10 - x) * lkT ρ n dm rn rf x k (passN ρ n dm 0 τ) + x * lkT ρ n dm rn rf x k (passN ρ n dm rn τ)
theorem sum_mul (c : Nat) (f : Nat → Nat) : ∀ m, sumN (fun j => c * f j) m = c * sumN f m
  | 0 => rfl
  | m + 1 => by
    show sumN (fun j => c * f j) m + c * f m = c * (sumN f m + f m)
    rw [sum_mul c f m, Nat.mul_add]
theorem sum_eo (f : Nat → Nat) : ∀ m, sumN f (2 * m) = sumN (fun i => f (2 * i)) m + sumN (fun i => f (2 * i + 1)) m
  | 0 => rfl
  | m + 1 => by
    have ih := sum_eo f m
    show sumN f (2 * m + 1 + 1) = (sumN (fun i => f (2 * i)) m + f (2 * m)) + (sumN (fun i => f (2 * i + 1)) m + f (2 * m + 1))
    show sumN f (2 * m) + f (2 * m) + f (2 * m + 1) = _
    omega
theorem clM_f {ρ : SN} {n dm rn c : Nat} : ∀ (k : Nat) (τ : SN), clM ρ n dm rn τ c (k + 1) = clM ρ n dm rn (passN ρ n dm (c % 2 * rn) τ) (c / 2) k
  | 0, τ => by
    show passN ρ n dm (c / 2 ^ 0 % 2 * rn) τ = passN ρ n dm (c % 2 * rn) τ
    rw [Nat.pow_zero, Nat.div_one]
  | k + 1, τ => by
    show passN ρ n dm (c / 2 ^ (k + 1) % 2 * rn) (clM ρ n dm rn τ c (k + 1)) = passN ρ n dm (c / 2 / 2 ^ k % 2 * rn) (clM ρ n dm rn (passN ρ n dm (c % 2 * rn) τ) (c / 2) k)
    rw [clM_f k τ, Nat.div_div_eq_div_mul, Nat.pow_succ, Nat.mul_comm (2 ^ k) 2]
theorem wtM_f {x c : Nat} : ∀ k, wtM x c (k + 1) = (if c % 2 = 1 then x else 10 - x) * wtM x (c / 2) k
  | 0 => by
    show 1 * (if c / 2 ^ 0 % 2 = 1 then x else 10 - x) = (if c % 2 = 1 then x else 10 - x) * 1
    rw [Nat.pow_zero, Nat.div_one, Nat.one_mul, Nat.mul_one]
  | k + 1 => by
    show wtM x c (k + 1) * (if c / 2 ^ (k + 1) % 2 = 1 then x else 10 - x) = (if c % 2 = 1 then x else 10 - x) * (wtM x (c / 2) k * (if c / 2 / 2 ^ k % 2 = 1 then x else 10 - x))
    rw [wtM_f k, Nat.div_div_eq_div_mul, Nat.pow_succ, Nat.mul_comm (2 ^ k) 2, Nat.mul_assoc]
theorem lkM {ρ : SN} {n dm rn rf x : Nat} : ∀ (q : Nat) (τ : SN), sumN (fun c => if enN ρ (clM ρ n dm rn τ c q) rf then wtM x c q else 0) (2 ^ q) = lkT ρ n dm rn rf x q τ
  | 0, τ => Nat.zero_add _
  | q + 1, τ => by
    rw [Nat.pow_succ, Nat.mul_comm, sum_eo]
    show _ = (10 - x) * lkT ρ n dm rn rf x q (passN ρ n dm 0 τ) + x * lkT ρ n dm rn rf x q (passN ρ n dm rn τ)
    rw [← lkM q (passN ρ n dm 0 τ), ← lkM q (passN ρ n dm rn τ), ← sum_mul, ← sum_mul]
    congr 1
    · refine sum_cong (fun j _ => ?_)
      rw [clM_f, wtM_f, show 2 * j % 2 = 0 by omega, show 2 * j / 2 = j by omega, Nat.zero_mul, if_neg (show ¬ 0 = 1 by decide)]
      by_cases e : enN ρ (clM ρ n dm rn (passN ρ n dm 0 τ) j q) rf = true
      · rw [if_pos e, if_pos e]
      · rw [if_neg e, if_neg e, Nat.mul_zero]
    · refine sum_cong (fun j _ => ?_)
      rw [clM_f, wtM_f, show (2 * j + 1) % 2 = 1 by omega, show (2 * j + 1) / 2 = j by omega, Nat.one_mul, if_pos rfl]
      by_cases e : enN ρ (clM ρ n dm rn (passN ρ n dm rn τ) j q) rf = true
      · rw [if_pos e, if_pos e]
      · rw [if_neg e, if_neg e, Nat.mul_zero]
theorem wtAll {x : Nat} (hx : x ≤ 10) : ∀ q, sumN (fun c => wtM x c q) (2 ^ q) = 10 ^ q
  | 0 => rfl
  | q + 1 => by
    rw [Nat.pow_succ, Nat.mul_comm, sum_eo]
    have h1 : sumN (fun i => wtM x (2 * i) (q + 1)) (2 ^ q) = (10 - x) * 10 ^ q := by
      rw [← wtAll hx q, ← sum_mul]
      refine sum_cong (fun j _ => ?_)
      rw [wtM_f, show 2 * j % 2 = 0 by omega, show 2 * j / 2 = j by omega, if_neg (show ¬ 0 = 1 by decide)]
    have h2 : sumN (fun i => wtM x (2 * i + 1) (q + 1)) (2 ^ q) = x * 10 ^ q := by
      rw [← wtAll hx q, ← sum_mul]
      refine sum_cong (fun j _ => ?_)
      rw [wtM_f, show (2 * j + 1) % 2 = 1 by omega, show (2 * j + 1) / 2 = j by omega, if_pos rfl]
    rw [h1, h2, ← Nat.add_mul, show 10 - x + x = 10 by omega, Nat.pow_succ, Nat.mul_comm]
theorem clN_t {ρ : SN} {n dm rn q P : Nat} : ∀ (i : Nat) (τ : SN), i ≤ q → clN ρ n dm rn τ (q + 1) P (i + 1) = clN ρ n dm rn (passN ρ n dm (dgN 1 P q * rn) τ) q P i
  | 0, τ, _ => rfl
  | i + 1, τ, h => by
    show passN ρ n dm (dgN 1 P (q + 1 - 1 - (i + 1)) * rn) (clN ρ n dm rn τ (q + 1) P (i + 1)) = passN ρ n dm (dgN 1 P (q - 1 - i) * rn) (clN ρ n dm rn (passN ρ n dm (dgN 1 P q * rn) τ) q P i)
    rw [clN_t i τ (by omega), show q + 1 - 1 - (i + 1) = q - 1 - i by omega]
theorem dgT : ∀ q, q < 8 → ∀ P, P < 2 ^ q → dgN 1 P q = 0 ∧ dgN 1 (2 ^ q + P) q = 1 ∧ (∀ m, m < q → dgN 1 (2 ^ q + P) m = dgN 1 P m) ∧ pcn (2 ^ q + P) = pcn P + 1 ∧ pcn P ≤ q := by decide +kernel
theorem lkC {ρ : SN} {n dm rn rf x : Nat} : ∀ (q : Nat) (τ : SN), q ≤ 8 → sumN (fun P => if enN ρ (clN ρ n dm rn τ q P q) rf then x ^ pcn P * (10 - x) ^ (q - pcn P) else 0) (2 ^ q) = lkT ρ n dm rn rf x q τ
  | 0, τ, _ => by
    show 0 + (if enN ρ τ rf then x ^ pcn 0 * (10 - x) ^ (0 - pcn 0) else 0) = (if enN ρ τ rf then 1 else 0)
    rw [show pcn 0 = 0 by decide]
    by_cases e : enN ρ τ rf = true
    · rw [if_pos e, if_pos e]; rfl
    · rw [if_neg e, if_neg e]
  | q + 1, τ, h8 => by
    rw [show 2 ^ (q + 1) = 2 ^ q + 2 ^ q by rw [Nat.pow_succ]; omega, sum_split]
    show _ = (10 - x) * lkT ρ n dm rn rf x q (passN ρ n dm 0 τ) + x * lkT ρ n dm rn rf x q (passN ρ n dm rn τ)
    rw [← lkC q (passN ρ n dm 0 τ) (by omega), ← lkC q (passN ρ n dm rn τ) (by omega), ← sum_mul, ← sum_mul]
    congr 1
    · refine sum_cong (fun P hP => ?_)
      obtain ⟨g1, -, -, -, g5⟩ := dgT q (by omega) P hP
      rw [clN_t q τ (Nat.le_refl q), g1, Nat.zero_mul]
      by_cases e : enN ρ (clN ρ n dm rn (passN ρ n dm 0 τ) q P q) rf = true
      · rw [if_pos e, if_pos e, show q + 1 - pcn P = (q - pcn P) + 1 by omega, Nat.pow_succ, ← Nat.mul_assoc, Nat.mul_comm]
      · rw [if_neg e, if_neg e, Nat.mul_zero]
    · refine sum_cong (fun P hP => ?_)
      obtain ⟨-, g2, g3, g4, g5⟩ := dgT q (by omega) P hP
      rw [clN_t q τ (Nat.le_refl q), g2, Nat.one_mul, cl_cong (P := 2 ^ q + P) (P' := P) (fun j hj => g3 _ (by omega)), g4]
      by_cases e : enN ρ (clN ρ n dm rn (passN ρ n dm rn τ) q P q) rf = true
      · rw [if_pos e, if_pos e, show q + 1 - (pcn P + 1) = q - pcn P by omega, Nat.pow_succ, Nat.mul_comm (x ^ pcn P) x, Nat.mul_assoc]
      · rw [if_neg e, if_neg e, Nat.mul_zero]
theorem luN_sum (ok : Nat → Bool) (x q : Nat) : ∀ m, luN ok x q m = sumN (fun P => if ok P then x ^ pcn P * (10 - x) ^ (q - pcn P) else 0) m
  | 0 => rfl
  | m + 1 => by
    show luN ok x q m + _ = sumN _ m + _
    rw [luN_sum ok x q m]
theorem luck_eq {ρ σ : SN} {n rn rf x q : Nat} (h8 : q ≤ 8) : sumN (fun c => if enN ρ (clM ρ n (σ 4 7) rn σ c q) rf then wtM x c q else 0) (2 ^ q) = lkA ρ n σ rf q rn x := by
  unfold lkA
  rw [luN_sum, lkC q σ h8, lkM q σ]
set_option maxRecDepth 4000 in
theorem part_step {I : IT} {J : JT} {F : FT} {a b : Nat} {p : Bool} (ha : a < 2 ^ 63) (hb : b < 2 ^ 63) (hb0 : 0 < b) (y2 : Nat) (ih0 : ∀ y3, y3 < y2 → ∀ (x : Nat) (x9 : Option VV), x < 2 ^ 63 → y3 < 2 ^ 63 → Nat.gcd x y3 = Nat.gcd a b → Wp none 159 (fun R => R = (some (vL (if p = true then lN (a / Nat.gcd a b) else lN (b / Nat.gcd a b))), KK, I, J, F)) 6 [some (vL (lN a)), none, some (vL (lN b)), none, some (vI (b2 p)), some (vL (lN x)), none, some (vL (lN y3)), none, x9, none] [] KK I J F) (x : Nat) (x9 : Option VV) (hx : x < 2 ^ 63) (hy : y2 < 2 ^ 63) (hg : Nat.gcd x y2 = Nat.gcd a b) : Wp none 159 (fun R => R = (some (vL (if p = true then lN (a / Nat.gcd a b) else lN (b / Nat.gcd a b))), KK, I, J, F)) 6 [some (vL (lN a)), none, some (vL (lN b)), none, some (vI (b2 p)), some (vL (lN x)), none, some (vL (lN y2)), none, x9, none] [] KK I J F := by
  refine wp_lload (pc := 6) d_159_6 rfl ?_
  refine wp_lconst (pc := 8) (v := lN 0) d_159_8 (by decide) ?_
  refine wp_lcmp (pc := 9) d_159_9 ?_
  refine wp_if_eq (pc := 10) (tgt := 31) d_159_10 (by decide) (fun zq10 => ?_) (fun zq10 => ?_)
  · refine wp_iload (pc := 31) d_159_31 rfl ?_
    refine wp_ifB_eq (pc := 33) (tgt := 43) d_159_33 (by decide) (fun zq33 => ?_) (fun zq33 => ?_)
    · refine wp_lload_n (pc := 43) (i := 2) d_159_43 rfl rfl ?_
      refine wp_lload (pc := 44) d_159_44 rfl ?_
      have hy0 : y2 = 0 := (lcmp0 hy).mp zq10
      have hxg : x = Nat.gcd a b := by rw [← hg, hy0, Nat.gcd_zero_right]
      have hG0 : 0 < Nat.gcd a b := Nat.gcd_pos_of_pos_right _ hb0
      rw [hxg] at hx ⊢
      refine wp_ldiv (pc := 46) d_159_46 (ne0L hx (Nat.pos_iff_ne_zero.mp hG0)) ?_
      rw [pk_lDiv hb hG0 hx]
      exact wp_lret (pc := 47) d_159_47 rfl (by rw [if_neg (nT zq33)])
    · refine wp_lload_n (pc := 36) (i := 0) d_159_36 rfl rfl ?_
      refine wp_lload (pc := 37) d_159_37 rfl ?_
      have hy0 : y2 = 0 := (lcmp0 hy).mp zq10
      have hxg : x = Nat.gcd a b := by rw [← hg, hy0, Nat.gcd_zero_right]
      have hG0 : 0 < Nat.gcd a b := Nat.gcd_pos_of_pos_right _ hb0
      rw [hxg] at hx ⊢
      refine wp_ldiv (pc := 39) d_159_39 (ne0L hx (Nat.pos_iff_ne_zero.mp hG0)) ?_
      rw [pk_lDiv ha hG0 hx]
      refine wp_goto (pc := 40) (tgt := 47) d_159_40 (by decide) ?_
      exact wp_lret (pc := 47) d_159_47 rfl (by rw [if_pos zq33])
  · refine wp_lload (pc := 13) d_159_13 rfl ?_
    refine wp_lload (pc := 15) d_159_15 rfl ?_
    have hy0 : y2 ≠ 0 := fun h => zq10 ((lcmp0 hy).mpr h)
    refine wp_lrem (pc := 17) d_159_17 (ne0L hy hy0) ?_
    rw [pk_lRem hx (by omega) hy]
    refine wq_lstore (pc := 18) (L2 := [_, _, _, _, _, _, _, _, _, _, _]) d_159_18 (Nat.le_of_ble_eq_true rfl) rfl rfl ?_
    refine wp_lload (pc := 20) d_159_20 rfl ?_
    refine wq_lstore (pc := 22) (L2 := [_, _, _, _, _, _, _, _, _, _, _]) d_159_22 (Nat.le_of_ble_eq_true rfl) rfl rfl ?_
    refine wp_lload (pc := 24) d_159_24 rfl ?_
    refine wq_lstore (pc := 26) (L2 := [_, _, _, _, _, _, _, _, _, _, _]) d_159_26 (Nat.le_of_ble_eq_true rfl) rfl rfl ?_
    refine wp_goto (pc := 28) (tgt := 6) d_159_28 (by decide) ?_
    exact ih0 (x % y2) (Nat.mod_lt _ (by omega)) y2 _ hy (Nat.lt_of_le_of_lt (Nat.mod_le _ _) hx) (by rw [← hg, Nat.gcd_comm x y2, Nat.gcd_rec y2 x, Nat.gcd_comm])
theorem part_loop {I : IT} {J : JT} {F : FT} {a b : Nat} {p : Bool} (ha : a < 2 ^ 63) (hb : b < 2 ^ 63) (hb0 : 0 < b) : ∀ (d y2 : Nat), y2 ≤ d → ∀ (x : Nat) (x9 : Option VV), x < 2 ^ 63 → y2 < 2 ^ 63 → Nat.gcd x y2 = Nat.gcd a b → Wp none 159 (fun R => R = (some (vL (if p = true then lN (a / Nat.gcd a b) else lN (b / Nat.gcd a b))), KK, I, J, F)) 6 [some (vL (lN a)), none, some (vL (lN b)), none, some (vI (b2 p)), some (vL (lN x)), none, some (vL (lN y2)), none, x9, none] [] KK I J F := by
  intro d
  induction d with
  | zero => intro y2 h; exact part_step ha hb hb0 y2 (fun y3 h3 => absurd h3 (by omega))
  | succ d ih => intro y2 h; exact part_step ha hb hb0 y2 (fun y3 h3 => ih y3 (by omega))
set_option maxRecDepth 4000 in
theorem m_part {I : IT} {J : JT} {F : FT} {a b : Nat} {p : Bool} (ha : a < 2 ^ 63) (hb : b < 2 ^ 63) (hb0 : 0 < b) : Sp 159 [vL (lN a), vL (lN b), vI (b2 p)] KK I J F (fun R => R = (some (vL (if p = true then lN (a / Nat.gcd a b) else lN (b / Nat.gcd a b))), KK, I, J, F)) := by
  refine Sp.mk2 (Nat.le_of_ble_eq_true rfl) (L2 := [_, _, _, _, _, _, _, _, _, _, _]) rfl ?_
  refine wp_lload_n (pc := 0) (i := 0) d_159_0 rfl rfl ?_
  refine wq_lstore (pc := 1) (L2 := [_, _, _, _, _, _, _, _, _, _, _]) d_159_1 (Nat.le_of_ble_eq_true rfl) rfl rfl ?_
  refine wp_lload_n (pc := 3) (i := 2) d_159_3 rfl rfl ?_
  refine wq_lstore (pc := 4) (L2 := [_, _, _, _, _, _, _, _, _, _, _]) d_159_4 (Nat.le_of_ble_eq_true rfl) rfl rfl ?_
  exact part_loop ha hb hb0 b b (Nat.le_refl b) a _ ha hb rfl
