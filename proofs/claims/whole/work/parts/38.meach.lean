/-- what the roofs from n - k on do for themselves, when those before them have done a -/
def ezN (g : Nat → Nat → Nat) (n : Nat) : Nat → Nat → Nat
  | 0, a => a
  | k + 1, a => if g (ezN g n k a) (n - 1 - k) < g (ezN g n k (a + 2 ^ (n - 1 - k))) (n - 1 - k) then ezN g n k (a + 2 ^ (n - 1 - k)) else ezN g n k a
theorem ezN_s (g : Nat → Nat → Nat) (n k a : Nat) : ezN g n (k + 1) a = if g (ezN g n k a) (n - 1 - k) < g (ezN g n k (a + 2 ^ (n - 1 - k))) (n - 1 - k) then ezN g n k (a + 2 ^ (n - 1 - k)) else ezN g n k a := rfl
theorem ezN_lt (g : Nat → Nat → Nat) (n : Nat) : ∀ k, k ≤ n → ∀ a, a < 2 ^ (n - k) → ezN g n k a < 2 ^ n
  | 0, _, a, h => h
  | k + 1, hk, a, h => by
    have h2 : 2 ^ (n - k) = 2 ^ (n - 1 - k) + 2 ^ (n - 1 - k) := by rw [show n - k = (n - 1 - k) + 1 by omega, Nat.pow_succ]; omega
    have h3 : a < 2 ^ (n - 1 - k) := by rw [show n - 1 - k = n - (k + 1) by omega]; exact h
    rw [ezN_s]
    split
    · exact ezN_lt g n k (by omega) _ (by omega)
    · exact ezN_lt g n k (by omega) _ (by omega)
theorem ezN_mod (g : Nat → Nat → Nat) (n : Nat) : ∀ k, k ≤ n → ∀ a, ezN g n k a % 2 ^ (n - k) = a % 2 ^ (n - k)
  | 0, _, _ => rfl
  | k + 1, hk, a => by
    have h2 : 2 ^ (n - k) = 2 ^ (n - (k + 1)) * 2 := by rw [show n - k = (n - (k + 1)) + 1 by omega, Nat.pow_succ]
    have h3 : n - 1 - k = n - (k + 1) := by omega
    have hm : ∀ x y, x % 2 ^ (n - k) = y % 2 ^ (n - k) → x % 2 ^ (n - (k + 1)) = y % 2 ^ (n - (k + 1)) := fun x y h => by
      have h4 : ∀ z, z % 2 ^ (n - k) % 2 ^ (n - (k + 1)) = z % 2 ^ (n - (k + 1)) := fun z => Nat.mod_mod_of_dvd z ⟨2, h2⟩
      rw [← h4 x, ← h4 y, h]
    rw [ezN_s]
    split
    · rw [hm _ _ (ezN_mod g n k (by omega) (a + 2 ^ (n - 1 - k))), h3, Nat.add_mod_right]
    · exact hm _ _ (ezN_mod g n k (by omega) a)
theorem pass_bits {ρ σ τ : SN} {n d1 d2 rn j : Nat} (hb : ∀ i, i ≤ j → d1.testBit i = d2.testBit i) (hs : ∀ k, k < 4 → ∀ i, i ≤ j → σ k i = τ k i) : ∀ k, k < 4 → ∀ i, i ≤ j → passN ρ n d1 rn σ k i = passN ρ n d2 rn τ k i := by
  have h0 : ∀ i, i ≤ j → drN ρ rn σ i = drN ρ rn τ i := fun i hi => by unfold drN; rw [hs 0 (by decide) i hi]
  have h1 : ∀ i, i ≤ j → waN ρ rn σ i = waN ρ rn τ i := fun i hi => by unfold waN; rw [h0 i hi, hs 0 (by decide) i hi]
  have h2 : ∀ i, i ≤ j → s1N ρ rn σ i = s1N ρ rn τ i := fun i hi => by unfold s1N; rw [h0 i hi, hs 0 (by decide) i hi, hs 1 (by decide) i hi]
  have h3 : ∀ i, i ≤ j → saN ρ rn σ i = saN ρ rn τ i := fun i hi => by unfold saN; rw [h2 i hi, hs 1 (by decide) i hi]
  have h4 : ∀ i, i ≤ j → goN ρ d1 rn σ i = goN ρ d2 rn τ i := fun i hi => by unfold goN; rw [h1 i hi, hb i hi]
  have h5 : ∀ i, i ≤ j → s2N ρ d1 rn σ i = s2N ρ d2 rn τ i := fun i hi => by unfold s2N; rw [h3 i hi, h4 i hi, h1 i hi]
  have h6 : ∀ (f f2 : Nat → Nat), (∀ i, i ≤ j → f i = f2 i) → ∀ i, i ≤ j → prv f i = prv f2 i := fun f f2 h i hi => by
    unfold prv
    by_cases e : i = 0
    · rw [if_pos e, if_pos e]
    · rw [if_neg e, if_neg e, h (i - 1) (by omega)]
  intro k hk i hi
  unfold passN
  rw [if_pos hk, if_pos hk, h1 i hi, h4 i hi, h6 _ _ h4 i hi, h3 i hi, h5 i hi, h6 _ _ h5 i hi, h0 i hi, h2 i hi, hs 2 (by decide) i hi, hs 3 (by decide) i hi, hs k hk i hi]
theorem beh_bits {ρ σ : SN} {n d1 d2 rn j : Nat} (hb : ∀ i, i ≤ j → d1.testBit i = d2.testBit i) : ∀ q, ∀ k, k < 4 → ∀ i, i ≤ j → behN ρ n d1 rn σ q k i = behN ρ n d2 rn σ q k i
  | 0, _, _, _, _ => rfl
  | q + 1, k, hk, i, hi => pass_bits hb (beh_bits hb q) k hk i hi
theorem gotB_c {ρ σ : SN} {n rn q d1 d2 j : Nat} (h : d1 % 2 ^ (j + 1) = d2 % 2 ^ (j + 1)) : gotB ρ n rn σ q d1 j = gotB ρ n rn σ q d2 j :=
  beh_bits (fun i hi => by
    have h1 := Nat.testBit_mod_two_pow d1 (j + 1) i
    have h2 := Nat.testBit_mod_two_pow d2 (j + 1) i
    rw [decide_eq_true (show i < j + 1 by omega), Bool.true_and] at h1 h2
    rw [← h1, ← h2, h]) q 2 (by decide) j (Nat.le_refl j)
theorem ez_each {g : Nat → Nat → Nat} {n : Nat} (hg : ∀ d1 d2 j, d1 % 2 ^ (j + 1) = d2 % 2 ^ (j + 1) → g d1 j = g d2 j) : ∀ k, k ≤ n → ezN g n k (eachN g (n - k)) = eachN g n
  | 0, _ => rfl
  | k + 1, hk => by
    have ih := ez_each (g := g) (n := n) hg k (by omega)
    have e1 : n - k = n - (k + 1) + 1 := by omega
    have e2 : n - 1 - k = n - (k + 1) := by omega
    have e3 : ∀ a, g (ezN g n k a) (n - (k + 1)) = g a (n - (k + 1)) := fun a => hg _ _ _ (by rw [← e1]; exact ezN_mod g n k (by omega) a)
    rw [e1, eachN_s] at ih
    rw [ezN_s, e2, e3, e3, ← ih]
    split <;> rfl
set_option maxRecDepth 4000 in
theorem eafill_step {Po : RT → Prop} {I0 : IT} {J : JT} {F : FT} {rn q : Nat} (hF : Fok F) (hk : ∀ (I : IT) (i : Nat), i = 64 → SCM I0 I → (∀ a, a < 64 → I 182 a = nI a) → Wp none 152 Po 48 [some (vR 173), some (vI (nI q)), some (vI (nI rn)), some (vI (nI i)), none, none, none, none] [] KK I J F) (i : Nat) (hi0 : i ≤ 64) (I : IT) (hsc : SCM I0 I) (hen : ∀ a, a < i → I 182 a = nI a)
    (ih0 : ∀ i', i < 64 → i' = i + 1 → ∀ (I : IT), (SCM I0 I) → (∀ a, a < i' → I 182 a = nI a) → Wp none 152 Po 29 [some (vR 173), some (vI (nI q)), some (vI (nI rn)), some (vI (nI i')), none, none, none, none] [] KK I J F) : Wp none 152 Po 29 [some (vR 173), some (vI (nI q)), some (vI (nI rn)), some (vI (nI i)), none, none, none, none] [] KK I J F := by
  refine wp_iload_n (pc := 29) (i := 3) d_152_29 rfl rfl ?_
  refine wp_bpN (pc := 30) (m := 64) d_152_30 (by decide) ?_
  refine wp_icmpN_ge (pc := 32) (tgt := 48) d_152_32 (by decide) (by omega) (by decide) (fun zq32 => ?_) (fun zq32 => ?_)
  · exact hk I i (by omega) hsc (by rw [show i = 64 by omega] at hen; exact hen)
  · refine wp_aload_n (pc := 35) (i := 0) d_152_35 rfl rfl ?_
    refine wp_gA (pc := 36) d_152_36 fl_10_34 rfl ft_9_18 (F_173_18 hF) ?_
    refine wp_iload_n (pc := 39) (i := 3) d_152_39 rfl rfl ?_
    refine wp_iload_n (pc := 40) (i := 3) d_152_40 rfl rfl ?_
    refine wp_aS (pc := 41) (j := i) d_152_41 rfl rfl (by omega) (by decide) (fun Iq41 uq41 => ?_)
    refine wq_iincN (pc := 42) (L2 := [_, _, _, _, _, _, _, _]) d_152_42 rfl (b := 1) (by decide) rfl rfl ?_
    refine wp_goto (pc := 45) (tgt := 29) d_152_45 (by decide) ?_
    refine ih0 (i + 1) zq32 rfl _ (hsc.tr ⟨fun q2 _ _ _ _ => by rw [uq41.off (by decide)], fun k _ => by rw [uq41.off (by decide)], fun a ha => uq41.2 a (by omega)⟩) (fun a ha => ?_)
    by_cases e : a = i
    · rw [e]; exact uq41.at
    · rw [uq41.ne e]; exact hen a (by omega)
theorem eafill_loop {Po : RT → Prop} {I0 : IT} {J : JT} {F : FT} {rn q : Nat} (hF : Fok F) (hk : ∀ (I : IT) (i : Nat), i = 64 → SCM I0 I → (∀ a, a < 64 → I 182 a = nI a) → Wp none 152 Po 48 [some (vR 173), some (vI (nI q)), some (vI (nI rn)), some (vI (nI i)), none, none, none, none] [] KK I J F) : ∀ (d i : Nat), i + d = 64 → ∀ (I : IT), (SCM I0 I) → (∀ a, a < i → I 182 a = nI a) → Wp none 152 Po 29 [some (vR 173), some (vI (nI q)), some (vI (nI rn)), some (vI (nI i)), none, none, none, none] [] KK I J F := by
  intro d
  induction d with
  | zero =>
    intro i hid I hsc hen
    exact eafill_step hF hk i (by omega) I hsc hen (fun i' hlt => absurd hlt (by omega))
  | succ d ih =>
    intro i hid I hsc hen
    exact eafill_step hF hk i (by omega) I hsc hen (fun i' hlt he => ih i' (by omega))

set_option maxRecDepth 4000 in
theorem eain_step {I0 : IT} {J : JT} {F : FT} {n rn q t : Nat} {ρ σ : SN} (hF : Fok F) (hRo0 : mRo I0 ρ n) (hW0 : mW (I0 177) 0 σ) (hρ : ∀ k j, ρ k j ≤ 9) (hrn : rn ≤ 9) (hok : okN t σ) (htq : t + q ≤ 1000) {Po : RT → Prop} {r : Nat} (hr : r < n) (hk : ∀ (I : IT) (x4 x5 x6 x7 : Option VV), SCM I0 I → (∀ a, a < 2 ^ r → I 182 a = nI (ezN (gotB ρ n rn σ q) n (n - r) a)) → Wp none 152 Po 153 [some (vR 173), some (vI (nI q)), some (vI (nI rn)), some (vI (nI r)), x4, x5, x6, x7] [] KK I J F) (i : Nat) (hi0 : i ≤ 2 ^ r) (I : IT) (x5 : Option VV) (x6 : Option VV) (x7 : Option VV) (hsc : SCM I0 I) (hlo : ∀ a, a < i → I 182 a = nI (ezN (gotB ρ n rn σ q) n (n - r) a)) (hhi : ∀ a, i ≤ a → a < 2 ^ (r + 1) → I 182 a = nI (ezN (gotB ρ n rn σ q) n (n - (r + 1)) a))
    (ih0 : ∀ i', i < 2 ^ r → i' = i + 1 → ∀ (I : IT) (x5 : Option VV) (x6 : Option VV) (x7 : Option VV), (SCM I0 I) → (∀ a, a < i' → I 182 a = nI (ezN (gotB ρ n rn σ q) n (n - r) a)) → (∀ a, i' ≤ a → a < 2 ^ (r + 1) → I 182 a = nI (ezN (gotB ρ n rn σ q) n (n - (r + 1)) a)) → Wp none 152 Po 62 [some (vR 173), some (vI (nI q)), some (vI (nI rn)), some (vI (nI r)), some (vI (nI i')), x5, x6, x7] [] KK I J F) : Wp none 152 Po 62 [some (vR 173), some (vI (nI q)), some (vI (nI rn)), some (vI (nI r)), some (vI (nI i)), x5, x6, x7] [] KK I J F := by
  have hn6 := hRo0.1
  have hp64 := p64 hn6
  have hr5 : 2 ^ r ≤ 32 := Nat.pow_le_pow_right (by decide) (show r ≤ 5 by omega)
  refine wp_iload (pc := 62) d_152_62 rfl ?_
  refine wp_icN (pc := 64) (m := 1) d_152_64 (by decide) ?_
  refine wp_iload_n (pc := 65) (i := 3) d_152_65 rfl rfl ?_
  refine wp_ishl (pc := 66) d_152_66 ?_
  rw [shl_c (show r < 32 by omega) (by omega), Nat.one_mul]
  refine wp_icmpN_ge (pc := 67) (tgt := 153) d_152_67 (by decide) (by omega) (by omega) (fun zq67 => ?_) (fun zq67 => ?_)
  · exact hk I _ _ _ _ hsc (fun a ha => hlo a (by omega))
  · have h2r : 2 ^ (r + 1) = 2 ^ r + 2 ^ r := by rw [Nat.pow_succ]; omega
    have hzr : n - (n - (r + 1)) = r + 1 := by omega
    have hE5 : (ezN (gotB ρ n rn σ q) n (n - (r + 1)) i) < 2 ^ n := ezN_lt _ n _ (by omega) _ (by rw [hzr]; omega)
    have hE6 : (ezN (gotB ρ n rn σ q) n (n - (r + 1)) (i + 2 ^ r)) < 2 ^ n := ezN_lt _ n _ (by omega) _ (by rw [hzr]; omega)
    refine wp_aload_n (pc := 70) (i := 0) d_152_70 rfl rfl ?_
    refine wp_gA (pc := 71) d_152_71 fl_10_34 rfl ft_9_18 (F_173_18 hF) ?_
    refine wp_iload (pc := 74) d_152_74 rfl ?_
    refine wp_aL (pc := 76) (j := i) d_152_76 rfl rfl (by omega) (by decide) (hhi i (Nat.le_refl i) (by omega)) ?_
    refine wq_istore (pc := 77) (L2 := [_, _, _, _, _, _, _, _]) d_152_77 (Nat.le_of_ble_eq_true rfl) rfl rfl ?_
    refine wp_aload_n (pc := 79) (i := 0) d_152_79 rfl rfl ?_
    refine wp_gA (pc := 80) d_152_80 fl_10_34 rfl ft_9_18 (F_173_18 hF) ?_
    refine wp_iload (pc := 83) d_152_83 rfl ?_
    refine wp_icN (pc := 85) (m := 1) d_152_85 (by decide) ?_
    refine wp_iload_n (pc := 86) (i := 3) d_152_86 rfl rfl ?_
    refine wp_ishl (pc := 87) d_152_87 ?_
    rw [shl_c (show r < 32 by omega) (by omega), Nat.one_mul]
    refine wp_ior (pc := 88) d_152_88 ?_
    rw [or_c r (by omega) _ zq67]
    refine wp_aL (pc := 89) (j := (i + 2 ^ r)) d_152_89 rfl rfl (by omega) (by decide) (hhi (i + 2 ^ r) (by omega) (by omega)) ?_
    refine wq_istore (pc := 90) (L2 := [_, _, _, _, _, _, _, _]) d_152_90 (Nat.le_of_ble_eq_true rfl) rfl rfl ?_
    refine wp_aload_n (pc := 92) (i := 0) d_152_92 rfl rfl ?_
    refine wp_iload_n (pc := 93) (i := 1) d_152_93 rfl rfl ?_
    refine wp_iload_n (pc := 94) (i := 2) d_152_94 rfl rfl ?_
    refine wp_iload (pc := 95) d_152_95 rfl ?_
    refine wp_callV3v (pc := 97) d_152_97 lk_10_129 (by decide) rfl (Nat.le_of_ble_eq_true rfl) rfl rfl (m_goOn hF (hRo0.s hsc) hρ (show (ezN (gotB ρ n rn σ q) n (n - (r + 1)) i) < 64 by omega) hrn hok htq (hW0.s hsc)) (fun Iq97 hq97 => ?_)
    refine wp_aload_n (pc := 100) (i := 0) d_152_100 rfl rfl ?_
    refine wp_gA (pc := 101) d_152_101 fl_10_19 rfl ft_9_4 (F_173_4 hF) ?_
    refine wp_bpN (pc := 104) (m := 42) d_152_104 (by decide) ?_
    refine wp_iload_n (pc := 106) (i := 3) d_152_106 rfl rfl ?_
    refine wp_iaddN (pc := 107) d_152_107 ?_
    refine wp_aL (pc := 108) (j := (42 + r)) d_152_108 rfl rfl (by omega) (by decide) (hq97.1.1 2 (by decide) r (by omega)) ?_
    refine wq_istore (pc := 109) (L2 := [_, _, _, _, _, _, _, _]) d_152_109 (Nat.le_of_ble_eq_true rfl) rfl rfl ?_
    refine wp_aload_n (pc := 111) (i := 0) d_152_111 rfl rfl ?_
    refine wp_iload_n (pc := 112) (i := 1) d_152_112 rfl rfl ?_
    refine wp_iload_n (pc := 113) (i := 2) d_152_113 rfl rfl ?_
    refine wp_iload (pc := 114) d_152_114 rfl ?_
    refine wp_callV3v (pc := 116) d_152_116 lk_10_129 (by decide) rfl (Nat.le_of_ble_eq_true rfl) rfl rfl (m_goOn hF ((hRo0.s hsc).s (show SCP I Iq97 from hq97.2).M) hρ (show (ezN (gotB ρ n rn σ q) n (n - (r + 1)) (i + 2 ^ r)) < 64 by omega) hrn hok htq ((hW0.s hsc).s (show SCP I Iq97 from hq97.2).M)) (fun Iq116 hq116 => ?_)
    refine wp_aload_n (pc := 119) (i := 0) d_152_119 rfl rfl ?_
    refine wp_gA (pc := 120) d_152_120 fl_10_34 rfl ft_9_18 (F_173_18 hF) ?_
    refine wp_iload (pc := 123) d_152_123 rfl ?_
    refine wp_aload_n (pc := 125) (i := 0) d_152_125 rfl rfl ?_
    refine wp_gA (pc := 126) d_152_126 fl_10_19 rfl ft_9_4 (F_173_4 hF) ?_
    refine wp_bpN (pc := 129) (m := 42) d_152_129 (by decide) ?_
    refine wp_iload_n (pc := 131) (i := 3) d_152_131 rfl rfl ?_
    refine wp_iaddN (pc := 132) d_152_132 ?_
    refine wp_aL (pc := 133) (j := (42 + r)) d_152_133 rfl rfl (by omega) (by decide) (hq116.1.1 2 (by decide) r (by omega)) ?_
    refine wp_iload (pc := 134) d_152_134 rfl ?_
    refine wp_icmpN_le (pc := 136) (tgt := 144) d_152_136 (by decide) ((beh_ok hn6 hrn hρ hok q).g (by omega) r (by omega)) ((beh_ok hn6 hrn hρ hok q).g (by omega) r (by omega)) (fun zq136 => ?_) (fun zq136 => ?_)
    · refine wp_iload (pc := 144) d_152_144 rfl ?_
      refine wp_aS (pc := 146) (j := i) d_152_146 rfl rfl (by omega) (by decide) (fun Iq146 uq146 => ?_)
      refine wq_iincN (pc := 147) (L2 := [_, _, _, _, _, _, _, _]) d_152_147 rfl (b := 1) (by decide) rfl rfl ?_
      refine wp_goto (pc := 150) (tgt := 62) d_152_150 (by decide) ?_
      have hs1 := (show SCP I Iq97 from hq97.2).tr (show SCP Iq97 Iq116 from hq116.2)
      have h182 : ∀ a, Iq116 182 a = I 182 a := fun a => by rw [hs1.2 182 (by decide) (by decide) (by decide)]
      refine ih0 (i + 1) zq67 rfl _ _ _ _ ((hsc.tr hs1.M).tr ⟨fun q2 _ _ _ _ => by rw [uq146.off (by decide)], fun k _ => by rw [uq146.off (by decide)], fun a ha => uq146.2 a (by omega)⟩) (fun a ha => ?_) (fun a h1 h2 => (uq146.ne (by omega)).trans ((h182 a).trans (hhi a (by omega) h2)))
      by_cases e : a = i
      · rw [e, uq146.at, show n - r = n - (r + 1) + 1 by omega, ezN_s, show n - 1 - (n - (r + 1)) = r by omega, if_neg (show ¬ gotB ρ n rn σ q (ezN (gotB ρ n rn σ q) n (n - (r + 1)) i) r < gotB ρ n rn σ q (ezN (gotB ρ n rn σ q) n (n - (r + 1)) (i + 2 ^ r)) r from Nat.not_lt.mpr zq136)]
      · rw [uq146.ne e, h182]; exact hlo a (by omega)
    · refine wp_iload (pc := 139) d_152_139 rfl ?_
      refine wp_goto (pc := 141) (tgt := 146) d_152_141 (by decide) ?_
      refine wp_aS (pc := 146) (j := i) d_152_146 rfl rfl (by omega) (by decide) (fun Iq146 uq146 => ?_)
      refine wq_iincN (pc := 147) (L2 := [_, _, _, _, _, _, _, _]) d_152_147 rfl (b := 1) (by decide) rfl rfl ?_
      refine wp_goto (pc := 150) (tgt := 62) d_152_150 (by decide) ?_
      have hs1 := (show SCP I Iq97 from hq97.2).tr (show SCP Iq97 Iq116 from hq116.2)
      have h182 : ∀ a, Iq116 182 a = I 182 a := fun a => by rw [hs1.2 182 (by decide) (by decide) (by decide)]
      refine ih0 (i + 1) zq67 rfl _ _ _ _ ((hsc.tr hs1.M).tr ⟨fun q2 _ _ _ _ => by rw [uq146.off (by decide)], fun k _ => by rw [uq146.off (by decide)], fun a ha => uq146.2 a (by omega)⟩) (fun a ha => ?_) (fun a h1 h2 => (uq146.ne (by omega)).trans ((h182 a).trans (hhi a (by omega) h2)))
      by_cases e : a = i
      · rw [e, uq146.at, show n - r = n - (r + 1) + 1 by omega, ezN_s, show n - 1 - (n - (r + 1)) = r by omega, if_pos (show gotB ρ n rn σ q (ezN (gotB ρ n rn σ q) n (n - (r + 1)) i) r < gotB ρ n rn σ q (ezN (gotB ρ n rn σ q) n (n - (r + 1)) (i + 2 ^ r)) r from zq136)]
      · rw [uq146.ne e, h182]; exact hlo a (by omega)
theorem eain_loop {I0 : IT} {J : JT} {F : FT} {n rn q t : Nat} {ρ σ : SN} (hF : Fok F) (hRo0 : mRo I0 ρ n) (hW0 : mW (I0 177) 0 σ) (hρ : ∀ k j, ρ k j ≤ 9) (hrn : rn ≤ 9) (hok : okN t σ) (htq : t + q ≤ 1000) {Po : RT → Prop} {r : Nat} (hr : r < n) (hk : ∀ (I : IT) (x4 x5 x6 x7 : Option VV), SCM I0 I → (∀ a, a < 2 ^ r → I 182 a = nI (ezN (gotB ρ n rn σ q) n (n - r) a)) → Wp none 152 Po 153 [some (vR 173), some (vI (nI q)), some (vI (nI rn)), some (vI (nI r)), x4, x5, x6, x7] [] KK I J F) : ∀ (d i : Nat), i + d = 2 ^ r → ∀ (I : IT) (x5 : Option VV) (x6 : Option VV) (x7 : Option VV), (SCM I0 I) → (∀ a, a < i → I 182 a = nI (ezN (gotB ρ n rn σ q) n (n - r) a)) → (∀ a, i ≤ a → a < 2 ^ (r + 1) → I 182 a = nI (ezN (gotB ρ n rn σ q) n (n - (r + 1)) a)) → Wp none 152 Po 62 [some (vR 173), some (vI (nI q)), some (vI (nI rn)), some (vI (nI r)), some (vI (nI i)), x5, x6, x7] [] KK I J F := by
  intro d
  induction d with
  | zero =>
    intro i hid I x5 x6 x7 hsc hlo hhi
    exact eain_step hF hRo0 hW0 hρ hrn hok htq hr hk i (by omega) I x5 x6 x7 hsc hlo hhi (fun i' hlt => absurd hlt (by omega))
  | succ d ih =>
    intro i hid I x5 x6 x7 hsc hlo hhi
    exact eain_step hF hRo0 hW0 hρ hrn hok htq hr hk i (by omega) I x5 x6 x7 hsc hlo hhi (fun i' hlt he => ih i' (by omega))

set_option maxRecDepth 4000 in
theorem eaout {I0 : IT} {J : JT} {F : FT} {n rn q t : Nat} {ρ σ : SN} (hF : Fok F) (hRo0 : mRo I0 ρ n) (hW0 : mW (I0 177) 0 σ) (hρ : ∀ k j, ρ k j ≤ 9) (hrn : rn ≤ 9) (hok : okN t σ) (htq : t + q ≤ 1000) {Po : RT → Prop} (hk : ∀ I2, SCM I0 I2 → Po (some (vI (nI (eachN (gotB ρ n rn σ q) n))), KK, I2, J, F)) : ∀ (c : Nat) (I : IT) (x4 x5 x6 x7 : Option VV), c ≤ n → SCM I0 I → (∀ a, a < 2 ^ c → I 182 a = nI (ezN (gotB ρ n rn σ q) n (n - c) a)) → Wp none 152 Po 55 [some (vR 173), some (vI (nI q)), some (vI (nI rn)), some (vI (nI c + (-1))), x4, x5, x6, x7] [] KK I J F := by
  have hn6 := hRo0.1
  intro c
  induction c with
  | zero =>
    intro I x4 x5 x6 x7 hcn hsc hen
    refine wp_iload_n (pc := 55) (i := 3) d_152_55 rfl rfl ?_
    refine wp_if_lt (pc := 56) (tgt := 159) d_152_56 (by decide) (fun _ => ?_) (fun h => absurd (show nI 0 + (-1) < 0 by decide) h)
    refine wp_aload_n (pc := 159) (i := 0) d_152_159 rfl rfl ?_
    refine wp_gA (pc := 160) d_152_160 fl_10_34 rfl ft_9_18 (F_173_18 hF) ?_
    refine wp_icN (pc := 163) (m := 0) d_152_163 (by decide) ?_
    refine wp_aL (pc := 164) (j := 0) d_152_164 rfl rfl (by omega) (by decide) (hen 0 (by decide)) ?_
    exact wp_iret (pc := 165) d_152_165 (Or.inl rfl) (by rw [Nat.sub_zero, show ezN (gotB ρ n rn σ q) n n 0 = eachN (gotB ρ n rn σ q) n by have := ez_each (g := (gotB ρ n rn σ q)) (n := n) (fun d1 d2 j h => gotB_c h) n (Nat.le_refl n); rw [Nat.sub_self] at this; exact this]; exact hk I hsc)
  | succ c ih =>
    intro I x4 x5 x6 x7 hcn hsc hen
    rw [pk_m1]
    refine wp_iload_n (pc := 55) (i := 3) d_152_55 rfl rfl ?_
    refine wp_ifN_lt (pc := 56) (tgt := 159) d_152_56 (by decide) (by omega) ?_
    refine wp_icN (pc := 59) (m := 0) d_152_59 (by decide) ?_
    refine wq_istore (pc := 60) (L2 := [_, _, _, _, _, _, _, _]) d_152_60 (Nat.le_of_ble_eq_true rfl) rfl rfl ?_
    refine eain_loop hF hRo0 hW0 hρ hrn hok htq (r := c) (by omega) (fun I x4 x5 x6 x7 hsc hen => ?_) (2 ^ c) 0 (by omega) I _ _ _ hsc (fun a ha => absurd ha (Nat.not_lt_zero a)) (fun a _ ha => hen a ha)
    refine wp_iinc (pc := 153) d_152_153 rfl (show nI c + (-1) = nI c + (-1) from rfl) rfl ?_
    refine wp_goto (pc := 156) (tgt := 55) d_152_156 (by decide) ?_
    exact ih I _ _ _ _ (by omega) hsc hen
set_option maxRecDepth 4000 in
theorem m_geach {I : IT} {J : JT} {F : FT} {t : Nat} {tx : Nat → Nat} {tl : Nat} {ρ : SN} {n : Nat} {σ : SN} {rg : Nat → SN} {nx na : Nat} {γ : SN} {gn : Nat} {sl : Nat → SN} {sf : Nat → Bool} {sd : Int64} (hF : Fok F) (hC : MR I J tx tl ρ n σ rg nx na γ gn sl sf sd) (hO : OKS t tx tl ρ n σ rg nx na γ gn sl sf) (ht : t + 100 ≤ 1000) {y r : Int32} : Sp 152 [vR 173, vI y, vI r] KK I J F (PN (a_each ρ n σ y r, (tx, tl, ρ, n, σ, rg, nx, na, γ, gn, sl, sf, sd)) I J F) := by
  have hC0 := hC
  obtain ⟨hTx, hRo, hNo, hAc, hGa, hSl, hsd⟩ := hC
  obtain ⟨ht40, hx256, hρ, hok, hrg, hnx, hna, hgo, hsl, hz, hzr, hzs, hn6⟩ := hO
  have hd64 := hok.2.2.2.2.2
  have hgn6 := hGa.1
  refine Sp.mk2 (Nat.le_of_ble_eq_true rfl) (L2 := [_, _, _, _, _, _, _, _]) rfl ?_
  refine wp_iload_n (pc := 0) (i := 1) d_152_0 rfl rfl ?_
  refine wp_i2l (pc := 1) d_152_1 ?_
  refine wp_lconst (pc := 2) (v := lN 1) d_152_2 (by decide) ?_
  refine wr_ldc2M (pc := 3) (m := 6) d_152_3 cs_10_109 (by decide) ?_
  refine wp_callS3p (pc := 6) d_152_6 lk_10_59 (by decide) rfl (Nat.le_of_ble_eq_true rfl) (c_inN y 1 6 (by decide) (by decide)) ?_
  refine wp_ifB_eq (pc := 9) (tgt := 24) d_152_9 (by decide) (fun zq9 => ?_) (fun zq9 => ?_)
  · refine wp_bipush (pc := 24) (v := (-2)) d_152_24 (by decide) ?_
    exact wp_iret (pc := 26) d_152_26 (Or.inl rfl) (PN.q (by unfold a_each; rw [if_neg (nT zq9)]) hC0 ⟨fun _ _ => rfl, rfl⟩)
  · obtain ⟨jq, h0jq, h1jq, hxjq⟩ := inB_t zq9 (by decide) (by decide)
    subst hxjq
    have hcjq : (nI jq).toNatClampNeg = jq := nI_clamp (by omega)
    refine wp_iload_n (pc := 12) (i := 2) d_152_12 rfl rfl ?_
    refine wp_i2l (pc := 13) d_152_13 ?_
    refine wp_lconst (pc := 14) (v := lN 0) d_152_14 (by decide) ?_
    refine wr_ldc2M (pc := 15) (m := 9) d_152_15 cs_10_74 (by decide) ?_
    refine wp_callS3p (pc := 18) d_152_18 lk_10_59 (by decide) rfl (Nat.le_of_ble_eq_true rfl) (c_inN r 0 9 (by decide) (by decide)) ?_
    refine wp_ifB_ne (pc := 21) (tgt := 27) d_152_21 (by decide) (fun zq21 => ?_) (fun zq21 => ?_)
    · obtain ⟨rn, h0rn, h1rn, hxrn⟩ := inB_t zq21 (by decide) (by decide)
      subst hxrn
      have hcrn : (nI rn).toNatClampNeg = rn := nI_clamp (by omega)
      refine wp_icN (pc := 27) (m := 0) d_152_27 (by decide) ?_
      refine wq_istore_n (pc := 28) (L2 := [_, _, _, _, _, _, _, _]) (i := 3) d_152_28 rfl (Nat.le_of_ble_eq_true rfl) rfl rfl ?_
      refine eafill_loop hF (fun Iq0 i hi hsc hen => ?_) 64 0 (by omega) I SCM.rf (fun a ha => absurd ha (Nat.not_lt_zero a))
      refine wp_aload_n (pc := 48) (i := 0) d_152_48 rfl rfl ?_
      refine wp_gI (pc := 49) d_152_49 fl_10_53 rfl ft_9_5 (hRo.s hsc).2.1 ?_
      refine wp_icN (pc := 52) (m := 1) d_152_52 (by decide) ?_
      refine wp_isub (pc := 53) d_152_53 ?_
      rw [sub_m1]
      refine wq_istore_n (pc := 54) (L2 := [_, _, _, _, _, _, _, _]) (i := 3) d_152_54 rfl (Nat.le_of_ble_eq_true rfl) rfl rfl ?_
      exact eaout hF hRo hNo.1 hρ (show rn ≤ 9 by omega) hok (show t + jq ≤ 1000 by omega) (fun I2 hscm => PN.q (by unfold a_each; rw [if_pos zq9, if_pos zq21, hcjq, hcrn]) (hC0.k hscm) hscm.O) n Iq0 _ _ _ _ (Nat.le_refl n) hsc (fun a ha => by rw [Nat.sub_self]; exact hen a (by have := p64 hn6; omega))
    · refine wp_bipush (pc := 24) (v := (-2)) d_152_24 (by decide) ?_
      exact wp_iret (pc := 26) d_152_26 (Or.inl rfl) (PN.q (by unfold a_each; rw [if_pos zq9, if_neg (nT zq21)]) hC0 ⟨fun _ _ => rfl, rfl⟩)
