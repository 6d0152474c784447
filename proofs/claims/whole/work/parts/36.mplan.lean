/-- the states along a plan that is told by 16 -/
def csM (ρ : SN) (n rn : Nat) (σ : SN) (q c : Nat) : Nat → SN
  | 0 => σ
  | i + 1 => passN ρ n (c / 16 ^ (q - 1 - i) % 16) rn (csM ρ n rn σ q c i)
theorem csM_ok {ρ σ : SN} {n rn t q c : Nat} (hn : n ≤ 6) (hrn : rn ≤ 9) (hρ : ∀ k j, ρ k j ≤ 9) (h : okN t σ) : ∀ k, okN (t + k) (csM ρ n rn σ q c k)
  | 0 => h
  | k + 1 => pass_ok hn hrn hρ (csM_ok hn hrn hρ h k)
def dOk (n c m : Nat) : Bool := decide (c / 16 ^ m % 16 < 2 ^ n)
def okD (n q c : Nat) : Bool := allN (dOk n c) q
def fC (ρ : SN) (n rn : Nat) (σ : SN) (q c : Nat) : Nat := pcn (bitsN (enN ρ (csM ρ n rn σ q c q)) n)
def plV (ok : Nat → Bool) (f : Nat → Nat) : Nat → Nat × Nat
  | 0 => (0, f 0)
  | c + 1 => if ok (c + 1) = true ∧ (plV ok f c).2 < f (c + 1) then (c + 1, f (c + 1)) else plV ok f c
theorem plV_s (ok : Nat → Bool) (f : Nat → Nat) (c : Nat) : plV ok f (c + 1) = if ok (c + 1) = true ∧ (plV ok f c).2 < f (c + 1) then (c + 1, f (c + 1)) else plV ok f c := rfl
theorem plV_v (ok : Nat → Bool) (f : Nat → Nat) : ∀ i, (plV ok f i).2 = f (plV ok f i).1
  | 0 => rfl
  | i + 1 => by
    rw [plV_s]
    by_cases e : ok (i + 1) = true ∧ (plV ok f i).2 < f (i + 1)
    · rw [if_pos e]
    · rw [if_neg e]; exact plV_v ok f i
theorem allN_i {p : Nat → Bool} : ∀ {n i : Nat}, allN p n = true → i < n → p i = true
  | 0, i, _, h => absurd h (by omega)
  | n + 1, i, h, hi => by
    rw [allN_s, Bool.and_eq_true] at h
    by_cases e : i = n
    · rw [e]; exact h.2
    · exact allN_i h.1 (by omega)
theorem allN_t {p : Nat → Bool} : ∀ {n : Nat}, (∀ i, i < n → p i = true) → allN p n = true
  | 0, _ => rfl
  | n + 1, h => by rw [allN_s, allN_t (n := n) (fun i hi => h i (by omega)), h n (by omega)]; rfl
theorem dg16 {c k : Nat} (hc : c < 2 ^ 31) (hk : 4 * k < 32) : nI c >>> (nI (4 * k) &&& 31) &&& nI 15 = nI (c / 16 ^ k % 16) := by
  rw [shr_c hc hk, show (2 : Nat) ^ (4 * k) = 16 ^ k by rw [Nat.pow_mul]]
  exact msk_c (w := 4) (Nat.lt_of_le_of_lt (Nat.div_le_self _ _) hc) (by decide)
set_option maxRecDepth 4000 in
theorem lpin_loop {I0 : IT} {J : JT} {F : FT} {n rn q t : Nat} {ρ σ : SN} (hF : Fok F) (hRo0 : mRo I0 ρ n) (hW0 : mW (I0 177) 0 σ) (hρ : ∀ k j, ρ k j ≤ 9) (hrn : rn ≤ 9) (hok : okN t σ) (htq : t + q ≤ 1000) (hq1 : 1 ≤ q) (hq3 : q ≤ 3) {Po : RT → Prop} {x c : Nat} {I1 : IT} (hRo1 : mRo I1 ρ n) (hc : c < 4096) (hk : ∀ (I : IT) (mb : Bool) (x6 : Int32) (x7 : Option VV), SCP I1 I → ((mb = true ∧ okD n q c = true ∧ mW (I 177) 30 (csM ρ n rn σ q c q)) ∨ (mb = false ∧ okD n q c = false)) → Wp none 150 Po 94 [some (vR 173), some (vI (nI q)), some (vI (nI rn)), some (vI (nI x)), some (vI (nI c)), some (vI (b2 mb)), some (vI x6), x7] [] KK I J F) : ∀ (c2 : Nat) (I : IT) (mb : Bool) (x7 : Option VV), c2 ≤ q → SCP I1 I → ((mb = true ∧ (∀ m, c2 ≤ m → m < q → dOk n c m = true) ∧ mW (I 177) 30 (csM ρ n rn σ q c (q - c2))) ∨ (mb = false ∧ ∃ m, m < q ∧ dOk n c m = false)) → Wp none 150 Po 33 [some (vR 173), some (vI (nI q)), some (vI (nI rn)), some (vI (nI x)), some (vI (nI c)), some (vI (b2 mb)), some (vI (nI c2 + (-1))), x7] [] KK I J F := by
  have hn6 := hRo0.1
  have hp64 := p64 hn6
  intro c2
  induction c2 with
  | zero =>
    intro I mb x7 hcq hsc hinv
    refine wp_iload (pc := 33) d_150_33 rfl ?_
    refine wp_if_lt (pc := 35) (tgt := 94) d_150_35 (by decide) (fun _ => ?_) (fun h => absurd (show nI 0 + (-1) < 0 by decide) h)
    refine hk I mb _ _ hsc ?_
    rcases hinv with ⟨h1, h2, h3⟩ | ⟨h1, m, h2, h3⟩
    · exact Or.inl ⟨h1, allN_t (fun i hi => h2 i (Nat.zero_le i) hi), h3⟩
    · exact Or.inr ⟨h1, allN_f h2 h3⟩
  | succ c2 ih =>
    intro I mb x7 hcq hsc hinv
    rw [pk_m1]
    refine wp_iload (pc := 33) d_150_33 rfl ?_
    refine wp_ifN_lt (pc := 35) (tgt := 94) d_150_35 (by decide) (by omega) ?_
    refine wp_iload (pc := 38) d_150_38 rfl ?_
    refine wp_ifB_eq (pc := 40) (tgt := 94) d_150_40 (by decide) (fun zq40 => ?_) (fun zq40 => ?_)
    · refine hk I mb _ _ hsc (Or.inr ⟨zq40, ?_⟩)
      rcases hinv with ⟨h1, -⟩ | ⟨-, m, h1, h2⟩
      · rw [zq40] at h1; cases h1
      · exact allN_f h1 h2
    · have hin2 : (∀ m, c2 + 1 ≤ m → m < q → dOk n c m = true) ∧ mW (I 177) 30 (csM ρ n rn σ q c (q - (c2 + 1))) := by
        rcases hinv with ⟨-, h1, h2⟩ | ⟨h1, -⟩
        · exact ⟨h1, h2⟩
        · rw [zq40] at h1; cases h1
      obtain ⟨hall, hT⟩ := hin2
      refine wp_iload (pc := 43) d_150_43 rfl ?_
      refine wp_icN (pc := 45) (m := 4) d_150_45 (by decide) ?_
      refine wp_iload (pc := 46) d_150_46 rfl ?_
      refine wp_imulN (pc := 48) d_150_48 ?_
      refine wp_ishr (pc := 49) d_150_49 ?_
      refine wp_bpN (pc := 50) (m := 15) d_150_50 (by decide) ?_
      refine wp_iand (pc := 52) d_150_52 ?_
      rw [dg16 (by omega) (by omega)]
      refine wq_istore (pc := 53) (L2 := [_, _, _, _, _, _, _, _]) d_150_53 (Nat.le_of_ble_eq_true rfl) rfl rfl ?_
      refine wp_iload (pc := 55) d_150_55 rfl ?_
      refine wp_icN (pc := 57) (m := 1) d_150_57 (by decide) ?_
      refine wp_aload_n (pc := 58) (i := 0) d_150_58 rfl rfl ?_
      refine wp_gI (pc := 59) d_150_59 fl_10_53 rfl ft_9_5 ((congrFun (hsc.2 173 (by decide) (by decide) (by decide)) _).trans hRo1.2.1) ?_
      refine wp_ishl (pc := 62) d_150_62 ?_
      rw [shl_c (by omega) (by omega), Nat.one_mul]
      refine wp_icmpN_ge (pc := 63) (tgt := 70) d_150_63 (by decide) (by omega) (by omega) (fun zq63 => ?_) (fun zq63 => ?_)
      · refine wp_icN (pc := 70) (m := 0) d_150_70 (by decide) ?_
        refine wq_istore (pc := 71) (L2 := [_, _, _, _, _, _, _, _]) d_150_71 (Nat.le_of_ble_eq_true rfl) rfl rfl ?_
        refine wp_iload (pc := 73) d_150_73 rfl ?_
        refine wp_ifN_eq (pc := 75) (tgt := 88) d_150_75 (by decide) (by decide) (fun zq75 => ?_) (fun zq75 => ?_)
        · refine wp_iinc (pc := 88) d_150_88 rfl (show nI c2 + (-1) = nI c2 + (-1) from rfl) rfl ?_
          refine wp_goto (pc := 91) (tgt := 33) d_150_91 (by decide) ?_
          exact ih I false _ (by omega) hsc (Or.inr ⟨rfl, c2, by omega, decide_eq_false (Nat.not_lt.mpr zq63)⟩)
        · exact absurd rfl zq75
      · refine wp_icN (pc := 66) (m := 1) d_150_66 (by decide) ?_
        refine wp_goto (pc := 67) (tgt := 71) d_150_67 (by decide) ?_
        refine wq_istore (pc := 71) (L2 := [_, _, _, _, _, _, _, _]) d_150_71 (Nat.le_of_ble_eq_true rfl) rfl rfl ?_
        refine wp_iload (pc := 73) d_150_73 rfl ?_
        refine wp_ifN_eq (pc := 75) (tgt := 88) d_150_75 (by decide) (by decide) (fun zq75 => ?_) (fun zq75 => ?_)
        · exact absurd zq75 (by decide)
        · refine wp_aload_n (pc := 78) (i := 0) d_150_78 rfl rfl ?_
          refine wp_bpN (pc := 79) (m := 30) d_150_79 (by decide) ?_
          refine wp_iload_n (pc := 81) (i := 2) d_150_81 rfl rfl ?_
          refine wp_iload (pc := 82) d_150_82 rfl ?_
          refine wp_callV3e (pc := 84) d_150_84 lk_10_121 (by decide) rfl (Nat.le_of_ble_eq_true rfl) rfl rfl (m_pass hF (hRo1.s hsc.M) hρ (Nat.le_refl 30) (show c / 16 ^ c2 % 16 < 64 by omega) hrn (csM_ok hn6 hrn hρ hok (q - (c2 + 1))) (by omega) hT) (fun Iq84 hq84 => ?_)
          refine wp_pop (pc := 87) d_150_87 rfl ?_
          refine wp_iinc (pc := 88) d_150_88 rfl (show nI c2 + (-1) = nI c2 + (-1) from rfl) rfl ?_
          refine wp_goto (pc := 91) (tgt := 33) d_150_91 (by decide) ?_
          refine ih Iq84 true _ (by omega) (hsc.tr ⟨fun k hk2 => hq84.2.1 k (by omega), hq84.2.2⟩) (Or.inl ⟨rfl, fun m h1 h2 => ?_, ?_⟩)
          · by_cases e : m = c2
            · rw [e]; exact decide_eq_true zq63
            · exact hall m (by omega) h2
          · rw [show q - c2 = (q - (c2 + 1)) + 1 by omega]
            show mW (Iq84 177) 30 (passN ρ n (c / 16 ^ (q - 1 - (q - (c2 + 1))) % 16) rn (csM ρ n rn σ q c (q - (c2 + 1))))
            rw [show q - 1 - (q - (c2 + 1)) = c2 by omega]
            exact hq84.1
theorem SCM.cp {I I2 : IT} (h : (∀ q, q < 30 → I2 177 (30 + q) = I 177 q) ∧ (∀ q, (q < 30 ∨ 60 ≤ q) → I2 177 q = I 177 q) ∧ ∀ a, a ≠ 177 → I2 a = I a) : SCM I I2 := ⟨fun q _ _ _ _ => by rw [h.2.2 173 (by decide)], fun k hk => h.2.1 k (Or.inl hk), fun a ha => h.2.2 a (by omega)⟩
theorem okD_0 {n q : Nat} : okD n q 0 = true := allN_t (fun i _ => decide_eq_true (by rw [Nat.zero_div]; exact Nat.two_pow_pos n))
set_option maxRecDepth 4000 in
theorem layPlan_step {I0 : IT} {J : JT} {F : FT} {n rn q t : Nat} {ρ σ : SN} (hF : Fok F) (hRo0 : mRo I0 ρ n) (hW0 : mW (I0 177) 0 σ) (hρ : ∀ k j, ρ k j ≤ 9) (hrn : rn ≤ 9) (hok : okN t σ) (htq : t + q ≤ 1000) (hq1 : 1 ≤ q) (hq3 : q ≤ 3) (c : Nat) (hi0 : c ≤ 2 ^ (4 * q)) (I : IT) (x : Nat) (x5 : Option VV) (x6 : Option VV) (x7 : Option VV) (hsc : SCM I0 I) (hst : (c = 0 ∧ x = 0 ∧ I 173 17 = -9) ∨ ∃ k, c = k + 1 ∧ x = (plV (okD n q) (fC ρ n rn σ q) k).1 ∧ I 173 17 = nI (plV (okD n q) (fC ρ n rn σ q) k).2) (hx4 : x < 4096)
    (ih0 : ∀ i', c < 2 ^ (4 * q) → i' = c + 1 → ∀ (I : IT) (x : Nat) (x5 : Option VV) (x6 : Option VV) (x7 : Option VV), (SCM I0 I) → ((i' = 0 ∧ x = 0 ∧ I 173 17 = -9) ∨ ∃ k, i' = k + 1 ∧ x = (plV (okD n q) (fC ρ n rn σ q) k).1 ∧ I 173 17 = nI (plV (okD n q) (fC ρ n rn σ q) k).2) → (x < 4096) → Wp none 150 (fun R => ∃ I2, R = (some (vI (nI (plV (okD n q) (fC ρ n rn σ q) (2 ^ (4 * q) - 1)).1)), KK, I2, J, F) ∧ I2 173 17 = nI (plV (okD n q) (fC ρ n rn σ q) (2 ^ (4 * q) - 1)).2 ∧ SCM I0 I2) 11 [some (vR 173), some (vI (nI q)), some (vI (nI rn)), some (vI (nI x)), some (vI (nI i')), x5, x6, x7] [] KK I J F) : Wp none 150 (fun R => ∃ I2, R = (some (vI (nI (plV (okD n q) (fC ρ n rn σ q) (2 ^ (4 * q) - 1)).1)), KK, I2, J, F) ∧ I2 173 17 = nI (plV (okD n q) (fC ρ n rn σ q) (2 ^ (4 * q) - 1)).2 ∧ SCM I0 I2) 11 [some (vR 173), some (vI (nI q)), some (vI (nI rn)), some (vI (nI x)), some (vI (nI c)), x5, x6, x7] [] KK I J F := by
  have hn6 := hRo0.1
  have h16 : 2 ^ (4 * q) ≤ 2 ^ 12 := Nat.pow_le_pow_right (by decide) (by omega)
  have hp1 := Nat.two_pow_pos (4 * q)
  refine wp_iload (pc := 11) d_150_11 rfl ?_
  refine wp_icN (pc := 13) (m := 1) d_150_13 (by decide) ?_
  refine wp_icN (pc := 14) (m := 4) d_150_14 (by decide) ?_
  refine wp_iload_n (pc := 15) (i := 1) d_150_15 rfl rfl ?_
  refine wp_imulN (pc := 16) d_150_16 ?_
  refine wp_ishl (pc := 17) d_150_17 ?_
  rw [shl_c (by omega) (by omega), Nat.one_mul]
  refine wp_icmpN_ge (pc := 18) (tgt := 154) d_150_18 (by decide) (by omega) (by omega) (fun zq18 => ?_) (fun zq18 => ?_)
  · refine wp_iload_n (pc := 154) (i := 3) d_150_154 rfl rfl ?_
    rcases hst with ⟨g1, g2, g3⟩ | ⟨k, g1, g2, g3⟩
    · omega
    · exact wp_iret (pc := 155) d_150_155 (Or.inl rfl) ⟨_, by rw [g2, show k = 2 ^ (4 * q) - 1 by omega], by rw [g3, show k = 2 ^ (4 * q) - 1 by omega], hsc⟩
  · refine wp_icN (pc := 21) (m := 1) d_150_21 (by decide) ?_
    have hlt : c < 2 ^ (4 * q) := zq18
    refine wq_istore (pc := 22) (L2 := [_, _, _, _, _, _, _, _]) d_150_22 (Nat.le_of_ble_eq_true rfl) rfl rfl ?_
    refine wp_aload_n (pc := 24) (i := 0) d_150_24 rfl rfl ?_
    refine wp_callV0v (pc := 25) d_150_25 lk_10_124 (by decide) rfl (Nat.le_of_ble_eq_true rfl) rfl rfl (m_copy hF) (fun Iq25 hq25 => ?_)
    refine wp_iload_n (pc := 28) (i := 1) d_150_28 rfl rfl ?_
    refine wp_icN (pc := 29) (m := 1) d_150_29 (by decide) ?_
    refine wp_isub (pc := 30) d_150_30 ?_
    rw [sub_m1]
    refine wq_istore (pc := 31) (L2 := [_, _, _, _, _, _, _, _]) d_150_31 (Nat.le_of_ble_eq_true rfl) rfl rfl ?_
    refine lpin_loop hF hRo0 hW0 hρ hrn hok htq hq1 hq3 (I1 := Iq25) ((hRo0.s hsc).s (SCM.cp hq25)) (show c < 4096 by omega) (fun I mb x6 x7 hscp hf => ?_) q Iq25 true _ (Nat.le_refl q) ⟨fun _ _ => rfl, fun _ _ _ _ => rfl⟩ (Or.inl ⟨rfl, fun m h1 h2 => absurd h1 (by omega), ?_⟩)
    · rcases hf with ⟨hm, hok2, hT⟩ | ⟨hm, hok2⟩
      · subst hm
        refine wp_iload (pc := 94) d_150_94 rfl ?_
        refine wp_ifB_eq (pc := 96) (tgt := 106) d_150_96 (by decide) (fun zq96 => ?_) (fun zq96 => ?_)
        · exact absurd zq96 (by decide)
        · refine wp_aload_n (pc := 99) (i := 0) d_150_99 rfl rfl ?_
          refine wp_callV0p (pc := 100) d_150_100 lk_10_136 (by decide) rfl (Nat.le_of_ble_eq_true rfl) rfl rfl (m_servedE (v := fC ρ n rn σ q c) rfl hF (((hRo0.s hsc).s (SCM.cp hq25)).s hscp.M) hT hρ ((csM_ok hn6 hrn hρ hok q).g (by omega))) ?_
          refine wp_goto (pc := 103) (tgt := 108) d_150_103 (by decide) ?_
          refine wq_istore (pc := 108) (L2 := [_, _, _, _, _, _, _, _]) d_150_108 (Nat.le_of_ble_eq_true rfl) rfl rfl ?_
          rcases hst with ⟨g1, g2, g3⟩ | ⟨k, g1, g2, g3⟩
          · have hm27 := (congrFun (hscp.2 173 (by decide) (by decide) (by decide)) 17).trans ((congrFun (hq25.2.2 173 (by decide)) 17).trans g3)
            have hcl : (fC ρ n rn σ q) c ≤ 8 := pcn_le _ (by have := bits64 (enN ρ (csM ρ n rn σ q c q)) hn6; omega)
            refine wp_iload (pc := 110) d_150_110 rfl ?_
            refine wp_aload_n (pc := 112) (i := 0) d_150_112 rfl rfl ?_
            refine wp_gI (pc := 113) d_150_113 fl_10_133 rfl ft_9_17 hm27 ?_
            refine wp_icmp_le (pc := 116) (tgt := 124) d_150_116 (by decide) (fun zq116 => ?_) (fun zq116 => ?_)
            · exact absurd (neg9_lt (by omega)) (Int32.not_lt.mpr zq116)
            · refine wp_iload (pc := 119) d_150_119 rfl ?_
              refine wp_goto (pc := 121) (tgt := 125) d_150_121 (by decide) ?_
              refine wq_istore_n (pc := 125) (L2 := [_, _, _, _, _, _, _, _]) (i := 3) d_150_125 rfl (Nat.le_of_ble_eq_true rfl) rfl rfl ?_
              refine wp_aload_n (pc := 126) (i := 0) d_150_126 rfl rfl ?_
              refine wp_iload (pc := 127) d_150_127 rfl ?_
              refine wp_aload_n (pc := 129) (i := 0) d_150_129 rfl rfl ?_
              refine wp_gI (pc := 130) d_150_130 fl_10_133 rfl ft_9_17 hm27 ?_
              refine wp_icmp_le (pc := 133) (tgt := 141) d_150_133 (by decide) (fun zq133 => ?_) (fun zq133 => ?_)
              · exact absurd (neg9_lt (by omega)) (Int32.not_lt.mpr zq133)
              · refine wp_iload (pc := 136) d_150_136 rfl ?_
                refine wp_goto (pc := 138) (tgt := 145) d_150_138 (by decide) ?_
                refine wp_pI (pc := 145) d_150_145 fl_10_133 rfl ft_9_17 rfl (fun Iq145 uq145 => ?_)
                refine wq_iincN (pc := 148) (L2 := [_, _, _, _, _, _, _, _]) d_150_148 rfl (b := 1) (by decide) rfl rfl ?_
                refine wp_goto (pc := 151) (tgt := 11) d_150_151 (by decide) ?_
                exact ih0 (c + 1) hlt rfl _ _ _ _ _ ((hsc.tr (SCM.cp hq25)).tr (hscp.M.tr ⟨fun q2 h1 h2 h3 h4 => uq145.ne h4, fun k2 _ => by rw [uq145.off (by decide)], fun a ha => uq145.2 a (by omega)⟩)) (Or.inr ⟨c, rfl, by subst g1; rfl, by rw [uq145.at]; subst g1; rfl⟩) (by omega)
          · have hm27 := (congrFun (hscp.2 173 (by decide) (by decide) (by decide)) 17).trans ((congrFun (hq25.2.2 173 (by decide)) 17).trans g3)
            have hcl : (fC ρ n rn σ q) c ≤ 8 := pcn_le _ (by have := bits64 (enN ρ (csM ρ n rn σ q c q)) hn6; omega)
            have hfl : (plV (okD n q) (fC ρ n rn σ q) k).2 ≤ 8 := by rw [plV_v]; exact pcn_le _ (by have := bits64 (enN ρ (csM ρ n rn σ q (plV (okD n q) (fC ρ n rn σ q) k).1 q)) hn6; omega)
            refine wp_iload (pc := 110) d_150_110 rfl ?_
            refine wp_aload_n (pc := 112) (i := 0) d_150_112 rfl rfl ?_
            refine wp_gI (pc := 113) d_150_113 fl_10_133 rfl ft_9_17 hm27 ?_
            refine wp_icmpN_le (pc := 116) (tgt := 124) d_150_116 (by decide) (by omega) (by omega) (fun zq116 => ?_) (fun zq116 => ?_)
            · refine wp_iload_n (pc := 124) (i := 3) d_150_124 rfl rfl ?_
              refine wq_istore_n (pc := 125) (L2 := [_, _, _, _, _, _, _, _]) (i := 3) d_150_125 rfl (Nat.le_of_ble_eq_true rfl) rfl rfl ?_
              refine wp_aload_n (pc := 126) (i := 0) d_150_126 rfl rfl ?_
              refine wp_iload (pc := 127) d_150_127 rfl ?_
              refine wp_aload_n (pc := 129) (i := 0) d_150_129 rfl rfl ?_
              refine wp_gI (pc := 130) d_150_130 fl_10_133 rfl ft_9_17 hm27 ?_
              refine wp_icmpN_le (pc := 133) (tgt := 141) d_150_133 (by decide) (by omega) (by omega) (fun zq133 => ?_) (fun zq133 => ?_)
              · refine wp_aload_n (pc := 141) (i := 0) d_150_141 rfl rfl ?_
                refine wp_gI (pc := 142) d_150_142 fl_10_133 rfl ft_9_17 hm27 ?_
                refine wp_pI (pc := 145) d_150_145 fl_10_133 rfl ft_9_17 rfl (fun Iq145 uq145 => ?_)
                refine wq_iincN (pc := 148) (L2 := [_, _, _, _, _, _, _, _]) d_150_148 rfl (b := 1) (by decide) rfl rfl ?_
                refine wp_goto (pc := 151) (tgt := 11) d_150_151 (by decide) ?_
                have hcc : ¬ ((okD n q) (k + 1) = true ∧ (plV (okD n q) (fC ρ n rn σ q) k).2 < (fC ρ n rn σ q) (k + 1)) := by rw [← g1]; exact fun h => absurd h.2 (Nat.not_lt.mpr zq116)
                exact ih0 (c + 1) hlt rfl _ _ _ _ _ ((hsc.tr (SCM.cp hq25)).tr (hscp.M.tr ⟨fun q2 h1 h2 h3 h4 => uq145.ne h4, fun k2 _ => by rw [uq145.off (by decide)], fun a ha => uq145.2 a (by omega)⟩)) (Or.inr ⟨c, rfl, by rw [g1, plV_s, if_neg hcc]; exact g2, by rw [uq145.at, g1, plV_s, if_neg hcc]⟩) (by omega)
              · exact absurd zq116 (Nat.not_le.mpr zq133)
            · refine wp_iload (pc := 119) d_150_119 rfl ?_
              refine wp_goto (pc := 121) (tgt := 125) d_150_121 (by decide) ?_
              refine wq_istore_n (pc := 125) (L2 := [_, _, _, _, _, _, _, _]) (i := 3) d_150_125 rfl (Nat.le_of_ble_eq_true rfl) rfl rfl ?_
              refine wp_aload_n (pc := 126) (i := 0) d_150_126 rfl rfl ?_
              refine wp_iload (pc := 127) d_150_127 rfl ?_
              refine wp_aload_n (pc := 129) (i := 0) d_150_129 rfl rfl ?_
              refine wp_gI (pc := 130) d_150_130 fl_10_133 rfl ft_9_17 hm27 ?_
              refine wp_icmpN_le (pc := 133) (tgt := 141) d_150_133 (by decide) (by omega) (by omega) (fun zq133 => ?_) (fun zq133 => ?_)
              · exact absurd zq133 (Nat.not_le.mpr zq116)
              · refine wp_iload (pc := 136) d_150_136 rfl ?_
                refine wp_goto (pc := 138) (tgt := 145) d_150_138 (by decide) ?_
                refine wp_pI (pc := 145) d_150_145 fl_10_133 rfl ft_9_17 rfl (fun Iq145 uq145 => ?_)
                refine wq_iincN (pc := 148) (L2 := [_, _, _, _, _, _, _, _]) d_150_148 rfl (b := 1) (by decide) rfl rfl ?_
                refine wp_goto (pc := 151) (tgt := 11) d_150_151 (by decide) ?_
                have hcc : (okD n q) (k + 1) = true ∧ (plV (okD n q) (fC ρ n rn σ q) k).2 < (fC ρ n rn σ q) (k + 1) := by rw [← g1]; exact ⟨hok2, zq116⟩
                exact ih0 (c + 1) hlt rfl _ _ _ _ _ ((hsc.tr (SCM.cp hq25)).tr (hscp.M.tr ⟨fun q2 h1 h2 h3 h4 => uq145.ne h4, fun k2 _ => by rw [uq145.off (by decide)], fun a ha => uq145.2 a (by omega)⟩)) (Or.inr ⟨c, rfl, by rw [g1, plV_s, if_pos hcc], by rw [uq145.at, g1, plV_s, if_pos hcc]⟩) (by omega)
      · subst hm
        refine wp_iload (pc := 94) d_150_94 rfl ?_
        refine wp_ifB_eq (pc := 96) (tgt := 106) d_150_96 (by decide) (fun zq96 => ?_) (fun zq96 => ?_)
        · refine wp_bipush (pc := 106) (v := (-9)) d_150_106 (by decide) ?_
          refine wq_istore (pc := 108) (L2 := [_, _, _, _, _, _, _, _]) d_150_108 (Nat.le_of_ble_eq_true rfl) rfl rfl ?_
          rcases hst with ⟨g1, g2, g3⟩ | ⟨k, g1, g2, g3⟩
          · rw [g1, okD_0] at hok2; cases hok2
          · have hm27 := (congrFun (hscp.2 173 (by decide) (by decide) (by decide)) 17).trans ((congrFun (hq25.2.2 173 (by decide)) 17).trans g3)
            have hfl : (plV (okD n q) (fC ρ n rn σ q) k).2 ≤ 8 := by rw [plV_v]; exact pcn_le _ (by have := bits64 (enN ρ (csM ρ n rn σ q (plV (okD n q) (fC ρ n rn σ q) k).1 q)) hn6; omega)
            refine wp_iload (pc := 110) d_150_110 rfl ?_
            refine wp_aload_n (pc := 112) (i := 0) d_150_112 rfl rfl ?_
            refine wp_gI (pc := 113) d_150_113 fl_10_133 rfl ft_9_17 hm27 ?_
            refine wp_icmp_le (pc := 116) (tgt := 124) d_150_116 (by decide) (fun zq116 => ?_) (fun zq116 => ?_)
            · refine wp_iload_n (pc := 124) (i := 3) d_150_124 rfl rfl ?_
              refine wq_istore_n (pc := 125) (L2 := [_, _, _, _, _, _, _, _]) (i := 3) d_150_125 rfl (Nat.le_of_ble_eq_true rfl) rfl rfl ?_
              refine wp_aload_n (pc := 126) (i := 0) d_150_126 rfl rfl ?_
              refine wp_iload (pc := 127) d_150_127 rfl ?_
              refine wp_aload_n (pc := 129) (i := 0) d_150_129 rfl rfl ?_
              refine wp_gI (pc := 130) d_150_130 fl_10_133 rfl ft_9_17 hm27 ?_
              refine wp_icmp_le (pc := 133) (tgt := 141) d_150_133 (by decide) (fun zq133 => ?_) (fun zq133 => ?_)
              · refine wp_aload_n (pc := 141) (i := 0) d_150_141 rfl rfl ?_
                refine wp_gI (pc := 142) d_150_142 fl_10_133 rfl ft_9_17 hm27 ?_
                refine wp_pI (pc := 145) d_150_145 fl_10_133 rfl ft_9_17 rfl (fun Iq145 uq145 => ?_)
                refine wq_iincN (pc := 148) (L2 := [_, _, _, _, _, _, _, _]) d_150_148 rfl (b := 1) (by decide) rfl rfl ?_
                refine wp_goto (pc := 151) (tgt := 11) d_150_151 (by decide) ?_
                have hcc : ¬ ((okD n q) (k + 1) = true ∧ (plV (okD n q) (fC ρ n rn σ q) k).2 < (fC ρ n rn σ q) (k + 1)) := by rw [← g1]; exact fun h => by have h1 := h.1; rw [hok2] at h1; cases h1
                exact ih0 (c + 1) hlt rfl _ _ _ _ _ ((hsc.tr (SCM.cp hq25)).tr (hscp.M.tr ⟨fun q2 h1 h2 h3 h4 => uq145.ne h4, fun k2 _ => by rw [uq145.off (by decide)], fun a ha => uq145.2 a (by omega)⟩)) (Or.inr ⟨c, rfl, by rw [g1, plV_s, if_neg hcc]; exact g2, by rw [uq145.at, g1, plV_s, if_neg hcc]⟩) (by omega)
              · exact absurd (Int32.le_of_lt (neg9_lt (by omega))) zq133
            · exact absurd (Int32.le_of_lt (neg9_lt (by omega))) zq116
        · exact absurd zq96 (by decide)
    · rw [Nat.sub_self]; exact (hW0.s hsc).cp (fun q2 hq2 => by rw [Nat.zero_add]; exact hq25.1 q2 (by omega))
theorem layPlan_loop {I0 : IT} {J : JT} {F : FT} {n rn q t : Nat} {ρ σ : SN} (hF : Fok F) (hRo0 : mRo I0 ρ n) (hW0 : mW (I0 177) 0 σ) (hρ : ∀ k j, ρ k j ≤ 9) (hrn : rn ≤ 9) (hok : okN t σ) (htq : t + q ≤ 1000) (hq1 : 1 ≤ q) (hq3 : q ≤ 3) : ∀ (d i : Nat), i + d = 2 ^ (4 * q) → ∀ (I : IT) (x : Nat) (x5 : Option VV) (x6 : Option VV) (x7 : Option VV), (SCM I0 I) → ((i = 0 ∧ x = 0 ∧ I 173 17 = -9) ∨ ∃ k, i = k + 1 ∧ x = (plV (okD n q) (fC ρ n rn σ q) k).1 ∧ I 173 17 = nI (plV (okD n q) (fC ρ n rn σ q) k).2) → (x < 4096) → Wp none 150 (fun R => ∃ I2, R = (some (vI (nI (plV (okD n q) (fC ρ n rn σ q) (2 ^ (4 * q) - 1)).1)), KK, I2, J, F) ∧ I2 173 17 = nI (plV (okD n q) (fC ρ n rn σ q) (2 ^ (4 * q) - 1)).2 ∧ SCM I0 I2) 11 [some (vR 173), some (vI (nI q)), some (vI (nI rn)), some (vI (nI x)), some (vI (nI i)), x5, x6, x7] [] KK I J F := by
  intro d
  induction d with
  | zero =>
    intro i hid I x x5 x6 x7 hsc hst hx4
    exact layPlan_step hF hRo0 hW0 hρ hrn hok htq hq1 hq3 i (by omega) I x x5 x6 x7 hsc hst hx4 (fun i' hlt => absurd hlt (by omega))
  | succ d ih =>
    intro i hid I x x5 x6 x7 hsc hst hx4
    exact layPlan_step hF hRo0 hW0 hρ hrn hok htq hq1 hq3 i (by omega) I x x5 x6 x7 hsc hst hx4 (fun i' hlt he => ih i' (by omega))

set_option maxRecDepth 4000 in
theorem m_layPlan {I0 : IT} {J : JT} {F : FT} {n rn q t : Nat} {ρ σ : SN} (hF : Fok F) (hRo0 : mRo I0 ρ n) (hW0 : mW (I0 177) 0 σ) (hρ : ∀ k j, ρ k j ≤ 9) (hrn : rn ≤ 9) (hok : okN t σ) (htq : t + q ≤ 1000) (hq1 : 1 ≤ q) (hq3 : q ≤ 3) : Sp 150 [vR 173, vI (nI q), vI (nI rn)] KK I0 J F (fun R => ∃ I2, R = (some (vI (nI (plV (okD n q) (fC ρ n rn σ q) (2 ^ (4 * q) - 1)).1)), KK, I2, J, F) ∧ I2 173 17 = nI (plV (okD n q) (fC ρ n rn σ q) (2 ^ (4 * q) - 1)).2 ∧ SCM I0 I2) := by
  refine Sp.mk2 (Nat.le_of_ble_eq_true rfl) (L2 := [_, _, _, _, _, _, _, _]) rfl ?_
  refine wp_icN (pc := 0) (m := 0) d_150_0 (by decide) ?_
  refine wq_istore_n (pc := 1) (L2 := [_, _, _, _, _, _, _, _]) (i := 3) d_150_1 rfl (Nat.le_of_ble_eq_true rfl) rfl rfl ?_
  refine wp_aload_n (pc := 2) (i := 0) d_150_2 rfl rfl ?_
  refine wp_bipush (pc := 3) (v := (-9)) d_150_3 (by decide) ?_
  refine wp_pI (pc := 5) d_150_5 fl_10_133 rfl ft_9_17 rfl (fun Iq5 uq5 => ?_)
  refine wp_icN (pc := 8) (m := 0) d_150_8 (by decide) ?_
  refine wq_istore (pc := 9) (L2 := [_, _, _, _, _, _, _, _]) d_150_9 (Nat.le_of_ble_eq_true rfl) rfl rfl ?_
  exact layPlan_loop hF hRo0 hW0 hρ hrn hok htq hq1 hq3 (2 ^ (4 * q)) 0 (by omega) _ 0 _ _ _ ⟨fun q2 h1 h2 h3 h4 => uq5.ne h4, fun k _ => by rw [uq5.off (by decide)], fun a ha => uq5.2 a (by omega)⟩ (Or.inl ⟨rfl, rfl, uq5.at⟩) (by decide)
