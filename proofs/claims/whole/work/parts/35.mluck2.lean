theorem bitg {d j : Nat} (hd : d < 2 ^ 31) (hj : j < 32) : nI d >>> (nI j &&& 31) &&& nI 1 = nI (d / 2 ^ j % 2) := by
  rw [shr_c hd hj]
  exact msk_c (w := 1) (Nat.lt_of_le_of_lt (Nat.div_le_self _ _) hd) (by decide)
set_option maxRecDepth 4000 in
theorem lkin_step {I0 : IT} {J : JT} {F : FT} {t jr jq rn xx : Nat} {tx : Nat → Nat} {tl : Nat} {ρ : SN} {n : Nat} {σ : SN} {rg : Nat → SN} {nx na : Nat} {γ : SN} {gn : Nat} {sl : Nat → SN} {sf : Nat → Bool} {sd : Int64} {p : Bool} (hF : Fok F) (hC : MR I0 J tx tl ρ n σ rg nx na γ gn sl sf sd) (hO : OKS t tx tl ρ n σ rg nx na γ gn sl sf) (ht : t + 100 ≤ 1000) (hjr : jr < n) (hq8 : jq ≤ 8) (hrn : rn ≤ 9) (hx10 : xx ≤ 10) {Po : RT → Prop} {sm al c : Nat} (hc : c < 256) (hk : ∀ (I : IT) (i wt : Nat) (x14 : Option VV), i = jq → mW (I 177) 30 (clM ρ n (σ 4 7) rn σ c jq) → SCP I0 I → wt = wtM xx c jq → Wp none 158 Po 153 [some (vR 173), some (vI (nI jr)), some (vI (nI jq)), some (vI (nI rn)), some (vI (nI xx)), some (vI (b2 p)), some (vL (lN sm)), none, some (vL (lN al)), none, some (vI (nI c)), some (vL (lN wt)), none, some (vI (nI i)), x14] [] KK I J F) (i : Nat) (hi0 : i ≤ jq) (I : IT) (wt : Nat) (x14 : Option VV) (hT : mW (I 177) 30 (clM ρ n (σ 4 7) rn σ c i)) (hsc : SCP I0 I) (hwt : wt = wtM xx c i)
    (ih0 : ∀ i', i < jq → i' = i + 1 → ∀ (I : IT) (wt : Nat) (x14 : Option VV), (mW (I 177) 30 (clM ρ n (σ 4 7) rn σ c i')) → (SCP I0 I) → (wt = wtM xx c i') → Wp none 158 Po 80 [some (vR 173), some (vI (nI jr)), some (vI (nI jq)), some (vI (nI rn)), some (vI (nI xx)), some (vI (b2 p)), some (vL (lN sm)), none, some (vL (lN al)), none, some (vI (nI c)), some (vL (lN wt)), none, some (vI (nI i')), x14] [] KK I J F) : Wp none 158 Po 80 [some (vR 173), some (vI (nI jr)), some (vI (nI jq)), some (vI (nI rn)), some (vI (nI xx)), some (vI (b2 p)), some (vL (lN sm)), none, some (vL (lN al)), none, some (vI (nI c)), some (vL (lN wt)), none, some (vI (nI i)), x14] [] KK I J F := by
  have hC0 := hC
  obtain ⟨hTx, hRo, hNo, hAc, hGa, hSl, hsd⟩ := hC
  obtain ⟨ht40, hx256, hρ, hok, hrg, hnx, hna, hgo, hsl, hz, hzr, hzs, hn6⟩ := hO
  have hd64 := hok.2.2.2.2.2
  have hgn6 := hGa.1
  refine wp_iload (pc := 80) d_158_80 rfl ?_
  refine wp_iload_n (pc := 82) (i := 2) d_158_82 rfl rfl ?_
  refine wp_icmpN_ge (pc := 83) (tgt := 153) d_158_83 (by decide) (by omega) (by omega) (fun zq83 => ?_) (fun zq83 => ?_)
  · have hiq : i = jq := by omega
    exact hk I i wt x14 hiq (by rw [← hiq]; exact hT) hsc (by rw [← hiq]; exact hwt)
  · refine wp_iload (pc := 86) d_158_86 rfl ?_
    refine wp_iload (pc := 88) d_158_88 rfl ?_
    refine wp_ishr (pc := 90) d_158_90 ?_
    refine wp_icN (pc := 91) (m := 1) d_158_91 (by decide) ?_
    refine wp_iand (pc := 92) d_158_92 ?_
    rw [bitg (by omega) (by omega)]
    refine wp_icN (pc := 93) (m := 1) d_158_93 (by decide) ?_
    refine wp_icmpN_ne (pc := 94) (tgt := 101) d_158_94 (by decide) (by omega) (by decide) (fun zq94 => ?_) (fun zq94 => ?_)
    · refine wp_icN (pc := 101) (m := 0) d_158_101 (by decide) ?_
      refine wq_istore (pc := 102) (L2 := [_, _, _, _, _, _, _, _, _, _, _, _, _, _, _]) d_158_102 (Nat.le_of_ble_eq_true rfl) rfl rfl ?_
      refine wp_lload (pc := 104) d_158_104 rfl ?_
      refine wp_iload (pc := 106) d_158_106 rfl ?_
      refine wp_ifN_eq (pc := 108) (tgt := 117) d_158_108 (by decide) (by decide) (fun zq108 => ?_) (fun zq108 => ?_)
      · refine wp_bpN (pc := 117) (m := 10) d_158_117 (by decide) ?_
        refine wp_iload (pc := 119) d_158_119 rfl ?_
        refine wp_isubN (pc := 121) d_158_121 (by omega) ?_
        refine wr_i2lM (pc := 122) d_158_122 (by omega) ?_
        refine wr_lmulM (pc := 123) d_158_123 ?_
        refine wq_lstore (pc := 124) (L2 := [_, _, _, _, _, _, _, _, _, _, _, _, _, _, _]) d_158_124 (Nat.le_of_ble_eq_true rfl) rfl rfl ?_
        refine wp_aload_n (pc := 126) (i := 0) d_158_126 rfl rfl ?_
        refine wp_bpN (pc := 127) (m := 30) d_158_127 (by decide) ?_
        refine wp_iload (pc := 129) d_158_129 rfl ?_
        refine wp_ifN_eq (pc := 131) (tgt := 138) d_158_131 (by decide) (by decide) (fun zq131 => ?_) (fun zq131 => ?_)
        · refine wp_icN (pc := 138) (m := 0) d_158_138 (by decide) ?_
          refine wp_aload_n (pc := 139) (i := 0) d_158_139 rfl rfl ?_
          refine wp_gI (pc := 140) d_158_140 fl_10_90 rfl ft_9_6 ((congrFun (hsc.2 173 (by decide) (by decide) (by decide)) _).trans hNo.2.2) ?_
          refine wp_callV3e (pc := 143) d_158_143 lk_10_121 (by decide) rfl (Nat.le_of_ble_eq_true rfl) rfl rfl (m_pass hF (hRo.s hsc.M) hρ (Nat.le_refl 30) hd64 (by decide) (clM_ok hn6 hrn hρ hok i) (by omega) hT) (fun Iq143 hq143 => ?_)
          refine wp_pop (pc := 146) d_158_146 rfl ?_
          refine wq_iincN (pc := 147) (L2 := [_, _, _, _, _, _, _, _, _, _, _, _, _, _, _]) d_158_147 rfl (b := 1) (by decide) rfl rfl ?_
          refine wp_goto (pc := 150) (tgt := 80) d_158_150 (by decide) ?_
          refine ih0 (i + 1) zq83 rfl _ _ _ ?_ (hsc.tr ⟨fun k hk => hq143.2.1 k (by omega), hq143.2.2⟩) (by rw [hwt]; show _ = wtM xx c i * (if c / 2 ^ i % 2 = 1 then xx else 10 - xx); rw [if_neg zq94])
          show mW (Iq143 177) 30 (passN ρ n (σ 4 7) (c / 2 ^ i % 2 * rn) (clM ρ n (σ 4 7) rn σ c i))
          rw [show c / 2 ^ i % 2 = 0 by omega, Nat.zero_mul]; exact hq143.1
        · exact absurd rfl zq131
      · exact absurd rfl zq108
    · refine wp_icN (pc := 97) (m := 1) d_158_97 (by decide) ?_
      refine wp_goto (pc := 98) (tgt := 102) d_158_98 (by decide) ?_
      refine wq_istore (pc := 102) (L2 := [_, _, _, _, _, _, _, _, _, _, _, _, _, _, _]) d_158_102 (Nat.le_of_ble_eq_true rfl) rfl rfl ?_
      refine wp_lload (pc := 104) d_158_104 rfl ?_
      refine wp_iload (pc := 106) d_158_106 rfl ?_
      refine wp_ifN_eq (pc := 108) (tgt := 117) d_158_108 (by decide) (by decide) (fun zq108 => ?_) (fun zq108 => ?_)
      · exact absurd zq108 (by decide)
      · refine wp_iload (pc := 111) d_158_111 rfl ?_
        refine wr_i2lM (pc := 113) d_158_113 (by omega) ?_
        refine wp_goto (pc := 114) (tgt := 123) d_158_114 (by decide) ?_
        refine wr_lmulM (pc := 123) d_158_123 ?_
        refine wq_lstore (pc := 124) (L2 := [_, _, _, _, _, _, _, _, _, _, _, _, _, _, _]) d_158_124 (Nat.le_of_ble_eq_true rfl) rfl rfl ?_
        refine wp_aload_n (pc := 126) (i := 0) d_158_126 rfl rfl ?_
        refine wp_bpN (pc := 127) (m := 30) d_158_127 (by decide) ?_
        refine wp_iload (pc := 129) d_158_129 rfl ?_
        refine wp_ifN_eq (pc := 131) (tgt := 138) d_158_131 (by decide) (by decide) (fun zq131 => ?_) (fun zq131 => ?_)
        · exact absurd zq131 (by decide)
        · refine wp_iload_n (pc := 134) (i := 3) d_158_134 rfl rfl ?_
          refine wp_goto (pc := 135) (tgt := 139) d_158_135 (by decide) ?_
          refine wp_aload_n (pc := 139) (i := 0) d_158_139 rfl rfl ?_
          refine wp_gI (pc := 140) d_158_140 fl_10_90 rfl ft_9_6 ((congrFun (hsc.2 173 (by decide) (by decide) (by decide)) _).trans hNo.2.2) ?_
          refine wp_callV3e (pc := 143) d_158_143 lk_10_121 (by decide) rfl (Nat.le_of_ble_eq_true rfl) rfl rfl (m_pass hF (hRo.s hsc.M) hρ (Nat.le_refl 30) hd64 (by omega) (clM_ok hn6 hrn hρ hok i) (by omega) hT) (fun Iq143 hq143 => ?_)
          refine wp_pop (pc := 146) d_158_146 rfl ?_
          refine wq_iincN (pc := 147) (L2 := [_, _, _, _, _, _, _, _, _, _, _, _, _, _, _]) d_158_147 rfl (b := 1) (by decide) rfl rfl ?_
          refine wp_goto (pc := 150) (tgt := 80) d_158_150 (by decide) ?_
          refine ih0 (i + 1) zq83 rfl _ _ _ ?_ (hsc.tr ⟨fun k hk => hq143.2.1 k (by omega), hq143.2.2⟩) (by rw [hwt]; show _ = wtM xx c i * (if c / 2 ^ i % 2 = 1 then xx else 10 - xx); rw [if_pos zq94])
          show mW (Iq143 177) 30 (passN ρ n (σ 4 7) (c / 2 ^ i % 2 * rn) (clM ρ n (σ 4 7) rn σ c i))
          rw [show c / 2 ^ i % 2 = 1 from zq94, Nat.one_mul]; exact hq143.1
theorem lkin_loop {I0 : IT} {J : JT} {F : FT} {t jr jq rn xx : Nat} {tx : Nat → Nat} {tl : Nat} {ρ : SN} {n : Nat} {σ : SN} {rg : Nat → SN} {nx na : Nat} {γ : SN} {gn : Nat} {sl : Nat → SN} {sf : Nat → Bool} {sd : Int64} {p : Bool} (hF : Fok F) (hC : MR I0 J tx tl ρ n σ rg nx na γ gn sl sf sd) (hO : OKS t tx tl ρ n σ rg nx na γ gn sl sf) (ht : t + 100 ≤ 1000) (hjr : jr < n) (hq8 : jq ≤ 8) (hrn : rn ≤ 9) (hx10 : xx ≤ 10) {Po : RT → Prop} {sm al c : Nat} (hc : c < 256) (hk : ∀ (I : IT) (i wt : Nat) (x14 : Option VV), i = jq → mW (I 177) 30 (clM ρ n (σ 4 7) rn σ c jq) → SCP I0 I → wt = wtM xx c jq → Wp none 158 Po 153 [some (vR 173), some (vI (nI jr)), some (vI (nI jq)), some (vI (nI rn)), some (vI (nI xx)), some (vI (b2 p)), some (vL (lN sm)), none, some (vL (lN al)), none, some (vI (nI c)), some (vL (lN wt)), none, some (vI (nI i)), x14] [] KK I J F) : ∀ (d i : Nat), i + d = jq → ∀ (I : IT) (wt : Nat) (x14 : Option VV), (mW (I 177) 30 (clM ρ n (σ 4 7) rn σ c i)) → (SCP I0 I) → (wt = wtM xx c i) → Wp none 158 Po 80 [some (vR 173), some (vI (nI jr)), some (vI (nI jq)), some (vI (nI rn)), some (vI (nI xx)), some (vI (b2 p)), some (vL (lN sm)), none, some (vL (lN al)), none, some (vI (nI c)), some (vL (lN wt)), none, some (vI (nI i)), x14] [] KK I J F := by
  intro d
  induction d with
  | zero =>
    intro i hid I wt x14 hT hsc hwt
    exact lkin_step hF hC hO ht hjr hq8 hrn hx10 hc hk i (by omega) I wt x14 hT hsc hwt (fun i' hlt => absurd hlt (by omega))
  | succ d ih =>
    intro i hid I wt x14 hT hsc hwt
    exact lkin_step hF hC hO ht hjr hq8 hrn hx10 hc hk i (by omega) I wt x14 hT hsc hwt (fun i' hlt he => ih i' (by omega))

set_option maxRecDepth 4000 in
theorem lkout_step {I0 : IT} {J : JT} {F : FT} {t jr jq rn xx : Nat} {tx : Nat → Nat} {tl : Nat} {ρ : SN} {n : Nat} {σ : SN} {rg : Nat → SN} {nx na : Nat} {γ : SN} {gn : Nat} {sl : Nat → SN} {sf : Nat → Bool} {sd : Int64} {p : Bool} (hF : Fok F) (hC : MR I0 J tx tl ρ n σ rg nx na γ gn sl sf sd) (hO : OKS t tx tl ρ n σ rg nx na γ gn sl sf) (ht : t + 100 ≤ 1000) (hjr : jr < n) (hq8 : jq ≤ 8) (hrn : rn ≤ 9) (hx10 : xx ≤ 10) (c : Nat) (hi0 : c ≤ 2 ^ jq) (I : IT) (sm : Nat) (al : Nat) (x11 : Option VV) (x12 : Option VV) (x13 : Option VV) (x14 : Option VV) (hsc : SCP I0 I) (hsm : sm = sumN (fun c => if enN ρ (clM ρ n (σ 4 7) rn σ c jq) jr then wtM xx c jq else 0) c) (hal : al = sumN (fun c => wtM xx c jq) c)
    (ih0 : ∀ i', c < 2 ^ jq → i' = c + 1 → ∀ (I : IT) (sm : Nat) (al : Nat) (x11 : Option VV) (x12 : Option VV) (x13 : Option VV) (x14 : Option VV), (SCP I0 I) → (sm = sumN (fun c => if enN ρ (clM ρ n (σ 4 7) rn σ c jq) jr then wtM xx c jq else 0) i') → (al = sumN (fun c => wtM xx c jq) i') → Wp none 158 (PNL (lkV (lkA ρ n σ jr jq rn xx) jq p, (tx, tl, ρ, n, σ, rg, nx, na, γ, gn, sl, sf, sd)) I0 J F) 62 [some (vR 173), some (vI (nI jr)), some (vI (nI jq)), some (vI (nI rn)), some (vI (nI xx)), some (vI (b2 p)), some (vL (lN sm)), none, some (vL (lN al)), none, some (vI (nI i')), x11, x12, x13, x14] [] KK I J F) : Wp none 158 (PNL (lkV (lkA ρ n σ jr jq rn xx) jq p, (tx, tl, ρ, n, σ, rg, nx, na, γ, gn, sl, sf, sd)) I0 J F) 62 [some (vR 173), some (vI (nI jr)), some (vI (nI jq)), some (vI (nI rn)), some (vI (nI xx)), some (vI (b2 p)), some (vL (lN sm)), none, some (vL (lN al)), none, some (vI (nI c)), x11, x12, x13, x14] [] KK I J F := by
  have hO0 := hO
  have hC0 := hC
  obtain ⟨hTx, hRo, hNo, hAc, hGa, hSl, hsd⟩ := hC
  obtain ⟨ht40, hx256, hρ, hok, hrg, hnx, hna, hgo, hsl, hz, hzr, hzs, hn6⟩ := hO
  have hd64 := hok.2.2.2.2.2
  have hgn6 := hGa.1
  have h28 : 2 ^ jq ≤ 2 ^ 8 := Nat.pow_le_pow_right (by decide) hq8
  have hNs : mW (I 177) 0 σ := hNo.1.s hsc.M
  refine wp_iload (pc := 62) d_158_62 rfl ?_
  refine wp_icN (pc := 64) (m := 1) d_158_64 (by decide) ?_
  refine wp_iload_n (pc := 65) (i := 2) d_158_65 rfl rfl ?_
  refine wp_ishl (pc := 66) d_158_66 ?_
  rw [shl_c (by omega) (by omega), Nat.one_mul]
  refine wp_icmpN_ge (pc := 67) (tgt := 187) d_158_67 (by decide) (by omega) (by omega) (fun zq67 => ?_) (fun zq67 => ?_)
  · have hcq : c = 2 ^ jq := by omega
    have hsm2 : sm = lkA ρ n σ jr jq rn xx := by rw [hsm, hcq, luck_eq hq8]
    have hal2 : al = 10 ^ jq := by rw [hal, hcq, wtAll hx10]
    have h108 : 10 ^ jq ≤ 10 ^ 8 := Nat.pow_le_pow_right (by decide) hq8
    have hA63 : sm < 2 ^ 63 := by rw [hsm2]; exact Nat.lt_of_le_of_lt (Nat.le_trans (luN_le hx10 hq8 (2 ^ jq) (Nat.le_refl _)) (Nat.mul_le_mul h28 h108)) (by decide)
    have hB63 : al < 2 ^ 63 := by rw [hal2]; exact Nat.lt_of_le_of_lt h108 (by decide)
    have hB0 : 0 < al := by rw [hal2]; exact Nat.pow_pos (by decide)
    refine wp_lload (pc := 187) d_158_187 rfl ?_
    refine wp_lload (pc := 189) d_158_189 rfl ?_
    refine wp_iload (pc := 191) d_158_191 rfl ?_
    refine wp_callS3p (pc := 193) d_158_193 lk_10_163 (by decide) rfl (Nat.le_of_ble_eq_true rfl) (m_part hA63 hB63 hB0) ?_
    exact wp_lret (pc := 196) d_158_196 rfl (PNL.q (by rw [hsm2, hal2]; rfl) (hC0.k hsc.M) hsc.M.O)
  · refine wp_lconst (pc := 70) (v := lN 1) d_158_70 (by decide) ?_
    refine wq_lstore (pc := 71) (L2 := [_, _, _, _, _, _, _, _, _, _, _, _, _, _, _]) d_158_71 (Nat.le_of_ble_eq_true rfl) rfl rfl ?_
    refine wp_aload_n (pc := 73) (i := 0) d_158_73 rfl rfl ?_
    refine wp_callV0v (pc := 74) d_158_74 lk_10_124 (by decide) rfl (Nat.le_of_ble_eq_true rfl) rfl rfl (m_copy hF) (fun Iq74 hq74 => ?_)
    refine wp_icN (pc := 77) (m := 0) d_158_77 (by decide) ?_
    refine wq_istore (pc := 78) (L2 := [_, _, _, _, _, _, _, _, _, _, _, _, _, _, _]) d_158_78 (Nat.le_of_ble_eq_true rfl) rfl rfl ?_
    refine lkin_loop (I0 := I0) hF hC0 hO0 ht hjr hq8 hrn hx10 (show c < 256 by omega) (fun I i wt x14 hiq hT hscz hwt => ?_) jq 0 (by omega) _ 1 _ (hNs.cp (fun q hq => by rw [Nat.zero_add]; exact hq74.1 q (by omega))) (hsc.tr ⟨fun k hk => hq74.2.1 k (Or.inl hk), fun a a1 _ _ => hq74.2.2 a a1⟩) rfl
    refine wp_lload (pc := 153) d_158_153 rfl ?_
    refine wp_lload (pc := 155) d_158_155 rfl ?_
    refine wr_laddM (pc := 157) d_158_157 ?_
    refine wq_lstore (pc := 158) (L2 := [_, _, _, _, _, _, _, _, _, _, _, _, _, _, _]) d_158_158 (Nat.le_of_ble_eq_true rfl) rfl rfl ?_
    refine wp_lload (pc := 160) d_158_160 rfl ?_
    refine wp_aload_n (pc := 162) (i := 0) d_158_162 rfl rfl ?_
    refine wp_bpN (pc := 163) (m := 30) d_158_163 (by decide) ?_
    refine wp_iload_n (pc := 165) (i := 1) d_158_165 rfl rfl ?_
    refine wp_callV2p (pc := 166) d_158_166 lk_10_105 (by decide) rfl (Nat.le_of_ble_eq_true rfl) rfl rfl (m_hasEnough hF (hRo.s hscz.M) hT (Nat.le_refl 30) hjr hρ ((clM_ok hn6 hrn hρ hok jq).g (by omega) jr (by omega))) ?_
    refine wp_ifB_eq (pc := 169) (tgt := 177) d_158_169 (by decide) (fun zq169 => ?_) (fun zq169 => ?_)
    · refine wp_lconst (pc := 177) (v := lN 0) d_158_177 (by decide) ?_
      refine wr_laddM (pc := 178) d_158_178 ?_
      refine wq_lstore (pc := 179) (L2 := [_, _, _, _, _, _, _, _, _, _, _, _, _, _, _]) d_158_179 (Nat.le_of_ble_eq_true rfl) rfl rfl ?_
      refine wq_iincN (pc := 181) (L2 := [_, _, _, _, _, _, _, _, _, _, _, _, _, _, _]) d_158_181 rfl (b := 1) (by decide) rfl rfl ?_
      refine wp_goto (pc := 184) (tgt := 62) d_158_184 (by decide) ?_
      refine ih0 (c + 1) zq67 rfl _ _ _ _ _ _ _ hscz ?_ (by rw [hal, hwt]; rfl)
      rw [hsm]
      show _ = sumN (fun c => if enN ρ (clM ρ n (σ 4 7) rn σ c jq) jr then wtM xx c jq else 0) c + (if enN ρ (clM ρ n (σ 4 7) rn σ c jq) jr then wtM xx c jq else 0)
      rw [show enN ρ (clM ρ n (σ 4 7) rn σ c jq) jr = false from zq169]
      rfl
    · refine wp_lload (pc := 172) d_158_172 rfl ?_
      refine wp_goto (pc := 174) (tgt := 178) d_158_174 (by decide) ?_
      refine wr_laddM (pc := 178) d_158_178 ?_
      refine wq_lstore (pc := 179) (L2 := [_, _, _, _, _, _, _, _, _, _, _, _, _, _, _]) d_158_179 (Nat.le_of_ble_eq_true rfl) rfl rfl ?_
      refine wq_iincN (pc := 181) (L2 := [_, _, _, _, _, _, _, _, _, _, _, _, _, _, _]) d_158_181 rfl (b := 1) (by decide) rfl rfl ?_
      refine wp_goto (pc := 184) (tgt := 62) d_158_184 (by decide) ?_
      refine ih0 (c + 1) zq67 rfl _ _ _ _ _ _ _ hscz ?_ (by rw [hal, hwt]; rfl)
      rw [hsm]
      show _ = sumN (fun c => if enN ρ (clM ρ n (σ 4 7) rn σ c jq) jr then wtM xx c jq else 0) c + (if enN ρ (clM ρ n (σ 4 7) rn σ c jq) jr then wtM xx c jq else 0)
      rw [show enN ρ (clM ρ n (σ 4 7) rn σ c jq) jr = true from zq169]
      rw [hwt]; rfl
theorem lkout_loop {I0 : IT} {J : JT} {F : FT} {t jr jq rn xx : Nat} {tx : Nat → Nat} {tl : Nat} {ρ : SN} {n : Nat} {σ : SN} {rg : Nat → SN} {nx na : Nat} {γ : SN} {gn : Nat} {sl : Nat → SN} {sf : Nat → Bool} {sd : Int64} {p : Bool} (hF : Fok F) (hC : MR I0 J tx tl ρ n σ rg nx na γ gn sl sf sd) (hO : OKS t tx tl ρ n σ rg nx na γ gn sl sf) (ht : t + 100 ≤ 1000) (hjr : jr < n) (hq8 : jq ≤ 8) (hrn : rn ≤ 9) (hx10 : xx ≤ 10) : ∀ (d i : Nat), i + d = 2 ^ jq → ∀ (I : IT) (sm : Nat) (al : Nat) (x11 : Option VV) (x12 : Option VV) (x13 : Option VV) (x14 : Option VV), (SCP I0 I) → (sm = sumN (fun c => if enN ρ (clM ρ n (σ 4 7) rn σ c jq) jr then wtM xx c jq else 0) i) → (al = sumN (fun c => wtM xx c jq) i) → Wp none 158 (PNL (lkV (lkA ρ n σ jr jq rn xx) jq p, (tx, tl, ρ, n, σ, rg, nx, na, γ, gn, sl, sf, sd)) I0 J F) 62 [some (vR 173), some (vI (nI jr)), some (vI (nI jq)), some (vI (nI rn)), some (vI (nI xx)), some (vI (b2 p)), some (vL (lN sm)), none, some (vL (lN al)), none, some (vI (nI i)), x11, x12, x13, x14] [] KK I J F := by
  intro d
  induction d with
  | zero =>
    intro i hid I sm al x11 x12 x13 x14 hsc hsm hal
    exact lkout_step hF hC hO ht hjr hq8 hrn hx10 i (by omega) I sm al x11 x12 x13 x14 hsc hsm hal (fun i' hlt => absurd hlt (by omega))
  | succ d ih =>
    intro i hid I sm al x11 x12 x13 x14 hsc hsm hal
    exact lkout_step hF hC hO ht hjr hq8 hrn hx10 i (by omega) I sm al x11 x12 x13 x14 hsc hsm hal (fun i' hlt he => ih i' (by omega))

set_option maxRecDepth 4000 in
theorem m_gluck {I : IT} {J : JT} {F : FT} {t : Nat} {tx : Nat → Nat} {tl : Nat} {ρ : SN} {n : Nat} {σ : SN} {rg : Nat → SN} {nx na : Nat} {γ : SN} {gn : Nat} {sl : Nat → SN} {sf : Nat → Bool} {sd : Int64} (hF : Fok F) (hC : MR I J tx tl ρ n σ rg nx na γ gn sl sf sd) (hO : OKS t tx tl ρ n σ rg nx na γ gn sl sf) (ht : t + 100 ≤ 1000) {x y r z : Int32} {p : Bool} : Sp 158 [vR 173, vI x, vI y, vI r, vI z, vI (b2 p)] KK I J F (PNL (a_luck ρ n σ x y r z p, (tx, tl, ρ, n, σ, rg, nx, na, γ, gn, sl, sf, sd)) I J F) := by
  have hC0 := hC
  have hO0 := hO
  obtain ⟨hTx, hRo, hNo, hAc, hGa, hSl, hsd⟩ := hC
  obtain ⟨ht40, hx256, hρ, hok, hrg, hnx, hna, hgo, hsl, hz, hzr, hzs, hn6⟩ := hO
  have hd64 := hok.2.2.2.2.2
  have hgn6 := hGa.1
  refine Sp.mk2 (Nat.le_of_ble_eq_true rfl) (L2 := [_, _, _, _, _, _, _, _, _, _, _, _, _, _, _]) rfl ?_
  refine wp_aload_n (pc := 0) (i := 0) d_158_0 rfl rfl ?_
  refine wp_iload_n (pc := 1) (i := 1) d_158_1 rfl rfl ?_
  refine wp_callV1p (pc := 2) d_158_2 lk_10_99 (by decide) rfl (Nat.le_of_ble_eq_true rfl) rfl rfl (m_isRoof hF hRo x) ?_
  refine wp_ifB_ne (pc := 5) (tgt := 12) d_158_5 (by decide) (fun zq5 => ?_) (fun zq5 => ?_)
  · obtain ⟨jr, hjr, hxjr⟩ := inR_t zq5 (by omega)
    subst hxjr
    have hcjr : (nI jr).toNatClampNeg = jr := nI_clamp (by omega)
    refine wp_iload_n (pc := 12) (i := 2) d_158_12 rfl rfl ?_
    refine wp_i2l (pc := 13) d_158_13 ?_
    refine wp_lconst (pc := 14) (v := lN 0) d_158_14 (by decide) ?_
    refine wr_ldc2M (pc := 15) (m := 8) d_158_15 cs_10_57 (by decide) ?_
    refine wp_callS3p (pc := 18) d_158_18 lk_10_59 (by decide) rfl (Nat.le_of_ble_eq_true rfl) (c_inN y 0 8 (by decide) (by decide)) ?_
    refine wp_ifB_eq (pc := 21) (tgt := 49) d_158_21 (by decide) (fun zq21 => ?_) (fun zq21 => ?_)
    · refine wp_ldc2 (pc := 49) d_158_49 cs_10_161 ?_
      exact wp_lret (pc := 52) d_158_52 rfl (PNL.q (by unfold a_luck; rw [if_pos zq5, if_neg (nT zq21)]) hC0 ⟨fun _ _ => rfl, rfl⟩)
    · obtain ⟨jq, h0jq, h1jq, hxjq⟩ := inB_t zq21 (by decide) (by decide)
      subst hxjq
      have hcjq : (nI jq).toNatClampNeg = jq := nI_clamp (by omega)
      refine wp_iload_n (pc := 24) (i := 3) d_158_24 rfl rfl ?_
      refine wp_i2l (pc := 25) d_158_25 ?_
      refine wp_lconst (pc := 26) (v := lN 0) d_158_26 (by decide) ?_
      refine wr_ldc2M (pc := 27) (m := 9) d_158_27 cs_10_74 (by decide) ?_
      refine wp_callS3p (pc := 30) d_158_30 lk_10_59 (by decide) rfl (Nat.le_of_ble_eq_true rfl) (c_inN r 0 9 (by decide) (by decide)) ?_
      refine wp_ifB_eq (pc := 33) (tgt := 49) d_158_33 (by decide) (fun zq33 => ?_) (fun zq33 => ?_)
      · refine wp_ldc2 (pc := 49) d_158_49 cs_10_161 ?_
        exact wp_lret (pc := 52) d_158_52 rfl (PNL.q (by unfold a_luck; rw [if_pos zq5, if_pos zq21, if_neg (nT zq33)]) hC0 ⟨fun _ _ => rfl, rfl⟩)
      · obtain ⟨rn, h0rn, h1rn, hxrn⟩ := inB_t zq33 (by decide) (by decide)
        subst hxrn
        have hcrn : (nI rn).toNatClampNeg = rn := nI_clamp (by omega)
        refine wp_iload (pc := 36) d_158_36 rfl ?_
        refine wp_i2l (pc := 38) d_158_38 ?_
        refine wp_lconst (pc := 39) (v := lN 0) d_158_39 (by decide) ?_
        refine wr_ldc2M (pc := 40) (m := 10) d_158_40 cs_10_159 (by decide) ?_
        refine wp_callS3p (pc := 43) d_158_43 lk_10_59 (by decide) rfl (Nat.le_of_ble_eq_true rfl) (c_inN z 0 10 (by decide) (by decide)) ?_
        refine wp_ifB_ne (pc := 46) (tgt := 53) d_158_46 (by decide) (fun zq46 => ?_) (fun zq46 => ?_)
        · obtain ⟨xx, h0xx, h1xx, hxxx⟩ := inB_t zq46 (by decide) (by decide)
          subst hxxx
          have hcxx : (nI xx).toNatClampNeg = xx := nI_clamp (by omega)
          refine wp_lconst (pc := 53) (v := lN 0) d_158_53 (by decide) ?_
          refine wq_lstore (pc := 54) (L2 := [_, _, _, _, _, _, _, _, _, _, _, _, _, _, _]) d_158_54 (Nat.le_of_ble_eq_true rfl) rfl rfl ?_
          refine wp_lconst (pc := 56) (v := lN 0) d_158_56 (by decide) ?_
          refine wq_lstore (pc := 57) (L2 := [_, _, _, _, _, _, _, _, _, _, _, _, _, _, _]) d_158_57 (Nat.le_of_ble_eq_true rfl) rfl rfl ?_
          refine wp_icN (pc := 59) (m := 0) d_158_59 (by decide) ?_
          refine wq_istore (pc := 60) (L2 := [_, _, _, _, _, _, _, _, _, _, _, _, _, _, _]) d_158_60 (Nat.le_of_ble_eq_true rfl) rfl rfl ?_
          have hlv : a_luck ρ n σ (nI jr) (nI jq) (nI rn) (nI xx) p = lkV (lkA ρ n σ jr jq rn xx) jq p := by unfold a_luck; rw [if_pos zq5, if_pos zq21, if_pos zq33, if_pos zq46, hcjr, hcjq, hcrn, hcxx]
          rw [hlv]
          exact lkout_loop hF hC0 hO0 ht hjr h1jq h1rn h1xx (2 ^ jq) 0 (by omega) I 0 0 _ _ _ _ ⟨fun _ _ => rfl, fun _ _ _ _ => rfl⟩ rfl rfl
        · refine wp_ldc2 (pc := 49) d_158_49 cs_10_161 ?_
          exact wp_lret (pc := 52) d_158_52 rfl (PNL.q (by unfold a_luck; rw [if_pos zq5, if_pos zq21, if_pos zq33, if_neg (nT zq46)]) hC0 ⟨fun _ _ => rfl, rfl⟩)
  · refine wp_ldc2 (pc := 8) d_158_8 cs_10_157 ?_
    exact wp_lret (pc := 11) d_158_11 rfl (PNL.q (by unfold a_luck; rw [if_neg (nT zq5)]) hC0 ⟨fun _ _ => rfl, rfl⟩)
