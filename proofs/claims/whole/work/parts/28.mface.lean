set_option maxRecDepth 4000 in
theorem m_gwipe {I : IT} {J : JT} {F : FT} {t : Nat} {tx : Nat → Nat} {tl : Nat} {ρ : SN} {n : Nat} {σ : SN} {rg : Nat → SN} {nx na : Nat} {γ : SN} {gn : Nat} {sl : Nat → SN} {sf : Nat → Bool} {sd : Int64} (hF : Fok F) (hC : MR I J tx tl ρ n σ rg nx na γ gn sl sf sd) (hO : OKS t tx tl ρ n σ rg nx na γ gn sl sf) (ht : t + 100 ≤ 1000) : Sp 123 [vR 173] KK I J F (PN (q_wipe tx tl ρ n σ rg nx na γ gn sl sf sd) I J F) := by
  have hC0 := hC
  obtain ⟨hTx, hRo, hNo, hAc, hGa, hSl, hsd⟩ := hC
  obtain ⟨ht40, hx256, hρ, hok, hrg, hnx, hna, hgo, hsl, hz, hzr, hzs, hn6⟩ := hO
  have hd64 := hok.2.2.2.2.2
  have hgn6 := hGa.1
  refine Sp.mk2 (Nat.le_of_ble_eq_true rfl) (L2 := [_, _]) rfl ?_
  refine wp_aload_n (pc := 0) (i := 0) d_123_0 rfl rfl ?_
  refine wp_gI (pc := 1) d_123_1 fl_10_63 rfl ft_9_9 hTx.1 ?_
  refine wq_istore_n (pc := 4) (L2 := [_, _]) (i := 1) d_123_4 rfl (Nat.le_of_ble_eq_true rfl) rfl rfl ?_
  refine wp_aload_n (pc := 5) (i := 0) d_123_5 rfl rfl ?_
  refine wp_icN (pc := 6) (m := 0) d_123_6 (by decide) ?_
  refine wp_pI (pc := 7) d_123_7 fl_10_63 rfl ft_9_9 rfl (fun Iq7 uq7 => ?_)
  refine wp_iload_n (pc := 10) (i := 1) d_123_10 rfl rfl ?_
  exact wp_iret (pc := 11) d_123_11 (Or.inl rfl) (PN.mk (by unfold q_wipe; rfl) ⟨⟨uq7.at, fun j hj => absurd hj (Nat.not_lt_zero j)⟩, hRo.k (uq7.ne (by decide)) (uq7.2 176 (by decide)), ⟨by rw [uq7.2 177 (by decide)]; exact hNo.1, (uq7.ne (by decide)).trans hNo.2.1, (uq7.ne (by decide)).trans hNo.2.2⟩, ⟨(uq7.ne (by decide)).trans hAc.1, (uq7.ne (by decide)).trans hAc.2.1, by rw [uq7.2 179 (by decide)]; exact hAc.2.2⟩, ⟨hGa.1, (uq7.ne (by decide)).trans hGa.2.1, by rw [uq7.2 183 (by decide), uq7.2 184 (by decide), uq7.2 185 (by decide)]; exact hGa.2.2⟩, ⟨by rw [uq7.2 187 (by decide)]; exact hSl.1, by rw [uq7.2 186 (by decide)]; exact hSl.2⟩, hsd⟩ ⟨fun a ha => uq7.2 a (by omega), rfl⟩)
set_option maxRecDepth 4000 in
theorem m_gseed {I : IT} {J : JT} {F : FT} {t : Nat} {tx : Nat → Nat} {tl : Nat} {ρ : SN} {n : Nat} {σ : SN} {rg : Nat → SN} {nx na : Nat} {γ : SN} {gn : Nat} {sl : Nat → SN} {sf : Nat → Bool} {sd : Int64} (hF : Fok F) (hC : MR I J tx tl ρ n σ rg nx na γ gn sl sf sd) (hO : OKS t tx tl ρ n σ rg nx na γ gn sl sf) (ht : t + 100 ≤ 1000) {v : Int64} : Sp 160 [vR 173, vL v] KK I J F (PNL (q_seed tx tl ρ n σ rg nx na γ gn sl sf sd v) I J F) := by
  have hC0 := hC
  obtain ⟨hTx, hRo, hNo, hAc, hGa, hSl, hsd⟩ := hC
  obtain ⟨ht40, hx256, hρ, hok, hrg, hnx, hna, hgo, hsl, hz, hzr, hzs, hn6⟩ := hO
  have hd64 := hok.2.2.2.2.2
  have hgn6 := hGa.1
  refine Sp.mk2 (Nat.le_of_ble_eq_true rfl) (L2 := [_, _, _, _, _]) rfl ?_
  refine wp_aload_n (pc := 0) (i := 0) d_160_0 rfl rfl ?_
  refine wp_gL (pc := 1) d_160_1 fl_10_167 rfl ft_9_23 hsd ?_
  refine wq_lstore_n (pc := 4) (L2 := [_, _, _, _, _]) (i := 3) d_160_4 rfl (Nat.le_of_ble_eq_true rfl) rfl rfl ?_
  refine wp_aload_n (pc := 5) (i := 0) d_160_5 rfl rfl ?_
  refine wp_lload_n (pc := 6) (i := 1) d_160_6 rfl rfl ?_
  refine wr_pJ (pc := 7) d_160_7 fl_10_167 rfl ft_9_23 rfl (fun Jq7 vq7 jq7 => ?_)
  refine wp_lload_n (pc := 10) (i := 3) d_160_10 rfl rfl ?_
  exact wp_lret (pc := 11) d_160_11 rfl (PNL.mk rfl ⟨hTx, hRo, hNo, hAc, hGa, hSl, vq7⟩ ⟨fun _ _ => rfl, jq7 1 (by decide)⟩)
theorem mW0 {v : Nat → Int32} {σ : SN} (h : mW v 0 σ) {k j : Nat} (hk : k < 4) (hj : j < 6) : v (6 * k + j) = nI (σ k j) := by
  have h9 := h.1 k hk j hj
  rw [Nat.zero_add] at h9
  exact h9
theorem mW00 {v : Nat → Int32} {σ : SN} (h : mW v 0 σ) {j : Nat} (hj : j < 6) : v j = nI (σ 0 j) := by
  have h9 := mW0 h (show 0 < 4 by decide) hj
  rw [Nat.mul_zero, Nat.zero_add] at h9
  exact h9
theorem rfT_03 {ρ σ : SN} {j w : Nat} (h : w ≤ 3) : rfT ρ σ j w = nI (σ w j) := by
  rcases lt4 (show w < 4 by omega) with rfl | rfl | rfl | rfl <;> rfl
theorem rfT_69 {ρ σ : SN} {j w : Nat} (h : 6 ≤ w) (h2 : w ≤ 9) : rfT ρ σ j w = nI (ρ (w - 6) j) := by
  have : w = 6 ∨ w = 7 ∨ w = 8 ∨ w = 9 := by omega
  rcases this with rfl | rfl | rfl | rfl <;> rfl
theorem tbv {d j : Nat} : b2 (d.testBit j) = nI (d / 2 ^ j % 2) := by
  rw [Nat.testBit_eq_decide_div_mod_eq]
  have : d / 2 ^ j % 2 = 0 ∨ d / 2 ^ j % 2 = 1 := by omega
  rcases this with h | h
  · rw [h]; rfl
  · rw [h]; rfl
set_option maxRecDepth 4000 in
theorem m_groof {I : IT} {J : JT} {F : FT} {t : Nat} {tx : Nat → Nat} {tl : Nat} {ρ : SN} {n : Nat} {σ : SN} {rg : Nat → SN} {nx na : Nat} {γ : SN} {gn : Nat} {sl : Nat → SN} {sf : Nat → Bool} {sd : Int64} (hF : Fok F) (hC : MR I J tx tl ρ n σ rg nx na γ gn sl sf sd) (hO : OKS t tx tl ρ n σ rg nx na γ gn sl sf) (ht : t + 100 ≤ 1000) {x y : Int32} : Sp 129 [vR 173, vI x, vI y] KK I J F (PN (a_roof ρ n σ x y, (tx, tl, ρ, n, σ, rg, nx, na, γ, gn, sl, sf, sd)) I J F) := by
  have hC0 := hC
  obtain ⟨hTx, hRo, hNo, hAc, hGa, hSl, hsd⟩ := hC
  obtain ⟨ht40, hx256, hρ, hok, hrg, hnx, hna, hgo, hsl, hz, hzr, hzs, hn6⟩ := hO
  have hd64 := hok.2.2.2.2.2
  have hgn6 := hGa.1
  refine Sp.mk2 (Nat.le_of_ble_eq_true rfl) (L2 := [_, _, _]) rfl ?_
  refine wp_aload_n (pc := 0) (i := 0) d_129_0 rfl rfl ?_
  refine wp_iload_n (pc := 1) (i := 1) d_129_1 rfl rfl ?_
  refine wp_callV1p (pc := 2) d_129_2 lk_10_99 (by decide) rfl (Nat.le_of_ble_eq_true rfl) rfl rfl (m_isRoof hF hRo x) ?_
  refine wp_ifB_ne (pc := 5) (tgt := 10) d_129_5 (by decide) (fun zq5 => ?_) (fun zq5 => ?_)
  · obtain ⟨jr, hjr, hxjr⟩ := inR_t zq5 (by omega)
    subst hxjr
    have hcjr : (nI jr).toNatClampNeg = jr := nI_clamp (by omega)
    refine wp_iload_n (pc := 10) (i := 2) d_129_10 rfl rfl ?_
    refine wp_i2l (pc := 11) d_129_11 ?_
    refine wp_lconst (pc := 12) (v := lN 0) d_129_12 (by decide) ?_
    refine wr_ldc2M (pc := 13) (m := 3) d_129_13 cs_10_103 (by decide) ?_
    refine wp_callS3p (pc := 16) d_129_16 lk_10_59 (by decide) rfl (Nat.le_of_ble_eq_true rfl) (c_inN y 0 3 (by decide) (by decide)) ?_
    refine wp_ifB_eq (pc := 19) (tgt := 34) d_129_19 (by decide) (fun zq19 => ?_) (fun zq19 => ?_)
    · refine wp_iload_n (pc := 34) (i := 2) d_129_34 rfl rfl ?_
      refine wp_icN (pc := 35) (m := 4) d_129_35 (by decide) ?_
      refine wp_icmp_ne (pc := 36) (tgt := 54) d_129_36 (by decide) (fun zq36 => ?_) (fun zq36 => ?_)
      · refine wp_iload_n (pc := 54) (i := 2) d_129_54 rfl rfl ?_
        refine wp_icN (pc := 55) (m := 5) d_129_55 (by decide) ?_
        refine wp_icmp_ne (pc := 56) (tgt := 70) d_129_56 (by decide) (fun zq56 => ?_) (fun zq56 => ?_)
        · refine wp_iload_n (pc := 70) (i := 2) d_129_70 rfl rfl ?_
          refine wp_i2l (pc := 71) d_129_71 ?_
          refine wr_ldc2M (pc := 72) (m := 6) d_129_72 cs_10_109 (by decide) ?_
          refine wr_ldc2M (pc := 75) (m := 9) d_129_75 cs_10_74 (by decide) ?_
          refine wp_callS3p (pc := 78) d_129_78 lk_10_59 (by decide) rfl (Nat.le_of_ble_eq_true rfl) (c_inN y 6 9 (by decide) (by decide)) ?_
          refine wp_ifB_eq (pc := 81) (tgt := 100) d_129_81 (by decide) (fun zq81 => ?_) (fun zq81 => ?_)
          · refine wp_bipush (pc := 100) (v := (-2)) d_129_100 (by decide) ?_
            have hz10 : ¬ inR y 10 = true := by
              intro h
              obtain ⟨jw, hjw, hxw⟩ := inR_t h (by decide)
              subst hxw
              rcases lt10 hjw with rfl | rfl | rfl | rfl | rfl | rfl | rfl | rfl | rfl | rfl
              · exact absurd zq19 (by decide)
              · exact absurd zq19 (by decide)
              · exact absurd zq19 (by decide)
              · exact absurd zq19 (by decide)
              · exact absurd rfl zq36
              · exact absurd rfl zq56
              · exact absurd zq81 (by decide)
              · exact absurd zq81 (by decide)
              · exact absurd zq81 (by decide)
              · exact absurd zq81 (by decide)
            exact wp_iret (pc := 102) d_129_102 (Or.inl rfl) (PN.q (by unfold a_roof; rw [if_pos zq5, if_neg hz10]) hC0 ⟨fun _ _ => rfl, rfl⟩)
          · obtain ⟨jw, h0jw, h1jw, hxjw⟩ := inB_t zq81 (by decide) (by decide)
            subst hxjw
            have hcjw : (nI jw).toNatClampNeg = jw := nI_clamp (by omega)
            refine wp_aload_n (pc := 84) (i := 0) d_129_84 rfl rfl ?_
            refine wp_gA (pc := 85) d_129_85 fl_10_16 rfl ft_9_3 (F_173_3 hF) ?_
            refine wp_icN (pc := 88) (m := 4) d_129_88 (by decide) ?_
            refine wp_iload_n (pc := 89) (i := 1) d_129_89 rfl rfl ?_
            refine wp_imulN (pc := 90) d_129_90 ?_
            refine wp_iload_n (pc := 91) (i := 2) d_129_91 rfl rfl ?_
            refine wp_iaddN (pc := 92) d_129_92 ?_
            refine wp_bpN (pc := 93) (m := 6) d_129_93 (by decide) ?_
            refine wp_isubN (pc := 95) d_129_95 (by omega) ?_
            refine wp_aL (pc := 96) (j := (((4 * jr) + jw) - 6)) d_129_96 rfl rfl (by omega) (by decide) ((congrArg (I 176) (show 4 * jr + jw - 6 = 4 * jr + (jw - 6) by omega)).trans (hRo.2.2 (jw - 6) (by omega) jr hjr)) ?_
            refine wp_goto (pc := 97) (tgt := 102) d_129_97 (by decide) ?_
            exact wp_iret (pc := 102) d_129_102 (Or.inl rfl) (PN.q (by unfold a_roof; rw [if_pos zq5, if_pos (show inR (nI jw) 10 = true by rw [inR_nI (by omega)]; exact decide_eq_true (by omega)), hcjr, hcjw, rfT_69 h0jw h1jw]) hC0 ⟨fun _ _ => rfl, rfl⟩)
        · refine wp_aload_n (pc := 59) (i := 0) d_129_59 rfl rfl ?_
          refine wp_gI (pc := 60) d_129_60 fl_10_90 rfl ft_9_6 hNo.2.2 ?_
          refine wp_iload_n (pc := 63) (i := 1) d_129_63 rfl rfl ?_
          refine wp_ishr (pc := 64) d_129_64 ?_
          refine wp_icN (pc := 65) (m := 1) d_129_65 (by decide) ?_
          refine wp_iand (pc := 66) d_129_66 ?_
          rw [bit1_c hd64 (by omega)]
          refine wp_goto (pc := 67) (tgt := 102) d_129_67 (by decide) ?_
          exact wp_iret (pc := 102) d_129_102 (Or.inl rfl) (PN.q (by unfold a_roof; rw [if_pos zq5, zq56, if_pos (show inR (nI 5) 10 = true by decide), hcjr]; exact tbv) hC0 ⟨fun _ _ => rfl, rfl⟩)
      · refine wp_aload_n (pc := 39) (i := 0) d_129_39 rfl rfl ?_
        refine wp_icN (pc := 40) (m := 0) d_129_40 (by decide) ?_
        refine wp_iload_n (pc := 41) (i := 1) d_129_41 rfl rfl ?_
        refine wp_callV2p (pc := 42) d_129_42 lk_10_105 (by decide) rfl (Nat.le_of_ble_eq_true rfl) rfl rfl (m_hasEnough hF hRo (f := 0) hNo.1 (by decide) hjr hρ (hok.g (by omega) jr (by omega))) ?_
        refine wp_ifB_eq (pc := 45) (tgt := 52) d_129_45 (by decide) (fun zq45 => ?_) (fun zq45 => ?_)
        · refine wp_icN (pc := 52) (m := 0) d_129_52 (by decide) ?_
          exact wp_iret (pc := 53) d_129_53 (Or.inl rfl) (PN.q (by unfold a_roof; rw [if_pos zq5, zq36, if_pos (show inR (nI 4) 10 = true by decide), hcjr]; show b2 (enN ρ σ jr) = _; rw [show enN ρ σ jr = false from zq45]; rfl) hC0 ⟨fun _ _ => rfl, rfl⟩)
        · refine wp_icN (pc := 48) (m := 1) d_129_48 (by decide) ?_
          refine wp_goto (pc := 49) (tgt := 53) d_129_49 (by decide) ?_
          exact wp_iret (pc := 53) d_129_53 (Or.inl rfl) (PN.q (by unfold a_roof; rw [if_pos zq5, zq36, if_pos (show inR (nI 4) 10 = true by decide), hcjr]; show b2 (enN ρ σ jr) = _; rw [show enN ρ σ jr = true from zq45]; rfl) hC0 ⟨fun _ _ => rfl, rfl⟩)
    · obtain ⟨jw, h0jw, h1jw, hxjw⟩ := inB_t zq19 (by decide) (by decide)
      subst hxjw
      have hcjw : (nI jw).toNatClampNeg = jw := nI_clamp (by omega)
      refine wp_aload_n (pc := 22) (i := 0) d_129_22 rfl rfl ?_
      refine wp_gA (pc := 23) d_129_23 fl_10_19 rfl ft_9_4 (F_173_4 hF) ?_
      refine wp_bpN (pc := 26) (m := 6) d_129_26 (by decide) ?_
      refine wp_iload_n (pc := 28) (i := 2) d_129_28 rfl rfl ?_
      refine wp_imulN (pc := 29) d_129_29 ?_
      refine wp_iload_n (pc := 30) (i := 1) d_129_30 rfl rfl ?_
      refine wp_iaddN (pc := 31) d_129_31 ?_
      refine wp_aL (pc := 32) (j := ((6 * jw) + jr)) d_129_32 rfl rfl (by omega) (by decide) (mW0 hNo.1 (show jw < 4 by omega) (show jr < 6 by omega)) ?_
      exact wp_iret (pc := 33) d_129_33 (Or.inl rfl) (PN.q (by unfold a_roof; rw [if_pos zq5, if_pos (show inR (nI jw) 10 = true by rw [inR_nI (by omega)]; exact decide_eq_true (by omega)), hcjr, hcjw, rfT_03 h1jw]) hC0 ⟨fun _ _ => rfl, rfl⟩)
  · refine wp_iconst (pc := 8) (v := (-1)) d_129_8 (by decide) ?_
    exact wp_iret (pc := 9) d_129_9 (Or.inl rfl) (PN.q (by unfold a_roof; rw [if_neg (nT zq5)]) hC0 ⟨fun _ _ => rfl, rfl⟩)
theorem mNo_dams {I I2 : IT} {σ : SN} {v : Nat} (h : mNo I σ) (h7 : I2 177 = I 177) (hq : I2 173 7 = I 173 7) (h6 : I2 173 6 = nI v) : mNo I2 (s2 σ 4 7 v) := by
  refine ⟨?_, ?_, ?_⟩
  · rw [h7]
    exact h.1.cong (fun k hk j hj => by rw [s2_nk (by omega)]) (by rw [s2_nj (by decide)]) (by rw [s2_nj (by decide)])
  · rw [hq, s2_nj (by decide)]; exact h.2.1
  · rw [s2_eq]; exact h6
def dOr (d j : Nat) : Nat := if d.testBit j = true then d else d ^^^ 2 ^ j
def dAn (d j : Nat) : Nat := if d.testBit j = true then d ^^^ 2 ^ j else d
theorem dOr_c : ∀ d, d < 64 → ∀ j, j < 6 → nI d ||| nI (2 ^ j) = nI (dOr d j) := by decide +kernel
theorem dAn_c : ∀ d, d < 64 → ∀ j, j < 6 → nI d &&& (nI (2 ^ j) ^^^ (-1)) = nI (dAn d j) := by decide +kernel
theorem dOr_lt : ∀ d, d < 64 → ∀ j, j < 6 → dOr d j < 64 ∧ dAn d j < 64 ∧ d ^^^ 2 ^ j ≠ d := by decide +kernel
set_option maxRecDepth 4000 in
theorem m_gdam {I : IT} {J : JT} {F : FT} {t : Nat} {tx : Nat → Nat} {tl : Nat} {ρ : SN} {n : Nat} {σ : SN} {rg : Nat → SN} {nx na : Nat} {γ : SN} {gn : Nat} {sl : Nat → SN} {sf : Nat → Bool} {sd : Int64} (hF : Fok F) (hC : MR I J tx tl ρ n σ rg nx na γ gn sl sf sd) (hO : OKS t tx tl ρ n σ rg nx na γ gn sl sf) (ht : t + 100 ≤ 1000) {x : Int32} {p : Bool} : Sp 132 [vR 173, vI x, vI (b2 p)] KK I J F (PN (q_dam tx tl ρ n σ rg nx na γ gn sl sf sd x p) I J F) := by
  have hC0 := hC
  obtain ⟨hTx, hRo, hNo, hAc, hGa, hSl, hsd⟩ := hC
  obtain ⟨ht40, hx256, hρ, hok, hrg, hnx, hna, hgo, hsl, hz, hzr, hzs, hn6⟩ := hO
  have hd64 := hok.2.2.2.2.2
  have hgn6 := hGa.1
  refine Sp.mk2 (Nat.le_of_ble_eq_true rfl) (L2 := [_, _, _, _]) rfl ?_
  refine wp_aload_n (pc := 0) (i := 0) d_132_0 rfl rfl ?_
  refine wp_iload_n (pc := 1) (i := 1) d_132_1 rfl rfl ?_
  refine wp_callV1p (pc := 2) d_132_2 lk_10_99 (by decide) rfl (Nat.le_of_ble_eq_true rfl) rfl rfl (m_isRoof hF hRo x) ?_
  refine wp_ifB_ne (pc := 5) (tgt := 10) d_132_5 (by decide) (fun zq5 => ?_) (fun zq5 => ?_)
  · obtain ⟨jr, hjr, hxjr⟩ := inR_t zq5 (by omega)
    subst hxjr
    have hcjr : (nI jr).toNatClampNeg = jr := nI_clamp (by omega)
    refine wp_aload_n (pc := 10) (i := 0) d_132_10 rfl rfl ?_
    refine wp_gI (pc := 11) d_132_11 fl_10_90 rfl ft_9_6 hNo.2.2 ?_
    refine wq_istore_n (pc := 14) (L2 := [_, _, _, _]) (i := 3) d_132_14 rfl (Nat.le_of_ble_eq_true rfl) rfl rfl ?_
    refine wp_aload_n (pc := 15) (i := 0) d_132_15 rfl rfl ?_
    refine wp_iload_n (pc := 16) (i := 2) d_132_16 rfl rfl ?_
    refine wp_ifB_eq (pc := 17) (tgt := 31) d_132_17 (by decide) (fun zq17 => ?_) (fun zq17 => ?_)
    · refine wp_aload_n (pc := 31) (i := 0) d_132_31 rfl rfl ?_
      refine wp_gI (pc := 32) d_132_32 fl_10_90 rfl ft_9_6 hNo.2.2 ?_
      refine wp_icN (pc := 35) (m := 1) d_132_35 (by decide) ?_
      refine wp_iload_n (pc := 36) (i := 1) d_132_36 rfl rfl ?_
      refine wp_ishl (pc := 37) d_132_37 ?_
      rw [bit_c jr (by omega)]
      refine wp_iconst (pc := 38) (v := (-1)) d_132_38 (by decide) ?_
      refine wp_ixor (pc := 39) d_132_39 ?_
      refine wp_iand (pc := 40) d_132_40 ?_
      rw [dAn_c _ hd64 _ (by omega)]
      refine wp_pI (pc := 41) d_132_41 fl_10_90 rfl ft_9_6 rfl (fun Iq41 uq41 => ?_)
      refine wp_aload_n (pc := 44) (i := 0) d_132_44 rfl rfl ?_
      refine wp_gI (pc := 45) d_132_45 fl_10_90 rfl ft_9_6 uq41.at ?_
      refine wp_iload_n (pc := 48) (i := 3) d_132_48 rfl rfl ?_
      refine wp_icmpN_ne (pc := 49) (tgt := 56) d_132_49 (by decide) (by have := (dOr_lt _ hd64 jr (by omega)).2.1; omega) (by omega) (fun zq49 => ?_) (fun zq49 => ?_)
      · refine wp_icN (pc := 56) (m := 1) d_132_56 (by decide) ?_
        have hdl := dOr_lt _ hd64 jr (by omega)
        have htb : ¬ (σ 4 7).testBit jr = p := by
          rw [show p = false from zq17]
          intro hcs
          unfold dAn at zq49; rw [if_neg (nT hcs)] at zq49; exact absurd rfl zq49
        have hdv : dAn (σ 4 7) jr = (σ 4 7) ^^^ 2 ^ jr := by
          rw [show p = false from zq17] at htb
          unfold dAn; rw [if_pos (by rcases hcs : (σ 4 7).testBit jr with _ | _; exact absurd hcs htb; rfl)]
        exact wp_iret (pc := 57) d_132_57 (Or.inl rfl) (PN.mk (by unfold q_dam; rw [if_pos zq5, hcjr, if_neg htb]; rfl) ⟨⟨(uq41.ne (by decide)).trans hTx.1, fun j hj => by rw [uq41.2 178 (by decide)]; exact hTx.2 j hj⟩, hRo.k (uq41.ne (by decide)) (by rw [uq41.2 176 (by decide)]), mNo_dams hNo (uq41.2 177 (by decide)) (uq41.ne (by decide)) (uq41.at.trans (congrArg nI hdv)), ⟨(uq41.ne (by decide)).trans hAc.1, (uq41.ne (by decide)).trans hAc.2.1, by rw [uq41.2 179 (by decide)]; exact hAc.2.2⟩, ⟨hGa.1, (uq41.ne (by decide)).trans hGa.2.1, by rw [uq41.2 183 (by decide), uq41.2 184 (by decide), uq41.2 185 (by decide)]; exact hGa.2.2⟩, ⟨by rw [uq41.2 187 (by decide)]; exact hSl.1, by rw [uq41.2 186 (by decide)]; exact hSl.2⟩, hsd⟩ ⟨fun a ha => uq41.2 a (by omega), rfl⟩)
      · refine wp_icN (pc := 52) (m := 0) d_132_52 (by decide) ?_
        refine wp_goto (pc := 53) (tgt := 57) d_132_53 (by decide) ?_
        have hdl := dOr_lt _ hd64 jr (by omega)
        have htb : (σ 4 7).testBit jr = p := by
          rw [show p = false from zq17]
          rcases hcs : (σ 4 7).testBit jr with _ | _
          · rfl
          · unfold dAn at zq49; rw [if_pos hcs] at zq49; exact absurd zq49 hdl.2.2
        exact wp_iret (pc := 57) d_132_57 (Or.inl rfl) (PN.mk (by unfold q_dam; rw [if_pos zq5, hcjr, if_pos htb]; rfl) ⟨⟨(uq41.ne (by decide)).trans hTx.1, fun j hj => by rw [uq41.2 178 (by decide)]; exact hTx.2 j hj⟩, hRo.k (uq41.ne (by decide)) (by rw [uq41.2 176 (by decide)]), ⟨by rw [uq41.2 177 (by decide)]; exact hNo.1, (uq41.ne (by decide)).trans hNo.2.1, uq41.at.trans (congrArg nI zq49)⟩, ⟨(uq41.ne (by decide)).trans hAc.1, (uq41.ne (by decide)).trans hAc.2.1, by rw [uq41.2 179 (by decide)]; exact hAc.2.2⟩, ⟨hGa.1, (uq41.ne (by decide)).trans hGa.2.1, by rw [uq41.2 183 (by decide), uq41.2 184 (by decide), uq41.2 185 (by decide)]; exact hGa.2.2⟩, ⟨by rw [uq41.2 187 (by decide)]; exact hSl.1, by rw [uq41.2 186 (by decide)]; exact hSl.2⟩, hsd⟩ ⟨fun a ha => uq41.2 a (by omega), rfl⟩)
    · refine wp_aload_n (pc := 20) (i := 0) d_132_20 rfl rfl ?_
      refine wp_gI (pc := 21) d_132_21 fl_10_90 rfl ft_9_6 hNo.2.2 ?_
      refine wp_icN (pc := 24) (m := 1) d_132_24 (by decide) ?_
      refine wp_iload_n (pc := 25) (i := 1) d_132_25 rfl rfl ?_
      refine wp_ishl (pc := 26) d_132_26 ?_
      rw [bit_c jr (by omega)]
      refine wp_ior (pc := 27) d_132_27 ?_
      rw [dOr_c _ hd64 _ (by omega)]
      refine wp_goto (pc := 28) (tgt := 41) d_132_28 (by decide) ?_
      refine wp_pI (pc := 41) d_132_41 fl_10_90 rfl ft_9_6 rfl (fun Iq41 uq41 => ?_)
      refine wp_aload_n (pc := 44) (i := 0) d_132_44 rfl rfl ?_
      refine wp_gI (pc := 45) d_132_45 fl_10_90 rfl ft_9_6 uq41.at ?_
      refine wp_iload_n (pc := 48) (i := 3) d_132_48 rfl rfl ?_
      refine wp_icmpN_ne (pc := 49) (tgt := 56) d_132_49 (by decide) (by have := (dOr_lt _ hd64 jr (by omega)).1; omega) (by omega) (fun zq49 => ?_) (fun zq49 => ?_)
      · refine wp_icN (pc := 56) (m := 1) d_132_56 (by decide) ?_
        have hdl := dOr_lt _ hd64 jr (by omega)
        have htb : ¬ (σ 4 7).testBit jr = p := by
          rw [show p = true from zq17]
          intro hcs
          unfold dOr at zq49; rw [if_pos hcs] at zq49; exact absurd rfl zq49
        have hdv : dOr (σ 4 7) jr = (σ 4 7) ^^^ 2 ^ jr := by
          rw [show p = true from zq17] at htb
          unfold dOr; rw [if_neg htb]
        exact wp_iret (pc := 57) d_132_57 (Or.inl rfl) (PN.mk (by unfold q_dam; rw [if_pos zq5, hcjr, if_neg htb]; rfl) ⟨⟨(uq41.ne (by decide)).trans hTx.1, fun j hj => by rw [uq41.2 178 (by decide)]; exact hTx.2 j hj⟩, hRo.k (uq41.ne (by decide)) (by rw [uq41.2 176 (by decide)]), mNo_dams hNo (uq41.2 177 (by decide)) (uq41.ne (by decide)) (uq41.at.trans (congrArg nI hdv)), ⟨(uq41.ne (by decide)).trans hAc.1, (uq41.ne (by decide)).trans hAc.2.1, by rw [uq41.2 179 (by decide)]; exact hAc.2.2⟩, ⟨hGa.1, (uq41.ne (by decide)).trans hGa.2.1, by rw [uq41.2 183 (by decide), uq41.2 184 (by decide), uq41.2 185 (by decide)]; exact hGa.2.2⟩, ⟨by rw [uq41.2 187 (by decide)]; exact hSl.1, by rw [uq41.2 186 (by decide)]; exact hSl.2⟩, hsd⟩ ⟨fun a ha => uq41.2 a (by omega), rfl⟩)
      · refine wp_icN (pc := 52) (m := 0) d_132_52 (by decide) ?_
        refine wp_goto (pc := 53) (tgt := 57) d_132_53 (by decide) ?_
        have hdl := dOr_lt _ hd64 jr (by omega)
        have htb : (σ 4 7).testBit jr = p := by
          rw [show p = true from zq17]
          rcases hcs : (σ 4 7).testBit jr with _ | _
          · unfold dOr at zq49; rw [if_neg (nT hcs)] at zq49; exact absurd zq49 hdl.2.2
          · rfl
        exact wp_iret (pc := 57) d_132_57 (Or.inl rfl) (PN.mk (by unfold q_dam; rw [if_pos zq5, hcjr, if_pos htb]; rfl) ⟨⟨(uq41.ne (by decide)).trans hTx.1, fun j hj => by rw [uq41.2 178 (by decide)]; exact hTx.2 j hj⟩, hRo.k (uq41.ne (by decide)) (by rw [uq41.2 176 (by decide)]), ⟨by rw [uq41.2 177 (by decide)]; exact hNo.1, (uq41.ne (by decide)).trans hNo.2.1, uq41.at.trans (congrArg nI zq49)⟩, ⟨(uq41.ne (by decide)).trans hAc.1, (uq41.ne (by decide)).trans hAc.2.1, by rw [uq41.2 179 (by decide)]; exact hAc.2.2⟩, ⟨hGa.1, (uq41.ne (by decide)).trans hGa.2.1, by rw [uq41.2 183 (by decide), uq41.2 184 (by decide), uq41.2 185 (by decide)]; exact hGa.2.2⟩, ⟨by rw [uq41.2 187 (by decide)]; exact hSl.1, by rw [uq41.2 186 (by decide)]; exact hSl.2⟩, hsd⟩ ⟨fun a ha => uq41.2 a (by omega), rfl⟩)
  · refine wp_iconst (pc := 8) (v := (-1)) d_132_8 (by decide) ?_
    exact wp_iret (pc := 9) d_132_9 (Or.inl rfl) (PN.mk (by unfold q_dam; rw [if_neg (nT zq5)]) hC0 ⟨fun _ _ => rfl, rfl⟩)
theorem mAc_rem {I0 I2 : IT} {rg : Nat → SN} {nx na : Nat} {σ : SN} (hAc0 : mAc I0 rg nx na) (hNo0 : mNo I0 σ) (hnx : nx < 12) (c1 : ∀ q, q < 26 → I2 179 (27 * nx + q) = I0 177 q) (c2 : I2 179 (27 * nx + 26) = nI (σ 4 6)) (c3 : ∀ q, (q < 27 * nx ∨ 27 * nx + 27 ≤ q) → I2 179 q = I0 179 q) (c4 : I2 173 13 = nI ((nx + 1) % 12)) (c5 : I2 173 12 = nI (min (na + 1) 12)) : mAc I2 (upf rg nx σ) ((nx + 1) % 12) (min (na + 1) 12) := by
  refine ⟨c4, c5, fun i hi => ?_⟩
  unfold upf
  by_cases e : i = nx
  · rw [if_pos e, e]
    exact ⟨hNo0.1.cp (fun q hq => by rw [Nat.zero_add]; exact c1 q hq), c2⟩
  · rw [if_neg e]
    exact ⟨(hAc0.2.2 i hi).1.k (fun q h1 h2 => c3 q (by omega)), (c3 _ (by omega)).trans (hAc0.2.2 i hi).2⟩
set_option maxRecDepth 4000 in
theorem keepAct_step {I0 : IT} {J : JT} {F : FT} {rg : Nat → SN} {nx na : Nat} {σ : SN} (hF : Fok F) (hAc0 : mAc I0 rg nx na) (hNo0 : mNo I0 σ) (hnx : nx < 12) (hna : na ≤ 12) (i : Nat) (hi0 : i ≤ 26) (I : IT) (hin : ∀ q, q < i → I 179 (27 * nx + q) = I0 177 q) (hlo : ∀ q, (q < 27 * nx ∨ 27 * nx + 26 ≤ q) → I 179 q = I0 179 q) (hoff : ∀ a, a ≠ 179 → I a = I0 a)
    (ih0 : ∀ i', i < 26 → i' = i + 1 → ∀ (I : IT), (∀ q, q < i' → I 179 (27 * nx + q) = I0 177 q) → (∀ q, (q < 27 * nx ∨ 27 * nx + 26 ≤ q) → I 179 q = I0 179 q) → (∀ a, a ≠ 179 → I a = I0 a) → Wp none 134 (fun R => ∃ I2, R = (none, KK, I2, J, F) ∧ mAc I2 (upf rg nx σ) ((nx + 1) % 12) (min (na + 1) 12) ∧ (∀ q, q ≠ 12 → q ≠ 13 → I2 173 q = I0 173 q) ∧ ∀ a, a ≠ 173 → a ≠ 179 → I2 a = I0 a) 2 [some (vR 173), some (vI (nI i'))] [] KK I J F) : Wp none 134 (fun R => ∃ I2, R = (none, KK, I2, J, F) ∧ mAc I2 (upf rg nx σ) ((nx + 1) % 12) (min (na + 1) 12) ∧ (∀ q, q ≠ 12 → q ≠ 13 → I2 173 q = I0 173 q) ∧ ∀ a, a ≠ 173 → a ≠ 179 → I2 a = I0 a) 2 [some (vR 173), some (vI (nI i))] [] KK I J F := by
  refine wp_iload_n (pc := 2) (i := 1) d_134_2 rfl rfl ?_
  refine wp_bpN (pc := 3) (m := 26) d_134_3 (by decide) ?_
  refine wp_icmpN_ge (pc := 5) (tgt := 34) d_134_5 (by decide) (by omega) (by decide) (fun zq5 => ?_) (fun zq5 => ?_)
  · refine wp_aload_n (pc := 34) (i := 0) d_134_34 rfl rfl ?_
    refine wp_gA (pc := 35) d_134_35 fl_10_25 rfl ft_9_14 (F_173_14 hF) ?_
    refine wp_bpN (pc := 38) (m := 27) d_134_38 (by decide) ?_
    refine wp_aload_n (pc := 40) (i := 0) d_134_40 rfl rfl ?_
    refine wp_gI (pc := 41) d_134_41 fl_10_111 rfl ft_9_13 ((congrFun (hoff 173 (by decide)) 13).trans hAc0.1) ?_
    refine wp_imulN (pc := 44) d_134_44 ?_
    refine wp_bpN (pc := 45) (m := 26) d_134_45 (by decide) ?_
    refine wp_iaddN (pc := 47) d_134_47 ?_
    refine wp_aload_n (pc := 48) (i := 0) d_134_48 rfl rfl ?_
    refine wp_gI (pc := 49) d_134_49 fl_10_93 rfl ft_9_7 ((congrFun (hoff 173 (by decide)) 7).trans hNo0.2.1) ?_
    refine wp_aS (pc := 52) (j := ((27 * nx) + 26)) d_134_52 rfl rfl (by omega) (by decide) (fun Iq52 uq52 => ?_)
    refine wp_aload_n (pc := 53) (i := 0) d_134_53 rfl rfl ?_
    refine wp_aload_n (pc := 54) (i := 0) d_134_54 rfl rfl ?_
    refine wp_gI (pc := 55) d_134_55 fl_10_111 rfl ft_9_13 ((uq52.off (by decide)).trans ((congrFun (hoff 173 (by decide)) 13).trans hAc0.1)) ?_
    refine wp_icN (pc := 58) (m := 1) d_134_58 (by decide) ?_
    refine wp_iaddN (pc := 59) d_134_59 ?_
    refine wp_bpN (pc := 60) (m := 12) d_134_60 (by decide) ?_
    refine wp_iremN (pc := 62) d_134_62 (by omega) (by omega) (by decide) ?_
    refine wp_pI (pc := 63) d_134_63 fl_10_111 rfl ft_9_13 rfl (fun Iq63 uq63 => ?_)
    refine wp_aload_n (pc := 66) (i := 0) d_134_66 rfl rfl ?_
    refine wp_aload_n (pc := 67) (i := 0) d_134_67 rfl rfl ?_
    refine wp_gI (pc := 68) d_134_68 fl_10_96 rfl ft_9_12 ((uq63.ne (by decide)).trans ((uq52.off (by decide)).trans ((congrFun (hoff 173 (by decide)) 12).trans hAc0.2.1))) ?_
    refine wp_bpN (pc := 71) (m := 12) d_134_71 (by decide) ?_
    refine wp_icmpN_ge (pc := 73) (tgt := 85) d_134_73 (by decide) (by omega) (by decide) (fun zq73 => ?_) (fun zq73 => ?_)
    · refine wp_bpN (pc := 85) (m := 12) d_134_85 (by decide) ?_
      refine wp_pI (pc := 87) d_134_87 fl_10_96 rfl ft_9_12 rfl (fun Iq87 uq87 => ?_)
      refine wp_vret (pc := 90) d_134_90 rfl ⟨_, rfl, mAc_rem hAc0 hNo0 hnx (fun q hq => ?_) ?_ (fun q hq => ?_) ?_ ?_, fun q h1 h2 => ?_, fun a h1 h2 => ?_⟩
      · rw [uq87.off (by decide), uq63.off (by decide), uq52.ne (by omega)]; exact hin q (by omega)
      · rw [uq87.off (by decide), uq63.off (by decide)]; exact uq52.at
      · rw [uq87.off (by decide), uq63.off (by decide), uq52.ne (by omega)]; exact hlo q (by omega)
      · exact (uq87.ne (by decide)).trans uq63.at
      · exact uq87.at.trans (congrArg nI (by omega))
      · rw [uq87.ne h1, uq63.ne h2, uq52.off (by decide), hoff 173 (by decide)]
      · rw [uq87.2 a h1, uq63.2 a h1, uq52.2 a h2, hoff a h2]
    · refine wp_aload_n (pc := 76) (i := 0) d_134_76 rfl rfl ?_
      refine wp_gI (pc := 77) d_134_77 fl_10_96 rfl ft_9_12 ((uq63.ne (by decide)).trans ((uq52.off (by decide)).trans ((congrFun (hoff 173 (by decide)) 12).trans hAc0.2.1))) ?_
      refine wp_icN (pc := 80) (m := 1) d_134_80 (by decide) ?_
      refine wp_iaddN (pc := 81) d_134_81 ?_
      refine wp_goto (pc := 82) (tgt := 87) d_134_82 (by decide) ?_
      refine wp_pI (pc := 87) d_134_87 fl_10_96 rfl ft_9_12 rfl (fun Iq87 uq87 => ?_)
      refine wp_vret (pc := 90) d_134_90 rfl ⟨_, rfl, mAc_rem hAc0 hNo0 hnx (fun q hq => ?_) ?_ (fun q hq => ?_) ?_ ?_, fun q h1 h2 => ?_, fun a h1 h2 => ?_⟩
      · rw [uq87.off (by decide), uq63.off (by decide), uq52.ne (by omega)]; exact hin q (by omega)
      · rw [uq87.off (by decide), uq63.off (by decide)]; exact uq52.at
      · rw [uq87.off (by decide), uq63.off (by decide), uq52.ne (by omega)]; exact hlo q (by omega)
      · exact (uq87.ne (by decide)).trans uq63.at
      · exact uq87.at.trans (congrArg nI (by omega))
      · rw [uq87.ne h1, uq63.ne h2, uq52.off (by decide), hoff 173 (by decide)]
      · rw [uq87.2 a h1, uq63.2 a h1, uq52.2 a h2, hoff a h2]
  · refine wp_aload_n (pc := 8) (i := 0) d_134_8 rfl rfl ?_
    refine wp_gA (pc := 9) d_134_9 fl_10_25 rfl ft_9_14 (F_173_14 hF) ?_
    refine wp_bpN (pc := 12) (m := 27) d_134_12 (by decide) ?_
    refine wp_aload_n (pc := 14) (i := 0) d_134_14 rfl rfl ?_
    refine wp_gI (pc := 15) d_134_15 fl_10_111 rfl ft_9_13 ((congrFun (hoff 173 (by decide)) 13).trans hAc0.1) ?_
    refine wp_imulN (pc := 18) d_134_18 ?_
    refine wp_iload_n (pc := 19) (i := 1) d_134_19 rfl rfl ?_
    refine wp_iaddN (pc := 20) d_134_20 ?_
    refine wp_aload_n (pc := 21) (i := 0) d_134_21 rfl rfl ?_
    refine wp_gA (pc := 22) d_134_22 fl_10_19 rfl ft_9_4 (F_173_4 hF) ?_
    refine wp_iload_n (pc := 25) (i := 1) d_134_25 rfl rfl ?_
    refine wp_aL (pc := 26) (j := i) d_134_26 rfl rfl (by omega) (by decide) rfl ?_
    refine wp_aS (pc := 27) (j := ((27 * nx) + i)) d_134_27 rfl rfl (by omega) (by decide) (fun Iq27 uq27 => ?_)
    refine wq_iincN (pc := 28) (L2 := [_, _]) d_134_28 rfl (b := 1) (by decide) rfl rfl ?_
    refine wp_goto (pc := 31) (tgt := 2) d_134_31 (by decide) ?_
    refine ih0 (i + 1) zq5 rfl _ (fun q hq => ?_) (fun q hq => (uq27.ne (by omega)).trans (hlo q hq)) (fun a ha => (uq27.2 a ha).trans (hoff a ha))
    by_cases e : q = i
    · subst e; exact uq27.at.trans (by rw [hoff 177 (by decide)])
    · exact (uq27.ne (by omega)).trans (hin q (by omega))
theorem keepAct_loop {I0 : IT} {J : JT} {F : FT} {rg : Nat → SN} {nx na : Nat} {σ : SN} (hF : Fok F) (hAc0 : mAc I0 rg nx na) (hNo0 : mNo I0 σ) (hnx : nx < 12) (hna : na ≤ 12) : ∀ (d i : Nat), i + d = 26 → ∀ (I : IT), (∀ q, q < i → I 179 (27 * nx + q) = I0 177 q) → (∀ q, (q < 27 * nx ∨ 27 * nx + 26 ≤ q) → I 179 q = I0 179 q) → (∀ a, a ≠ 179 → I a = I0 a) → Wp none 134 (fun R => ∃ I2, R = (none, KK, I2, J, F) ∧ mAc I2 (upf rg nx σ) ((nx + 1) % 12) (min (na + 1) 12) ∧ (∀ q, q ≠ 12 → q ≠ 13 → I2 173 q = I0 173 q) ∧ ∀ a, a ≠ 173 → a ≠ 179 → I2 a = I0 a) 2 [some (vR 173), some (vI (nI i))] [] KK I J F := by
  intro d
  induction d with
  | zero =>
    intro i hid I hin hlo hoff
    exact keepAct_step hF hAc0 hNo0 hnx hna i (by omega) I hin hlo hoff (fun i' hlt => absurd hlt (by omega))
  | succ d ih =>
    intro i hid I hin hlo hoff
    exact keepAct_step hF hAc0 hNo0 hnx hna i (by omega) I hin hlo hoff (fun i' hlt he => ih i' (by omega))

set_option maxRecDepth 4000 in
theorem m_keepAct {I0 : IT} {J : JT} {F : FT} {rg : Nat → SN} {nx na : Nat} {σ : SN} (hF : Fok F) (hAc0 : mAc I0 rg nx na) (hNo0 : mNo I0 σ) (hnx : nx < 12) (hna : na ≤ 12) : Sp 134 [vR 173] KK I0 J F (fun R => ∃ I2, R = (none, KK, I2, J, F) ∧ mAc I2 (upf rg nx σ) ((nx + 1) % 12) (min (na + 1) 12) ∧ (∀ q, q ≠ 12 → q ≠ 13 → I2 173 q = I0 173 q) ∧ ∀ a, a ≠ 173 → a ≠ 179 → I2 a = I0 a) := by
  refine Sp.mk2 (Nat.le_of_ble_eq_true rfl) (L2 := [_, _]) rfl ?_
  refine wp_icN (pc := 0) (m := 0) d_134_0 (by decide) ?_
  refine wq_istore_n (pc := 1) (L2 := [_, _]) (i := 1) d_134_1 rfl (Nat.le_of_ble_eq_true rfl) rfl rfl ?_
  exact keepAct_loop hF hAc0 hNo0 hnx hna 26 0 (by omega) I0 (fun q hq => absurd hq (Nat.not_lt_zero q)) (fun _ _ => rfl) (fun _ _ => rfl)
set_option maxRecDepth 4000 in
theorem m_gquarter {I : IT} {J : JT} {F : FT} {t : Nat} {tx : Nat → Nat} {tl : Nat} {ρ : SN} {n : Nat} {σ : SN} {rg : Nat → SN} {nx na : Nat} {γ : SN} {gn : Nat} {sl : Nat → SN} {sf : Nat → Bool} {sd : Int64} (hF : Fok F) (hC : MR I J tx tl ρ n σ rg nx na γ gn sl sf sd) (hO : OKS t tx tl ρ n σ rg nx na γ gn sl sf) (ht : t + 100 ≤ 1000) {x : Int32} : Sp 133 [vR 173, vI x] KK I J F (PN (q_quarter tx tl ρ n σ rg nx na γ gn sl sf sd x) I J F) := by
  have hC0 := hC
  obtain ⟨hTx, hRo, hNo, hAc, hGa, hSl, hsd⟩ := hC
  obtain ⟨ht40, hx256, hρ, hok, hrg, hnx, hna, hgo, hsl, hz, hzr, hzs, hn6⟩ := hO
  have hd64 := hok.2.2.2.2.2
  have hgn6 := hGa.1
  refine Sp.mk2 (Nat.le_of_ble_eq_true rfl) (L2 := [_, _]) rfl ?_
  refine wp_iload_n (pc := 0) (i := 1) d_133_0 rfl rfl ?_
  refine wp_i2l (pc := 1) d_133_1 ?_
  refine wp_lconst (pc := 2) (v := lN 0) d_133_2 (by decide) ?_
  refine wr_ldc2M (pc := 3) (m := 9) d_133_3 cs_10_74 (by decide) ?_
  refine wp_callS3p (pc := 6) d_133_6 lk_10_59 (by decide) rfl (Nat.le_of_ble_eq_true rfl) (c_inN x 0 9 (by decide) (by decide)) ?_
  refine wp_ifB_ne (pc := 9) (tgt := 15) d_133_9 (by decide) (fun zq9 => ?_) (fun zq9 => ?_)
  · obtain ⟨rn, h0rn, h1rn, hxrn⟩ := inB_t zq9 (by decide) (by decide)
    subst hxrn
    have hcrn : (nI rn).toNatClampNeg = rn := nI_clamp (by omega)
    refine wp_aload_n (pc := 15) (i := 0) d_133_15 rfl rfl ?_
    refine wp_callV0v (pc := 16) d_133_16 lk_10_118 (by decide) rfl (Nat.le_of_ble_eq_true rfl) rfl rfl (m_keepAct hF hAc hNo hnx hna) (fun Iq16 hq16 => ?_)
    obtain ⟨hk1, hk2, hk3⟩ := hq16
    refine wp_aload_n (pc := 19) (i := 0) d_133_19 rfl rfl ?_
    refine wp_dup (pc := 20) d_133_20 rfl ?_
    refine wp_gI (pc := 21) d_133_21 fl_10_93 rfl ft_9_7 ((hk2 7 (by decide) (by decide)).trans hNo.2.1) ?_
    refine wp_icN (pc := 24) (m := 1) d_133_24 (by decide) ?_
    refine wp_iaddN (pc := 25) d_133_25 ?_
    refine wp_pI (pc := 26) d_133_26 fl_10_93 rfl ft_9_7 rfl (fun Iq26 uq26 => ?_)
    refine wp_aload_n (pc := 29) (i := 0) d_133_29 rfl rfl ?_
    refine wp_icN (pc := 30) (m := 0) d_133_30 (by decide) ?_
    refine wp_iload_n (pc := 31) (i := 1) d_133_31 rfl rfl ?_
    refine wp_aload_n (pc := 32) (i := 0) d_133_32 rfl rfl ?_
    refine wp_gI (pc := 33) d_133_33 fl_10_90 rfl ft_9_6 ((uq26.ne (by decide)).trans ((hk2 6 (by decide) (by decide)).trans hNo.2.2)) ?_
    refine wp_callV3e (pc := 36) d_133_36 lk_10_121 (by decide) rfl (Nat.le_of_ble_eq_true rfl) rfl rfl (m_pass (f := 0) hF (hRo.k ((uq26.ne (by decide)).trans (hk2 5 (by decide) (by decide))) ((uq26.2 176 (by decide)).trans (hk3 176 (by decide) (by decide)))) hρ (by decide) hd64 h1rn hok (by omega) (by rw [uq26.2 177 (by decide), hk3 177 (by decide) (by decide)]; exact hNo.1)) (fun Iq36 hq36 => ?_)
    have h173 : ∀ q, q ≠ 7 → q ≠ 12 → q ≠ 13 → Iq36 173 q = I 173 q := fun q h1 h2 h3 => by rw [hq36.2.2 173 (by decide) (by decide) (by decide), uq26.ne h1, hk2 q h2 h3]
    have harr : ∀ a, a ≠ 173 → a ≠ 177 → a ≠ 179 → a ≠ 180 → a ≠ 181 → Iq36 a = I a := fun a h1 h2 h3 h4 h5 => by rw [hq36.2.2 a h2 h4 h5, uq26.2 a h1, hk3 a h1 h3]
    have hN2 : mNo Iq36 (passN ρ n (σ 4 7) rn σ) := ⟨hq36.1, by rw [hq36.2.2 173 (by decide) (by decide) (by decide), uq26.at, pass46], by rw [h173 6 (by decide) (by decide) (by decide), pass47]; exact hNo.2.2⟩
    have hz9 : Iq36 179 = Iq16 179 := by rw [hq36.2.2 179 (by decide) (by decide) (by decide), uq26.2 179 (by decide)]
    exact wp_iret (pc := 39) d_133_39 (Or.inl rfl) (PN.mk (by unfold q_quarter; rw [if_pos zq9, hcrn]) ⟨⟨(h173 9 (by decide) (by decide) (by decide)).trans hTx.1, fun j hj => by rw [harr 178 (by decide) (by decide) (by decide) (by decide) (by decide)]; exact hTx.2 j hj⟩, hRo.k (h173 5 (by decide) (by decide) (by decide)) (by rw [harr 176 (by decide) (by decide) (by decide) (by decide) (by decide)]), hN2, ⟨by rw [hq36.2.2 173 (by decide) (by decide) (by decide), uq26.ne (by decide)]; exact hk1.1, by rw [hq36.2.2 173 (by decide) (by decide) (by decide), uq26.ne (by decide)]; exact hk1.2.1, by rw [hz9]; exact hk1.2.2⟩, ⟨hGa.1, (h173 19 (by decide) (by decide) (by decide)).trans hGa.2.1, by rw [harr 183 (by decide) (by decide) (by decide) (by decide) (by decide), harr 184 (by decide) (by decide) (by decide) (by decide) (by decide), harr 185 (by decide) (by decide) (by decide) (by decide) (by decide)]; exact hGa.2.2⟩, ⟨by rw [harr 187 (by decide) (by decide) (by decide) (by decide) (by decide)]; exact hSl.1, by rw [harr 186 (by decide) (by decide) (by decide) (by decide) (by decide)]; exact hSl.2⟩, hsd⟩ ⟨fun a ha => harr a (by omega) (by omega) (by omega) (by omega) (by omega), rfl⟩)
  · refine wp_bipush (pc := 12) (v := (-2)) d_133_12 (by decide) ?_
    exact wp_iret (pc := 14) d_133_14 (Or.inl rfl) (PN.mk (by unfold q_quarter; rw [if_neg (nT zq9)]) hC0 ⟨fun _ _ => rfl, rfl⟩)
theorem mW_take {v v2 : Nat → Int32} {σ : SN} {j g : Nat} (hj : j < 6) (h : mW v 0 σ) (e0 : v2 j = nI (σ 0 j - g)) (e1 : v2 (6 + j) = nI (σ 1 j - alg (σ 1 j) g (σ 0 j))) (eo : ∀ q, q ≠ j → q ≠ 6 + j → v2 q = v q) : mW v2 0 (tkN σ j g) := by
  refine ⟨fun k hk j2 hj2 => ?_, ?_, ?_⟩
  · unfold tkN
    by_cases c1 : k = 1 ∧ j2 = j
    · rw [c1.1, c1.2, s2_eq]; exact (congrArg v2 (by omega)).trans e1
    · by_cases c0 : k = 0 ∧ j2 = j
      · rw [c0.1, c0.2, s2_nk (by decide), s2_eq]; exact (congrArg v2 (by omega)).trans e0
      · have h9 : s2 (s2 σ 0 j (σ 0 j - g)) 1 j (σ 1 j - alg (σ 1 j) g (σ 0 j)) k j2 = σ k j2 := by unfold s2; rw [if_neg c1, if_neg c0]
        rw [h9, eo _ (by omega) (by omega)]; exact h.1 k hk j2 hj2
  · unfold tkN; rw [s2_nk (by decide), s2_nk (by decide), eo _ (by omega) (by omega)]; exact h.2.1
  · unfold tkN; rw [s2_nk (by decide), s2_nk (by decide), eo _ (by omega) (by omega)]; exact h.2.2
theorem tk4 {σ : SN} {j g q : Nat} : tkN σ j g 4 q = σ 4 q := by unfold tkN; rw [s2_nk (by decide), s2_nk (by decide)]
theorem mW_s1 {v v2 : Nat → Int32} {σ : SN} {j x : Nat} (hj : j < 6) (h : mW v 0 σ) (e1 : v2 (6 + j) = nI x) (eo : ∀ q, q ≠ 6 + j → v2 q = v q) : mW v2 0 (s2 σ 1 j x) := by
  refine ⟨fun k hk j2 hj2 => ?_, ?_, ?_⟩
  · by_cases c1 : k = 1 ∧ j2 = j
    · rw [c1.1, c1.2, s2_eq]; exact (congrArg v2 (by omega)).trans e1
    · have h9 : s2 σ 1 j x k j2 = σ k j2 := by unfold s2; rw [if_neg c1]
      rw [h9, eo _ (by omega)]; exact h.1 k hk j2 hj2
  · rw [s2_nk (by decide), eo _ (by omega)]; exact h.2.1
  · rw [s2_nk (by decide), eo _ (by omega)]; exact h.2.2
set_option maxRecDepth 4000 in
theorem m_gpail {I : IT} {J : JT} {F : FT} {t : Nat} {tx : Nat → Nat} {tl : Nat} {ρ : SN} {n : Nat} {σ : SN} {rg : Nat → SN} {nx na : Nat} {γ : SN} {gn : Nat} {sl : Nat → SN} {sf : Nat → Bool} {sd : Int64} (hF : Fok F) (hC : MR I J tx tl ρ n σ rg nx na γ gn sl sf sd) (hO : OKS t tx tl ρ n σ rg nx na γ gn sl sf) (ht : t + 100 ≤ 1000) {x y : Int32} : Sp 137 [vR 173, vI x, vI y] KK I J F (PN (q_pail tx tl ρ n σ rg nx na γ gn sl sf sd x y) I J F) := by
  have hC0 := hC
  obtain ⟨hTx, hRo, hNo, hAc, hGa, hSl, hsd⟩ := hC
  obtain ⟨ht40, hx256, hρ, hok, hrg, hnx, hna, hgo, hsl, hz, hzr, hzs, hn6⟩ := hO
  have hd64 := hok.2.2.2.2.2
  have hgn6 := hGa.1
  refine Sp.mk2 (Nat.le_of_ble_eq_true rfl) (L2 := [_, _, _, _]) rfl ?_
  refine wp_aload_n (pc := 0) (i := 0) d_137_0 rfl rfl ?_
  refine wp_iload_n (pc := 1) (i := 1) d_137_1 rfl rfl ?_
  refine wp_callV1p (pc := 2) d_137_2 lk_10_99 (by decide) rfl (Nat.le_of_ble_eq_true rfl) rfl rfl (m_isRoof hF hRo x) ?_
  refine wp_ifB_ne (pc := 5) (tgt := 10) d_137_5 (by decide) (fun zq5 => ?_) (fun zq5 => ?_)
  · obtain ⟨jr, hjr, hxjr⟩ := inR_t zq5 (by omega)
    subst hxjr
    have hcjr : (nI jr).toNatClampNeg = jr := nI_clamp (by omega)
    refine wp_iload_n (pc := 10) (i := 2) d_137_10 rfl rfl ?_
    refine wp_i2l (pc := 11) d_137_11 ?_
    refine wp_lconst (pc := 12) (v := lN 1) d_137_12 (by decide) ?_
    refine wr_ldc2M (pc := 13) (m := 9) d_137_13 cs_10_74 (by decide) ?_
    refine wp_callS3p (pc := 16) d_137_16 lk_10_59 (by decide) rfl (Nat.le_of_ble_eq_true rfl) (c_inN y 1 9 (by decide) (by decide)) ?_
    refine wp_ifB_ne (pc := 19) (tgt := 25) d_137_19 (by decide) (fun zq19 => ?_) (fun zq19 => ?_)
    · obtain ⟨gg, h0gg, h1gg, hxgg⟩ := inB_t zq19 (by decide) (by decide)
      subst hxgg
      have hcgg : (nI gg).toNatClampNeg = gg := nI_clamp (by omega)
      refine wp_aload_n (pc := 25) (i := 0) d_137_25 rfl rfl ?_
      refine wp_gA (pc := 26) d_137_26 fl_10_19 rfl ft_9_4 (F_173_4 hF) ?_
      refine wp_iload_n (pc := 29) (i := 1) d_137_29 rfl rfl ?_
      refine wp_aL (pc := 30) (j := jr) d_137_30 rfl rfl (by omega) (by decide) (mW00 hNo.1 (show jr < 6 by omega)) ?_
      refine wp_iload_n (pc := 31) (i := 2) d_137_31 rfl rfl ?_
      refine wp_icmpN_ge (pc := 32) (tgt := 38) d_137_32 (by decide) (by have := hok.m (by omega) jr (by omega); omega) (by omega) (fun zq32 => ?_) (fun zq32 => ?_)
      · refine wp_aload_n (pc := 38) (i := 0) d_137_38 rfl rfl ?_
        refine wp_callV0v (pc := 39) d_137_39 lk_10_118 (by decide) rfl (Nat.le_of_ble_eq_true rfl) rfl rfl (m_keepAct hF hAc hNo hnx hna) (fun Iq39 hq39 => ?_)
        obtain ⟨hk1, hk2, hk3⟩ := hq39
        refine wp_aload_n (pc := 42) (i := 0) d_137_42 rfl rfl ?_
        refine wp_gA (pc := 43) d_137_43 fl_10_19 rfl ft_9_4 (F_173_4 hF) ?_
        refine wp_bpN (pc := 46) (m := 6) d_137_46 (by decide) ?_
        refine wp_iload_n (pc := 48) (i := 1) d_137_48 rfl rfl ?_
        refine wp_iaddN (pc := 49) d_137_49 ?_
        refine wp_aL (pc := 50) (j := (6 + jr)) d_137_50 rfl rfl (by omega) (by decide) ((congrFun (hk3 177 (by decide) (by decide)) _).trans (mW0 hNo.1 (show 1 < 4 by decide) (show jr < 6 by omega))) ?_
        refine wp_iload_n (pc := 51) (i := 2) d_137_51 rfl rfl ?_
        refine wp_aload_n (pc := 52) (i := 0) d_137_52 rfl rfl ?_
        refine wp_gA (pc := 53) d_137_53 fl_10_19 rfl ft_9_4 (F_173_4 hF) ?_
        refine wp_iload_n (pc := 56) (i := 1) d_137_56 rfl rfl ?_
        refine wp_aL (pc := 57) (j := jr) d_137_57 rfl rfl (by omega) (by decide) ((congrFun (hk3 177 (by decide) (by decide)) _).trans (mW00 hNo.1 (show jr < 6 by omega))) ?_
        refine wp_callS3p (pc := 58) d_137_58 lk_10_114 (by decide) rfl (Nat.le_of_ble_eq_true rfl) (m_along (s := σ 1 jr) (g := gg) (a := σ 0 jr) (hok.2.2.2.2.1 jr (by omega)) zq32 (by have := hok.m (by omega) jr (by omega); omega) (Nat.lt_of_le_of_lt (Nat.mul_le_mul (show σ 1 jr ≤ 2 ^ 14 by have := hok.m (by omega) jr (by omega); omega) (show gg ≤ 9 by omega)) (by decide))) ?_
        refine wq_istore_n (pc := 61) (L2 := [_, _, _, _]) (i := 3) d_137_61 rfl (Nat.le_of_ble_eq_true rfl) rfl rfl ?_
        refine wp_aload_n (pc := 62) (i := 0) d_137_62 rfl rfl ?_
        refine wp_gA (pc := 63) d_137_63 fl_10_19 rfl ft_9_4 (F_173_4 hF) ?_
        refine wp_iload_n (pc := 66) (i := 1) d_137_66 rfl rfl ?_
        refine wp_dup2a (pc := 67) d_137_67 rfl rfl ?_
        refine wp_aL (pc := 68) (j := jr) d_137_68 rfl rfl (by omega) (by decide) ((congrFun (hk3 177 (by decide) (by decide)) _).trans (mW00 hNo.1 (show jr < 6 by omega))) ?_
        refine wp_iload_n (pc := 69) (i := 2) d_137_69 rfl rfl ?_
        refine wp_isubN (pc := 70) d_137_70 (by omega) ?_
        refine wp_aS (pc := 71) (j := jr) d_137_71 rfl rfl (by omega) (by decide) (fun Iq71 uq71 => ?_)
        refine wp_aload_n (pc := 72) (i := 0) d_137_72 rfl rfl ?_
        refine wp_gA (pc := 73) d_137_73 fl_10_19 rfl ft_9_4 (F_173_4 hF) ?_
        refine wp_bpN (pc := 76) (m := 6) d_137_76 (by decide) ?_
        refine wp_iload_n (pc := 78) (i := 1) d_137_78 rfl rfl ?_
        refine wp_iaddN (pc := 79) d_137_79 ?_
        refine wp_dup2a (pc := 80) d_137_80 rfl rfl ?_
        refine wp_aL (pc := 81) (j := (6 + jr)) d_137_81 rfl rfl (by omega) (by decide) ((uq71.ne (by omega)).trans ((congrFun (hk3 177 (by decide) (by decide)) _).trans (mW0 hNo.1 (show 1 < 4 by decide) (show jr < 6 by omega)))) ?_
        refine wp_iload_n (pc := 82) (i := 3) d_137_82 rfl rfl ?_
        refine wp_isubN (pc := 83) d_137_83 (alg_le _ _ _) ?_
        refine wp_aS (pc := 84) (j := (6 + jr)) d_137_84 rfl rfl (by omega) (by decide) (fun Iq84 uq84 => ?_)
        refine wp_iload_n (pc := 85) (i := 3) d_137_85 rfl rfl ?_
        have h173 : Iq84 173 = Iq39 173 := by rw [uq84.2 173 (by decide), uq71.2 173 (by decide)]
        have harr : ∀ a, a ≠ 173 → a ≠ 177 → a ≠ 179 → Iq84 a = I a := fun a h1 h2 h3 => by rw [uq84.2 a h2, uq71.2 a h2, hk3 a h1 h3]
        have hN2 : mNo Iq84 (tkN σ jr gg) := ⟨mW_take (by omega) hNo.1 ((uq84.ne (by omega)).trans uq71.at) uq84.at (fun q h1 h2 => by rw [uq84.ne h2, uq71.ne h1, (hk3 177 (by decide) (by decide))]), by rw [tk4, h173, hk2 7 (by decide) (by decide)]; exact hNo.2.1, by rw [tk4, h173, hk2 6 (by decide) (by decide)]; exact hNo.2.2⟩
        have h179 : Iq84 179 = Iq39 179 := by rw [uq84.2 179 (by decide), uq71.2 179 (by decide)]
        exact wp_iret (pc := 86) d_137_86 (Or.inl rfl) (PN.mk (by unfold q_pail; rw [if_pos zq5, if_pos zq19, hcjr, hcgg, if_neg (Nat.not_lt.mpr zq32)]) ⟨⟨((congrFun h173 9).trans (hk2 9 (by decide) (by decide))).trans hTx.1, fun j hj => by rw [harr 178 (by decide) (by decide) (by decide)]; exact hTx.2 j hj⟩, hRo.k ((congrFun h173 5).trans (hk2 5 (by decide) (by decide))) (by rw [harr 176 (by decide) (by decide) (by decide)]), hN2, ⟨by rw [h173]; exact hk1.1, by rw [h173]; exact hk1.2.1, by rw [h179]; exact hk1.2.2⟩, ⟨hGa.1, ((congrFun h173 19).trans (hk2 19 (by decide) (by decide))).trans hGa.2.1, by rw [harr 183 (by decide) (by decide) (by decide), harr 184 (by decide) (by decide) (by decide), harr 185 (by decide) (by decide) (by decide)]; exact hGa.2.2⟩, ⟨by rw [harr 187 (by decide) (by decide) (by decide)]; exact hSl.1, by rw [harr 186 (by decide) (by decide) (by decide)]; exact hSl.2⟩, hsd⟩ ⟨fun a ha => harr a (by omega) (by omega) (by omega), rfl⟩)
      · refine wp_bipush (pc := 35) (v := (-3)) d_137_35 (by decide) ?_
        exact wp_iret (pc := 37) d_137_37 (Or.inl rfl) (PN.mk (by unfold q_pail; rw [if_pos zq5, if_pos zq19, hcjr, hcgg, if_pos zq32]) hC0 ⟨fun _ _ => rfl, rfl⟩)
    · refine wp_bipush (pc := 22) (v := (-2)) d_137_22 (by decide) ?_
      exact wp_iret (pc := 24) d_137_24 (Or.inl rfl) (PN.mk (by unfold q_pail; rw [if_pos zq5, if_neg (nT zq19)]) hC0 ⟨fun _ _ => rfl, rfl⟩)
  · refine wp_iconst (pc := 8) (v := (-1)) d_137_8 (by decide) ?_
    exact wp_iret (pc := 9) d_137_9 (Or.inl rfl) (PN.mk (by unfold q_pail; rw [if_neg (nT zq5)]) hC0 ⟨fun _ _ => rfl, rfl⟩)
set_option maxRecDepth 4000 in
theorem m_gsoap {I : IT} {J : JT} {F : FT} {t : Nat} {tx : Nat → Nat} {tl : Nat} {ρ : SN} {n : Nat} {σ : SN} {rg : Nat → SN} {nx na : Nat} {γ : SN} {gn : Nat} {sl : Nat → SN} {sf : Nat → Bool} {sd : Int64} (hF : Fok F) (hC : MR I J tx tl ρ n σ rg nx na γ gn sl sf sd) (hO : OKS t tx tl ρ n σ rg nx na γ gn sl sf) (ht : t + 100 ≤ 1000) {x y : Int32} : Sp 138 [vR 173, vI x, vI y] KK I J F (PN (q_soap tx tl ρ n σ rg nx na γ gn sl sf sd x y) I J F) := by
  have hC0 := hC
  obtain ⟨hTx, hRo, hNo, hAc, hGa, hSl, hsd⟩ := hC
  obtain ⟨ht40, hx256, hρ, hok, hrg, hnx, hna, hgo, hsl, hz, hzr, hzs, hn6⟩ := hO
  have hd64 := hok.2.2.2.2.2
  have hgn6 := hGa.1
  refine Sp.mk2 (Nat.le_of_ble_eq_true rfl) (L2 := [_, _, _]) rfl ?_
  refine wp_aload_n (pc := 0) (i := 0) d_138_0 rfl rfl ?_
  refine wp_iload_n (pc := 1) (i := 1) d_138_1 rfl rfl ?_
  refine wp_callV1p (pc := 2) d_138_2 lk_10_99 (by decide) rfl (Nat.le_of_ble_eq_true rfl) rfl rfl (m_isRoof hF hRo x) ?_
  refine wp_ifB_ne (pc := 5) (tgt := 10) d_138_5 (by decide) (fun zq5 => ?_) (fun zq5 => ?_)
  · obtain ⟨jr, hjr, hxjr⟩ := inR_t zq5 (by omega)
    subst hxjr
    have hcjr : (nI jr).toNatClampNeg = jr := nI_clamp (by omega)
    refine wp_iload_n (pc := 10) (i := 2) d_138_10 rfl rfl ?_
    refine wp_i2l (pc := 11) d_138_11 ?_
    refine wp_lconst (pc := 12) (v := lN 1) d_138_12 (by decide) ?_
    refine wr_ldc2M (pc := 13) (m := 9) d_138_13 cs_10_74 (by decide) ?_
    refine wp_callS3p (pc := 16) d_138_16 lk_10_59 (by decide) rfl (Nat.le_of_ble_eq_true rfl) (c_inN y 1 9 (by decide) (by decide)) ?_
    refine wp_ifB_ne (pc := 19) (tgt := 25) d_138_19 (by decide) (fun zq19 => ?_) (fun zq19 => ?_)
    · obtain ⟨gg, h0gg, h1gg, hxgg⟩ := inB_t zq19 (by decide) (by decide)
      subst hxgg
      have hcgg : (nI gg).toNatClampNeg = gg := nI_clamp (by omega)
      refine wp_aload_n (pc := 25) (i := 0) d_138_25 rfl rfl ?_
      refine wp_gA (pc := 26) d_138_26 fl_10_19 rfl ft_9_4 (F_173_4 hF) ?_
      refine wp_iload_n (pc := 29) (i := 1) d_138_29 rfl rfl ?_
      refine wp_aL (pc := 30) (j := jr) d_138_30 rfl rfl (by omega) (by decide) (mW00 hNo.1 (show jr < 6 by omega)) ?_
      refine wp_ifN_ne (pc := 31) (tgt := 37) d_138_31 (by decide) (by have := hok.m (by omega) jr (by omega); omega) (fun zq31 => ?_) (fun zq31 => ?_)
      · refine wp_aload_n (pc := 37) (i := 0) d_138_37 rfl rfl ?_
        refine wp_gA (pc := 38) d_138_38 fl_10_19 rfl ft_9_4 (F_173_4 hF) ?_
        refine wp_bpN (pc := 41) (m := 6) d_138_41 (by decide) ?_
        refine wp_iload_n (pc := 43) (i := 1) d_138_43 rfl rfl ?_
        refine wp_iaddN (pc := 44) d_138_44 ?_
        refine wp_aL (pc := 45) (j := (6 + jr)) d_138_45 rfl rfl (by omega) (by decide) (mW0 hNo.1 (show 1 < 4 by decide) (show jr < 6 by omega)) ?_
        refine wp_iload_n (pc := 46) (i := 2) d_138_46 rfl rfl ?_
        refine wp_iaddN (pc := 47) d_138_47 ?_
        refine wp_bpN (pc := 48) (m := 99) d_138_48 (by decide) ?_
        refine wp_icmpN_le (pc := 50) (tgt := 56) d_138_50 (by decide) (by have := hok.m (by omega) jr (by omega); omega) (by decide) (fun zq50 => ?_) (fun zq50 => ?_)
        · refine wp_aload_n (pc := 56) (i := 0) d_138_56 rfl rfl ?_
          refine wp_callV0v (pc := 57) d_138_57 lk_10_118 (by decide) rfl (Nat.le_of_ble_eq_true rfl) rfl rfl (m_keepAct hF hAc hNo hnx hna) (fun Iq57 hq57 => ?_)
          obtain ⟨hk1, hk2, hk3⟩ := hq57
          refine wp_aload_n (pc := 60) (i := 0) d_138_60 rfl rfl ?_
          refine wp_gA (pc := 61) d_138_61 fl_10_19 rfl ft_9_4 (F_173_4 hF) ?_
          refine wp_bpN (pc := 64) (m := 6) d_138_64 (by decide) ?_
          refine wp_iload_n (pc := 66) (i := 1) d_138_66 rfl rfl ?_
          refine wp_iaddN (pc := 67) d_138_67 ?_
          refine wp_dup2a (pc := 68) d_138_68 rfl rfl ?_
          refine wp_aL (pc := 69) (j := (6 + jr)) d_138_69 rfl rfl (by omega) (by decide) ((congrFun (hk3 177 (by decide) (by decide)) _).trans (mW0 hNo.1 (show 1 < 4 by decide) (show jr < 6 by omega))) ?_
          refine wp_iload_n (pc := 70) (i := 2) d_138_70 rfl rfl ?_
          refine wp_iaddN (pc := 71) d_138_71 ?_
          refine wp_aS (pc := 72) (j := (6 + jr)) d_138_72 rfl rfl (by omega) (by decide) (fun Iq72 uq72 => ?_)
          refine wp_aload_n (pc := 73) (i := 0) d_138_73 rfl rfl ?_
          refine wp_gA (pc := 74) d_138_74 fl_10_19 rfl ft_9_4 (F_173_4 hF) ?_
          refine wp_bpN (pc := 77) (m := 6) d_138_77 (by decide) ?_
          refine wp_iload_n (pc := 79) (i := 1) d_138_79 rfl rfl ?_
          refine wp_iaddN (pc := 80) d_138_80 ?_
          refine wp_aL (pc := 81) (j := (6 + jr)) d_138_81 rfl rfl (by omega) (by decide) uq72.at ?_
          have hN2 : mNo Iq72 (s2 σ 1 jr (σ 1 jr + gg)) := ⟨mW_s1 (by omega) hNo.1 uq72.at (fun q h1 => by rw [uq72.ne h1, (hk3 177 (by decide) (by decide))]), by rw [s2_nk (by decide), uq72.2 173 (by decide), hk2 7 (by decide) (by decide)]; exact hNo.2.1, by rw [s2_nk (by decide), uq72.2 173 (by decide), hk2 6 (by decide) (by decide)]; exact hNo.2.2⟩
          have harr : ∀ a, a ≠ 173 → a ≠ 177 → a ≠ 179 → Iq72 a = I a := fun a h1 h2 h3 => by rw [uq72.2 a h2, hk3 a h1 h3]
          exact wp_iret (pc := 82) d_138_82 (Or.inl rfl) (PN.mk (by unfold q_soap; rw [if_pos zq5, if_pos zq19, hcjr, hcgg, if_neg (show ¬ σ 0 jr < 1 by omega), if_neg (show ¬ 99 - gg < σ 1 jr by omega)]) ⟨⟨((congrFun (uq72.2 173 (by decide)) 9).trans (hk2 9 (by decide) (by decide))).trans hTx.1, fun j hj => by rw [harr 178 (by decide) (by decide) (by decide)]; exact hTx.2 j hj⟩, hRo.k ((congrFun (uq72.2 173 (by decide)) 5).trans (hk2 5 (by decide) (by decide))) (by rw [harr 176 (by decide) (by decide) (by decide)]), hN2, ⟨by rw [uq72.2 173 (by decide)]; exact hk1.1, by rw [uq72.2 173 (by decide)]; exact hk1.2.1, by rw [uq72.2 179 (by decide)]; exact hk1.2.2⟩, ⟨hGa.1, ((congrFun (uq72.2 173 (by decide)) 19).trans (hk2 19 (by decide) (by decide))).trans hGa.2.1, by rw [harr 183 (by decide) (by decide) (by decide), harr 184 (by decide) (by decide) (by decide), harr 185 (by decide) (by decide) (by decide)]; exact hGa.2.2⟩, ⟨by rw [harr 187 (by decide) (by decide) (by decide)]; exact hSl.1, by rw [harr 186 (by decide) (by decide) (by decide)]; exact hSl.2⟩, hsd⟩ ⟨fun a ha => harr a (by omega) (by omega) (by omega), rfl⟩)
        · refine wp_bipush (pc := 53) (v := (-4)) d_138_53 (by decide) ?_
          exact wp_iret (pc := 55) d_138_55 (Or.inl rfl) (PN.mk (by unfold q_soap; rw [if_pos zq5, if_pos zq19, hcjr, hcgg, if_neg (show ¬ σ 0 jr < 1 by omega), if_pos (show 99 - gg < σ 1 jr by omega)]) hC0 ⟨fun _ _ => rfl, rfl⟩)
      · refine wp_bipush (pc := 34) (v := (-3)) d_138_34 (by decide) ?_
        exact wp_iret (pc := 36) d_138_36 (Or.inl rfl) (PN.mk (by unfold q_soap; rw [if_pos zq5, if_pos zq19, hcjr, hcgg, if_pos (show σ 0 jr < 1 by omega)]) hC0 ⟨fun _ _ => rfl, rfl⟩)
    · refine wp_bipush (pc := 22) (v := (-2)) d_138_22 (by decide) ?_
      exact wp_iret (pc := 24) d_138_24 (Or.inl rfl) (PN.mk (by unfold q_soap; rw [if_pos zq5, if_neg (nT zq19)]) hC0 ⟨fun _ _ => rfl, rfl⟩)
  · refine wp_iconst (pc := 8) (v := (-1)) d_138_8 (by decide) ?_
    exact wp_iret (pc := 9) d_138_9 (Or.inl rfl) (PN.mk (by unfold q_soap; rw [if_neg (nT zq5)]) hC0 ⟨fun _ _ => rfl, rfl⟩)
