def prI (n : Nat) (x y : Int32) : Int32 := if inB x (nI 1) (nI 3) = true then (if inB y (nI 0) (nI 9) = true then (if 4 < n then -3 else nI 0) else -2) else -2
theorem prI_0 {n : Nat} {x y : Int32} (h : prI n x y = 0) : inB x (nI 1) (nI 3) = true ∧ inB y (nI 0) (nI 9) = true ∧ n ≤ 4 := by
  unfold prI at h
  by_cases h1 : inB x (nI 1) (nI 3) = true
  · rw [if_pos h1] at h
    by_cases h2 : inB y (nI 0) (nI 9) = true
    · rw [if_pos h2] at h
      by_cases h3 : 4 < n
      · rw [if_pos h3] at h; exact absurd h (by decide)
      · exact ⟨h1, h2, by omega⟩
    · rw [if_neg h2] at h; exact absurd h (by decide)
  · rw [if_neg h1] at h; exact absurd h (by decide)
set_option maxRecDepth 4000 in
theorem c_planRefusal {I : IT} {J : JT} {F : FT} {n : Nat} {ρ : SN} {x y : Int32} (hF : Fok F) (hR : atR I 12 ρ n) : Sp 105 [vR 1, vI x, vI y] KK I J F (fun R => R = (some (vI (prI n x y)), KK, I, J, F)) := by
  refine Sp.mk2 (Nat.le_of_ble_eq_true rfl) (L2 := [_, _, _]) rfl ?_
  refine wp_iload_n (pc := 0) (i := 1) d_105_0 rfl rfl ?_
  refine wp_icN (pc := 1) (m := 1) d_105_1 (by decide) ?_
  refine wp_icN (pc := 2) (m := 3) d_105_2 (by decide) ?_
  refine wp_callS3p (pc := 3) d_105_3 lk_9_168 (by decide) rfl (Nat.le_of_ble_eq_true rfl) (c_isWithin x (nI 1) (nI 3)) ?_
  refine wp_ifB_eq (pc := 6) (tgt := 16) d_105_6 (by decide) (fun zq6 => ?_) (fun zq6 => ?_)
  · refine wp_bipush (pc := 16) (v := (-2)) d_105_16 (by decide) ?_
    exact wp_iret (pc := 18) d_105_18 (Or.inl rfl) (by unfold prI; rw [if_neg (nT zq6)])
  · refine wp_iload_n (pc := 9) (i := 2) d_105_9 rfl rfl ?_
    refine wp_callS1p (pc := 10) d_105_10 lk_9_157 (by decide) rfl (Nat.le_of_ble_eq_true rfl) (c_isRain y) ?_
    refine wp_ifB_ne (pc := 13) (tgt := 19) d_105_13 (by decide) (fun zq13 => ?_) (fun zq13 => ?_)
    · refine wp_aload_n (pc := 19) (i := 0) d_105_19 rfl rfl ?_
      refine wp_gA (pc := 20) d_105_20 fl_9_26 rfl ft_8_2 (F_1_2 hF) ?_
      refine wp_callV0p (pc := 23) d_105_23 lk_9_109 (by decide) rfl (Nat.le_of_ble_eq_true rfl) (kR isR12) rfl (c_Rnumber isR12 hR) ?_
      refine wp_icN (pc := 26) (m := 4) d_105_26 (by decide) ?_
      refine wp_icmpN_le (pc := 27) (tgt := 35) d_105_27 (by decide) (by have := hR.1; omega) (by decide) (fun zq27 => ?_) (fun zq27 => ?_)
      · refine wp_icN (pc := 35) (m := 0) d_105_35 (by decide) ?_
        exact wp_iret (pc := 36) d_105_36 (Or.inl rfl) (by unfold prI; rw [if_pos zq6, if_pos zq13, if_neg (Nat.not_lt.mpr zq27)])
      · refine wp_bipush (pc := 30) (v := (-3)) d_105_30 (by decide) ?_
        refine wp_goto (pc := 32) (tgt := 36) d_105_32 (by decide) ?_
        exact wp_iret (pc := 36) d_105_36 (Or.inl rfl) (by unfold prI; rw [if_pos zq6, if_pos zq13, if_pos zq27])
    · refine wp_bipush (pc := 16) (v := (-2)) d_105_16 (by decide) ?_
      exact wp_iret (pc := 18) d_105_18 (Or.inl rfl) (by unfold prI; rw [if_pos zq6, if_neg (nT zq13)])
def a_plan (ρ : SN) (n : Nat) (σ : SN) (x y : Int32) : Int32 := if prI n x y = 0 then nI (plN (cntP ρ n y.toNatClampNeg σ x.toNatClampNeg) ((2 ^ min (n * (x.toNatClampNeg - 1)) 8) - 1)).2 else prI n x y
def a_planAt (ρ : SN) (n : Nat) (σ : SN) (x y z : Int32) : Int32 := if prI n x y = 0 then (if inB z (nI 0) (nI (x.toNatClampNeg - 1)) = true then nI (dgN n ((plN (cntP ρ n y.toNatClampNeg σ x.toNatClampNeg) ((2 ^ min (n * (x.toNatClampNeg - 1)) 8) - 1)).1 * 2 ^ n) (x.toNatClampNeg - 1 - z.toNatClampNeg)) else -9) else prI n x y
set_option maxRecDepth 4000 in
theorem c_gplan {I : IT} {J : JT} {F : FT} {t : Nat} {tx : Nat → Nat} {tl : Nat} {ρ : SN} {n : Nat} {σ : SN} {rg : Nat → SN} {nx na : Nat} {γ : SN} {gn : Nat} {sl : Nat → SN} {sf : Nat → Bool} {sd : Int64} (hF : Fok F) (hC : CR I J tx tl ρ n σ rg nx na γ gn sl sf sd) (hO : OKS t tx tl ρ n σ rg nx na γ gn sl sf) (ht : t + 100 ≤ 1000) {x y : Int32} : Sp 104 [vR 1, vI x, vI y] KK I J F (PQ (a_plan ρ n σ x y, (tx, tl, ρ, n, σ, rg, nx, na, γ, gn, sl, sf, sd)) I J F) := by
  have hC0 := hC
  obtain ⟨hCT, hR, hA, hCA, hG, hCS, hsd⟩ := hC
  obtain ⟨ht40, hx256, hρ, hok, hrg, hnx, hna, hgo, hsl, hz, hzr, hzs, hn6⟩ := hO
  refine Sp.mk2 (Nat.le_of_ble_eq_true rfl) (L2 := [_, _, _, _]) rfl ?_
  refine wp_aload_n (pc := 0) (i := 0) d_104_0 rfl rfl ?_
  refine wp_iload_n (pc := 1) (i := 1) d_104_1 rfl rfl ?_
  refine wp_iload_n (pc := 2) (i := 2) d_104_2 rfl rfl ?_
  refine wp_callV2p (pc := 3) d_104_3 lk_9_200 (by decide) rfl (Nat.le_of_ble_eq_true rfl) rfl rfl (c_planRefusal hF hR) ?_
  refine wq_istore_n (pc := 6) (L2 := [_, _, _, _]) (i := 3) d_104_6 rfl (Nat.le_of_ble_eq_true rfl) rfl rfl ?_
  refine wp_iload_n (pc := 7) (i := 3) d_104_7 rfl rfl ?_
  refine wp_if_eq (pc := 8) (tgt := 13) d_104_8 (by decide) (fun zq8 => ?_) (fun zq8 => ?_)
  · obtain ⟨hb1, hb2, hn4⟩ := prI_0 zq8
    obtain ⟨jq, h0jq, h1jq, hxjq⟩ := inB_t hb1 (by decide) (by decide)
    subst hxjq
    have hcjq : (nI jq).toNatClampNeg = jq := nI_clamp (by omega)
    obtain ⟨rn, h0rn, h1rn, hxrn⟩ := inB_t hb2 (by decide) (by decide)
    subst hxrn
    have hcrn : (nI rn).toNatClampNeg = rn := nI_clamp (by omega)
    refine wp_aload_n (pc := 13) (i := 0) d_104_13 rfl rfl ?_
    refine wp_gA (pc := 14) d_104_14 fl_9_49 rfl ft_8_5 (F_1_5 hF) ?_
    refine wp_iload_n (pc := 17) (i := 1) d_104_17 rfl rfl ?_
    refine wp_iload_n (pc := 18) (i := 2) d_104_18 rfl rfl ?_
    refine wp_callV2v (pc := 19) d_104_19 lk_9_203 (by decide) rfl (Nat.le_of_ble_eq_true rfl) rfl rfl (c_makePlan hF hρ (by omega) hok (by omega) hn4 h0jq h1jq hA hR) (fun Iq19 hq19 => ?_)
    refine wp_aload_n (pc := 22) (i := 0) d_104_22 rfl rfl ?_
    refine wp_gA (pc := 23) d_104_23 fl_9_49 rfl ft_8_5 (F_1_5 hF) ?_
    refine wp_callV0p (pc := 26) d_104_26 lk_9_207 (by decide) rfl (Nat.le_of_ble_eq_true rfl) rfl rfl (c_contentByPlan hq19.2.1) ?_
    exact wp_iret (pc := 29) d_104_29 (Or.inl rfl) (PQ.q (by unfold a_plan; rw [if_pos zq8, hcjq, hcrn]) (hC0.k (SCR.P hq19.2.2)) (SCR.P hq19.2.2).O)
  · refine wp_iload_n (pc := 11) (i := 3) d_104_11 rfl rfl ?_
    exact wp_iret (pc := 12) d_104_12 (Or.inl rfl) (PQ.q (by unfold a_plan; rw [if_neg zq8]) hC0 ⟨fun _ _ => rfl, rfl⟩)
set_option maxRecDepth 4000 in
theorem c_gplanAt {I : IT} {J : JT} {F : FT} {t : Nat} {tx : Nat → Nat} {tl : Nat} {ρ : SN} {n : Nat} {σ : SN} {rg : Nat → SN} {nx na : Nat} {γ : SN} {gn : Nat} {sl : Nat → SN} {sf : Nat → Bool} {sd : Int64} (hF : Fok F) (hC : CR I J tx tl ρ n σ rg nx na γ gn sl sf sd) (hO : OKS t tx tl ρ n σ rg nx na γ gn sl sf) (ht : t + 100 ≤ 1000) {x y z : Int32} : Sp 106 [vR 1, vI x, vI y, vI z] KK I J F (PQ (a_planAt ρ n σ x y z, (tx, tl, ρ, n, σ, rg, nx, na, γ, gn, sl, sf, sd)) I J F) := by
  have hC0 := hC
  obtain ⟨hCT, hR, hA, hCA, hG, hCS, hsd⟩ := hC
  obtain ⟨ht40, hx256, hρ, hok, hrg, hnx, hna, hgo, hsl, hz, hzr, hzs, hn6⟩ := hO
  refine Sp.mk2 (Nat.le_of_ble_eq_true rfl) (L2 := [_, _, _, _, _]) rfl ?_
  refine wp_aload_n (pc := 0) (i := 0) d_106_0 rfl rfl ?_
  refine wp_iload_n (pc := 1) (i := 1) d_106_1 rfl rfl ?_
  refine wp_iload_n (pc := 2) (i := 2) d_106_2 rfl rfl ?_
  refine wp_callV2p (pc := 3) d_106_3 lk_9_200 (by decide) rfl (Nat.le_of_ble_eq_true rfl) rfl rfl (c_planRefusal hF hR) ?_
  refine wq_istore (pc := 6) (L2 := [_, _, _, _, _]) d_106_6 (Nat.le_of_ble_eq_true rfl) rfl rfl ?_
  refine wp_iload (pc := 8) d_106_8 rfl ?_
  refine wp_if_eq (pc := 10) (tgt := 16) d_106_10 (by decide) (fun zq10 => ?_) (fun zq10 => ?_)
  · obtain ⟨hb1, hb2, hn4⟩ := prI_0 zq10
    obtain ⟨jq, h0jq, h1jq, hxjq⟩ := inB_t hb1 (by decide) (by decide)
    subst hxjq
    have hcjq : (nI jq).toNatClampNeg = jq := nI_clamp (by omega)
    obtain ⟨rn, h0rn, h1rn, hxrn⟩ := inB_t hb2 (by decide) (by decide)
    subst hxrn
    have hcrn : (nI rn).toNatClampNeg = rn := nI_clamp (by omega)
    refine wp_iload_n (pc := 16) (i := 3) d_106_16 rfl rfl ?_
    refine wp_icN (pc := 17) (m := 0) d_106_17 (by decide) ?_
    refine wp_iload_n (pc := 18) (i := 1) d_106_18 rfl rfl ?_
    refine wp_icN (pc := 19) (m := 1) d_106_19 (by decide) ?_
    refine wp_isubN (pc := 20) d_106_20 h0jq ?_
    refine wp_callS3p (pc := 21) d_106_21 lk_9_168 (by decide) rfl (Nat.le_of_ble_eq_true rfl) (c_isWithin z (nI 0) (nI (jq - 1))) ?_
    refine wp_ifB_ne (pc := 24) (tgt := 30) d_106_24 (by decide) (fun zq24 => ?_) (fun zq24 => ?_)
    · obtain ⟨ji, h0ji, h1ji, hxji⟩ := inB_t zq24 (by decide) (by omega)
      subst hxji
      have hcji : (nI ji).toNatClampNeg = ji := nI_clamp (by omega)
      have hP31 : (plN (cntP ρ n rn σ jq) ((2 ^ min (n * (jq - 1)) 8) - 1)).1 * 2 ^ n < 2 ^ 31 := by
        have g1 := plN_le (cntP ρ n rn σ jq) ((2 ^ min (n * (jq - 1)) 8) - 1)
        have g2 : 2 ^ min (n * (jq - 1)) 8 ≤ 2 ^ 8 := Nat.pow_le_pow_right (by decide) (Nat.min_le_right _ _)
        have g3 : 2 ^ n ≤ 2 ^ 4 := Nat.pow_le_pow_right (by decide) hn4
        exact Nat.lt_of_le_of_lt (Nat.mul_le_mul (show _ ≤ 256 by omega) g3) (by decide)
      have hw32 : n * (jq - 1 - ji) < 32 := Nat.lt_of_le_of_lt (Nat.mul_le_mul hn4 (show jq - 1 - ji ≤ 2 by omega)) (by decide)
      refine wp_aload_n (pc := 30) (i := 0) d_106_30 rfl rfl ?_
      refine wp_gA (pc := 31) d_106_31 fl_9_49 rfl ft_8_5 (F_1_5 hF) ?_
      refine wp_iload_n (pc := 34) (i := 1) d_106_34 rfl rfl ?_
      refine wp_iload_n (pc := 35) (i := 2) d_106_35 rfl rfl ?_
      refine wp_callV2v (pc := 36) d_106_36 lk_9_203 (by decide) rfl (Nat.le_of_ble_eq_true rfl) rfl rfl (c_makePlan hF hρ (by omega) hok (by omega) hn4 h0jq h1jq hA hR) (fun Iq36 hq36 => ?_)
      refine wp_aload_n (pc := 39) (i := 0) d_106_39 rfl rfl ?_
      refine wp_gA (pc := 40) d_106_40 fl_9_49 rfl ft_8_5 (F_1_5 hF) ?_
      refine wp_iload_n (pc := 43) (i := 1) d_106_43 rfl rfl ?_
      refine wp_iload_n (pc := 44) (i := 3) d_106_44 rfl rfl ?_
      refine wp_callV2p (pc := 45) d_106_45 lk_9_210 (by decide) rfl (Nat.le_of_ble_eq_true rfl) rfl rfl (c_damsInPlan hF hq36.1 hP31 (by omega) hn6 hw32 (atR_keep hR (fun a _ _ => hq36.2.2 a (by omega) (by omega)))) ?_
      exact wp_iret (pc := 48) d_106_48 (Or.inl rfl) (PQ.q (by unfold a_planAt; rw [if_pos zq10, hcjq, hcrn, if_pos zq24, hcji]) (hC0.k (SCR.P hq36.2.2)) (SCR.P hq36.2.2).O)
    · refine wp_bipush (pc := 27) (v := (-9)) d_106_27 (by decide) ?_
      exact wp_iret (pc := 29) d_106_29 (Or.inl rfl) (PQ.q (by unfold a_planAt; rw [if_pos zq10, hcjq, if_neg (nT zq24)]) hC0 ⟨fun _ _ => rfl, rfl⟩)
  · refine wp_iload (pc := 13) d_106_13 rfl ?_
    exact wp_iret (pc := 15) d_106_15 (Or.inl rfl) (PQ.q (by unfold a_planAt; rw [if_neg zq10]) hC0 ⟨fun _ _ => rfl, rfl⟩)
def q_gauge (tx : Nat → Nat) (tl : Nat) (ρ : SN) (n : Nat) (σ : SN) (rg : Nat → SN) (nx na : Nat) (γ : SN) (gn : Nat) (sl : Nat → SN) (sf : Nat → Bool) (sd : Int64) (x y z : Int32) : Int32 × SS := if inB x (nI 1) (nI 6) = true then (if inB y (nI 0) (nI 9) = true then (if inB z (nI 0) (nI 999) = true then (if gn < 6 then (nI (gn + 1), (tx, tl, ρ, n, σ, rg, nx, na, addG γ gn x.toNatClampNeg y.toNatClampNeg z.toNatClampNeg, (gn + 1), sl, sf, sd)) else (-4, (tx, tl, ρ, n, σ, rg, nx, na, γ, gn, sl, sf, sd))) else (-2, (tx, tl, ρ, n, σ, rg, nx, na, γ, gn, sl, sf, sd))) else (-2, (tx, tl, ρ, n, σ, rg, nx, na, γ, gn, sl, sf, sd))) else (-2, (tx, tl, ρ, n, σ, rg, nx, na, γ, gn, sl, sf, sd))
set_option maxRecDepth 4000 in
theorem c_ggauge {I : IT} {J : JT} {F : FT} {t : Nat} {tx : Nat → Nat} {tl : Nat} {ρ : SN} {n : Nat} {σ : SN} {rg : Nat → SN} {nx na : Nat} {γ : SN} {gn : Nat} {sl : Nat → SN} {sf : Nat → Bool} {sd : Int64} (hF : Fok F) (hC : CR I J tx tl ρ n σ rg nx na γ gn sl sf sd) (hO : OKS t tx tl ρ n σ rg nx na γ gn sl sf) (ht : t + 100 ≤ 1000) {x y z : Int32} : Sp 108 [vR 1, vI x, vI y, vI z] KK I J F (PQ (q_gauge tx tl ρ n σ rg nx na γ gn sl sf sd x y z) I J F) := by
  have hC0 := hC
  obtain ⟨hCT, hR, hA, hCA, hG, hCS, hsd⟩ := hC
  obtain ⟨ht40, hx256, hρ, hok, hrg, hnx, hna, hgo, hsl, hz, hzr, hzs, hn6⟩ := hO
  refine Sp.mk2 (Nat.le_of_ble_eq_true rfl) (L2 := [_, _, _, _]) rfl ?_
  refine wp_iload_n (pc := 0) (i := 1) d_108_0 rfl rfl ?_
  refine wp_icN (pc := 1) (m := 1) d_108_1 (by decide) ?_
  refine wp_bpN (pc := 2) (m := 6) d_108_2 (by decide) ?_
  refine wp_callS3p (pc := 4) d_108_4 lk_9_168 (by decide) rfl (Nat.le_of_ble_eq_true rfl) (c_isWithin x (nI 1) (nI 6)) ?_
  refine wp_ifB_eq (pc := 7) (tgt := 28) d_108_7 (by decide) (fun zq7 => ?_) (fun zq7 => ?_)
  · refine wp_bipush (pc := 28) (v := (-2)) d_108_28 (by decide) ?_
    exact wp_iret (pc := 30) d_108_30 (Or.inl rfl) (PQ.mk (by unfold q_gauge; rw [if_neg (nT zq7)]) hC0 ⟨fun _ _ => rfl, rfl⟩)
  · obtain ⟨jq, h0jq, h1jq, hxjq⟩ := inB_t zq7 (by decide) (by decide)
    subst hxjq
    have hcjq : (nI jq).toNatClampNeg = jq := nI_clamp (by omega)
    refine wp_iload_n (pc := 10) (i := 2) d_108_10 rfl rfl ?_
    refine wp_callS1p (pc := 11) d_108_11 lk_9_157 (by decide) rfl (Nat.le_of_ble_eq_true rfl) (c_isRain y) ?_
    refine wp_ifB_eq (pc := 14) (tgt := 28) d_108_14 (by decide) (fun zq14 => ?_) (fun zq14 => ?_)
    · refine wp_bipush (pc := 28) (v := (-2)) d_108_28 (by decide) ?_
      exact wp_iret (pc := 30) d_108_30 (Or.inl rfl) (PQ.mk (by unfold q_gauge; rw [if_pos zq7, if_neg (nT zq14)]) hC0 ⟨fun _ _ => rfl, rfl⟩)
    · obtain ⟨rn, h0rn, h1rn, hxrn⟩ := inB_t zq14 (by decide) (by decide)
      subst hxrn
      have hcrn : (nI rn).toNatClampNeg = rn := nI_clamp (by omega)
      refine wp_iload_n (pc := 17) (i := 3) d_108_17 rfl rfl ?_
      refine wp_icN (pc := 18) (m := 0) d_108_18 (by decide) ?_
      refine wp_spN (pc := 19) (m := 999) d_108_19 (by decide) ?_
      refine wp_callS3p (pc := 22) d_108_22 lk_9_168 (by decide) rfl (Nat.le_of_ble_eq_true rfl) (c_isWithin z (nI 0) (nI 999)) ?_
      refine wp_ifB_ne (pc := 25) (tgt := 31) d_108_25 (by decide) (fun zq25 => ?_) (fun zq25 => ?_)
      · obtain ⟨jw, h0jw, h1jw, hxjw⟩ := inB_t zq25 (by decide) (by decide)
        subst hxjw
        have hcjw : (nI jw).toNatClampNeg = jw := nI_clamp (by omega)
        refine wp_aload_n (pc := 31) (i := 0) d_108_31 rfl rfl ?_
        refine wp_gA (pc := 32) d_108_32 fl_9_56 rfl ft_8_6 (F_1_6 hF) ?_
        refine wp_callV0p (pc := 35) d_108_35 lk_9_216 (by decide) rfl (Nat.le_of_ble_eq_true rfl) rfl rfl (c_GhasRoom hG.2.1 hG.1) ?_
        refine wp_ifB_ne (pc := 38) (tgt := 44) d_108_38 (by decide) (fun zq38 => ?_) (fun zq38 => ?_)
        · have hg6 : gn < 6 := of_decide_eq_true zq38
          refine wp_aload_n (pc := 44) (i := 0) d_108_44 rfl rfl ?_
          refine wp_gA (pc := 45) d_108_45 fl_9_56 rfl ft_8_6 (F_1_6 hF) ?_
          refine wp_iload_n (pc := 48) (i := 1) d_108_48 rfl rfl ?_
          refine wp_iload_n (pc := 49) (i := 2) d_108_49 rfl rfl ?_
          refine wp_iload_n (pc := 50) (i := 3) d_108_50 rfl rfl ?_
          refine wp_callV3v (pc := 51) d_108_51 lk_9_220 (by decide) rfl (Nat.le_of_ble_eq_true rfl) rfl rfl (c_Gadd hF hG hg6) (fun Iq51 hq51 => ?_)
          refine wp_aload_n (pc := 54) (i := 0) d_108_54 rfl rfl ?_
          refine wp_gA (pc := 55) d_108_55 fl_9_56 rfl ft_8_6 (F_1_6 hF) ?_
          refine wp_callV0p (pc := 58) d_108_58 lk_9_224 (by decide) rfl (Nat.le_of_ble_eq_true rfl) rfl rfl (c_Gnumber (v := gn + 1) hq51.1.2.1) ?_
          have hoz : ∀ a, (a < 151 ∨ 154 < a) → Iq51 a = I a := hq51.2
          exact wp_iret (pc := 61) d_108_61 (Or.inl rfl) (PQ.mk (by unfold q_gauge; rw [if_pos zq7, if_pos zq14, if_pos zq25, if_pos hg6, hcjq, hcrn, hcjw]) ⟨hCT.k (fun a _ _ => hoz a (by omega)), atR_keep hR (fun a _ _ => hoz a (by omega)), atWk hA (fun a _ _ => hoz a (by omega)), hCA.k (fun a _ _ => hoz a (by omega)), hq51.1, hCS.k (fun a _ _ => hoz a (by omega)), hsd⟩ ⟨fun a _ => hoz a (by omega), rfl⟩)
        · refine wp_bipush (pc := 41) (v := (-4)) d_108_41 (by decide) ?_
          exact wp_iret (pc := 43) d_108_43 (Or.inl rfl) (PQ.mk (by unfold q_gauge; rw [if_pos zq7, if_pos zq14, if_pos zq25, if_neg (of_decide_eq_false zq38)]) hC0 ⟨fun _ _ => rfl, rfl⟩)
      · refine wp_bipush (pc := 28) (v := (-2)) d_108_28 (by decide) ?_
        exact wp_iret (pc := 30) d_108_30 (Or.inl rfl) (PQ.mk (by unfold q_gauge; rw [if_pos zq7, if_pos zq14, if_neg (nT zq25)]) hC0 ⟨fun _ _ => rfl, rfl⟩)
def q_ungauge (tx : Nat → Nat) (tl : Nat) (ρ : SN) (n : Nat) (σ : SN) (rg : Nat → SN) (nx na : Nat) (γ : SN) (gn : Nat) (sl : Nat → SN) (sf : Nat → Bool) (sd : Int64) : Int32 × SS := (nI gn, (tx, tl, ρ, n, σ, rg, nx, na, γ, 0, sl, sf, sd))
set_option maxRecDepth 4000 in
theorem c_gungauge {I : IT} {J : JT} {F : FT} {t : Nat} {tx : Nat → Nat} {tl : Nat} {ρ : SN} {n : Nat} {σ : SN} {rg : Nat → SN} {nx na : Nat} {γ : SN} {gn : Nat} {sl : Nat → SN} {sf : Nat → Bool} {sd : Int64} (hF : Fok F) (hC : CR I J tx tl ρ n σ rg nx na γ gn sl sf sd) (hO : OKS t tx tl ρ n σ rg nx na γ gn sl sf) (ht : t + 100 ≤ 1000) : Sp 109 [vR 1] KK I J F (PQ (q_ungauge tx tl ρ n σ rg nx na γ gn sl sf sd) I J F) := by
  have hC0 := hC
  obtain ⟨hCT, hR, hA, hCA, hG, hCS, hsd⟩ := hC
  obtain ⟨ht40, hx256, hρ, hok, hrg, hnx, hna, hgo, hsl, hz, hzr, hzs, hn6⟩ := hO
  refine Sp.mk2 (Nat.le_of_ble_eq_true rfl) (L2 := [_, _]) rfl ?_
  refine wp_aload_n (pc := 0) (i := 0) d_109_0 rfl rfl ?_
  refine wp_gA (pc := 1) d_109_1 fl_9_56 rfl ft_8_6 (F_1_6 hF) ?_
  refine wp_callV0p (pc := 4) d_109_4 lk_9_224 (by decide) rfl (Nat.le_of_ble_eq_true rfl) rfl rfl (c_Gnumber (v := gn) hG.2.1) ?_
  refine wq_istore_n (pc := 7) (L2 := [_, _]) (i := 1) d_109_7 rfl (Nat.le_of_ble_eq_true rfl) rfl rfl ?_
  refine wp_aload_n (pc := 8) (i := 0) d_109_8 rfl rfl ?_
  refine wp_gA (pc := 9) d_109_9 fl_9_56 rfl ft_8_6 (F_1_6 hF) ?_
  refine wp_callV0v (pc := 12) d_109_12 lk_9_225 (by decide) rfl (Nat.le_of_ble_eq_true rfl) rfl rfl (c_Gclear) (fun Iq12 hq12 => ?_)
  refine wp_iload_n (pc := 15) (i := 1) d_109_15 rfl rfl ?_
  exact wp_iret (pc := 16) d_109_16 (Or.inl rfl) (PQ.mk (by unfold q_ungauge; rfl) ⟨hCT.k (fun a _ _ => hq12.2 a (by omega)), atR_keep hR (fun a _ _ => hq12.2 a (by omega)), atWk hA (fun a _ _ => hq12.2 a (by omega)), hCA.k (fun a _ _ => hq12.2 a (by omega)), ⟨Nat.zero_le 6, hq12.at, fun k hk j hj => absurd hj (Nat.not_lt_zero j)⟩, hCS.k (fun a _ _ => hq12.2 a (by omega)), hsd⟩ ⟨fun a _ => hq12.2 a (by omega), rfl⟩)
set_option maxRecDepth 4000 in
theorem c_gfits {I : IT} {J : JT} {F : FT} {t : Nat} {tx : Nat → Nat} {tl : Nat} {ρ : SN} {n : Nat} {σ : SN} {rg : Nat → SN} {nx na : Nat} {γ : SN} {gn : Nat} {sl : Nat → SN} {sf : Nat → Bool} {sd : Int64} (hF : Fok F) (hC : CR I J tx tl ρ n σ rg nx na γ gn sl sf sd) (hO : OKS t tx tl ρ n σ rg nx na γ gn sl sf) (ht : t + 100 ≤ 1000) : Sp 110 [vR 1] KK I J F (PQ (nI (ctN (fitN ρ n σ γ gn) (2 ^ n)), (tx, tl, ρ, n, σ, rg, nx, na, γ, gn, sl, sf, sd)) I J F) := by
  have hC0 := hC
  obtain ⟨hCT, hR, hA, hCA, hG, hCS, hsd⟩ := hC
  obtain ⟨ht40, hx256, hρ, hok, hrg, hnx, hna, hgo, hsl, hz, hzr, hzs, hn6⟩ := hO
  refine Sp.mk2 (Nat.le_of_ble_eq_true rfl) (L2 := [_]) rfl ?_
  refine wp_aload_n (pc := 0) (i := 0) d_110_0 rfl rfl ?_
  refine wp_gA (pc := 1) d_110_1 fl_9_56 rfl ft_8_6 (F_1_6 hF) ?_
  refine wp_aload_n (pc := 4) (i := 0) d_110_4 rfl rfl ?_
  refine wp_gA (pc := 5) d_110_5 fl_9_49 rfl ft_8_5 (F_1_5 hF) ?_
  refine wp_callV1v (pc := 8) d_110_8 lk_9_226 (by decide) rfl (Nat.le_of_ble_eq_true rfl) rfl rfl (c_seek hF hρ hok (by omega) hgo hA hR hG) (fun Iq8 hq8 => ?_)
  have hsc : SCR I Iq8 := ⟨fun a ha => hq8.2.2.2.2 a (by omega) (by omega), hq8.1.trans hG.2.1.symm⟩
  refine wp_aload_n (pc := 11) (i := 0) d_110_11 rfl rfl ?_
  refine wp_gA (pc := 12) d_110_12 fl_9_56 rfl ft_8_6 (F_1_6 hF) ?_
  refine wp_callV0p (pc := 15) d_110_15 lk_9_230 (by decide) rfl (Nat.le_of_ble_eq_true rfl) rfl rfl (c_Gfitting hq8.2.1) ?_
  exact wp_iret (pc := 18) d_110_18 (Or.inl rfl) (PQ.q rfl (hC0.k hsc) hsc.O)
def a_dammed (ρ : SN) (n : Nat) (σ γ : SN) (gn : Nat) (p : Bool) : Int32 := if ctN (fitN ρ n σ γ gn) (2 ^ n) = 0 then -9 else if p = true then nI (orN (fitN ρ n σ γ gn) (2 ^ n)) else nI (anN (fitN ρ n σ γ gn) (2 ^ n - 1) (2 ^ n))
set_option maxRecDepth 4000 in
theorem c_gdammed {I : IT} {J : JT} {F : FT} {t : Nat} {tx : Nat → Nat} {tl : Nat} {ρ : SN} {n : Nat} {σ : SN} {rg : Nat → SN} {nx na : Nat} {γ : SN} {gn : Nat} {sl : Nat → SN} {sf : Nat → Bool} {sd : Int64} (hF : Fok F) (hC : CR I J tx tl ρ n σ rg nx na γ gn sl sf sd) (hO : OKS t tx tl ρ n σ rg nx na γ gn sl sf) (ht : t + 100 ≤ 1000) {p : Bool} : Sp 111 [vR 1, vI (b2 p)] KK I J F (PQ (a_dammed ρ n σ γ gn p, (tx, tl, ρ, n, σ, rg, nx, na, γ, gn, sl, sf, sd)) I J F) := by
  have hC0 := hC
  obtain ⟨hCT, hR, hA, hCA, hG, hCS, hsd⟩ := hC
  obtain ⟨ht40, hx256, hρ, hok, hrg, hnx, hna, hgo, hsl, hz, hzr, hzs, hn6⟩ := hO
  refine Sp.mk2 (Nat.le_of_ble_eq_true rfl) (L2 := [_, _]) rfl ?_
  refine wp_aload_n (pc := 0) (i := 0) d_111_0 rfl rfl ?_
  refine wp_gA (pc := 1) d_111_1 fl_9_56 rfl ft_8_6 (F_1_6 hF) ?_
  refine wp_aload_n (pc := 4) (i := 0) d_111_4 rfl rfl ?_
  refine wp_gA (pc := 5) d_111_5 fl_9_49 rfl ft_8_5 (F_1_5 hF) ?_
  refine wp_callV1v (pc := 8) d_111_8 lk_9_226 (by decide) rfl (Nat.le_of_ble_eq_true rfl) rfl rfl (c_seek hF hρ hok (by omega) hgo hA hR hG) (fun Iq8 hq8 => ?_)
  have hsc : SCR I Iq8 := ⟨fun a ha => hq8.2.2.2.2 a (by omega) (by omega), hq8.1.trans hG.2.1.symm⟩
  refine wp_aload_n (pc := 11) (i := 0) d_111_11 rfl rfl ?_
  refine wp_gA (pc := 12) d_111_12 fl_9_56 rfl ft_8_6 (F_1_6 hF) ?_
  refine wp_callV0p (pc := 15) d_111_15 lk_9_230 (by decide) rfl (Nat.le_of_ble_eq_true rfl) rfl rfl (c_Gfitting hq8.2.1) ?_
  refine wp_ifN_ne (pc := 18) (tgt := 24) d_111_18 (by decide) (by have h8 := ctN_le (fitN ρ n σ γ gn) (2 ^ n); have h9 := p64 hn6; omega) (fun zq18 => ?_) (fun zq18 => ?_)
  · refine wp_iload_n (pc := 24) (i := 1) d_111_24 rfl rfl ?_
    refine wp_ifB_eq (pc := 25) (tgt := 38) d_111_25 (by decide) (fun zq25 => ?_) (fun zq25 => ?_)
    · refine wp_aload_n (pc := 38) (i := 0) d_111_38 rfl rfl ?_
      refine wp_gA (pc := 39) d_111_39 fl_9_56 rfl ft_8_6 (F_1_6 hF) ?_
      refine wp_callV0p (pc := 42) d_111_42 lk_9_236 (by decide) rfl (Nat.le_of_ble_eq_true rfl) rfl rfl (c_GdammedInAll hq8.2.2.1) ?_
      exact wp_iret (pc := 45) d_111_45 (Or.inl rfl) (PQ.q (by unfold a_dammed; rw [if_neg zq18, if_neg (nT zq25)]) (hC0.k hsc) hsc.O)
    · refine wp_aload_n (pc := 28) (i := 0) d_111_28 rfl rfl ?_
      refine wp_gA (pc := 29) d_111_29 fl_9_56 rfl ft_8_6 (F_1_6 hF) ?_
      refine wp_callV0p (pc := 32) d_111_32 lk_9_233 (by decide) rfl (Nat.le_of_ble_eq_true rfl) rfl rfl (c_GdammedInSome hq8.2.2.2.1) ?_
      refine wp_goto (pc := 35) (tgt := 45) d_111_35 (by decide) ?_
      exact wp_iret (pc := 45) d_111_45 (Or.inl rfl) (PQ.q (by unfold a_dammed; rw [if_neg zq18, if_pos zq25]) (hC0.k hsc) hsc.O)
  · refine wp_bipush (pc := 21) (v := (-9)) d_111_21 (by decide) ?_
    exact wp_iret (pc := 23) d_111_23 (Or.inl rfl) (PQ.q (by unfold a_dammed; rw [if_pos zq18]) (hC0.k hsc) hsc.O)
theorem isS155 : isS 155 2 := Or.inr (Or.inr ⟨rfl, rfl⟩)
def q_keep (tx : Nat → Nat) (tl : Nat) (ρ : SN) (n : Nat) (σ : SN) (rg : Nat → SN) (nx na : Nat) (γ : SN) (gn : Nat) (sl : Nat → SN) (sf : Nat → Bool) (sd : Int64) (x : Int32) : Int32 × SS := if inB x (nI 0) (nI 1) = true then (nI (σ 4 6), (tx, tl, ρ, n, σ, rg, nx, na, γ, gn, upf sl x.toNatClampNeg σ, upb sf x.toNatClampNeg, sd)) else (-1, (tx, tl, ρ, n, σ, rg, nx, na, γ, gn, sl, sf, sd))
def q_again (tx : Nat → Nat) (tl : Nat) (ρ : SN) (n : Nat) (σ : SN) (rg : Nat → SN) (nx na : Nat) (γ : SN) (gn : Nat) (sl : Nat → SN) (sf : Nat → Bool) (sd : Int64) (x : Int32) : Int32 × SS := if inB x (nI 0) (nI 1) = true then (if sf x.toNatClampNeg = true then (nI (sl x.toNatClampNeg 4 6), (tx, tl, ρ, n, sl x.toNatClampNeg, rg, nx, 0, γ, gn, sl, sf, sd)) else (-3, (tx, tl, ρ, n, σ, rg, nx, na, γ, gn, sl, sf, sd))) else (-1, (tx, tl, ρ, n, σ, rg, nx, na, γ, gn, sl, sf, sd))
set_option maxRecDepth 4000 in
theorem c_gkeep {I : IT} {J : JT} {F : FT} {t : Nat} {tx : Nat → Nat} {tl : Nat} {ρ : SN} {n : Nat} {σ : SN} {rg : Nat → SN} {nx na : Nat} {γ : SN} {gn : Nat} {sl : Nat → SN} {sf : Nat → Bool} {sd : Int64} (hF : Fok F) (hC : CR I J tx tl ρ n σ rg nx na γ gn sl sf sd) (hO : OKS t tx tl ρ n σ rg nx na γ gn sl sf) (ht : t + 100 ≤ 1000) {x : Int32} : Sp 117 [vR 1, vI x] KK I J F (PQ (q_keep tx tl ρ n σ rg nx na γ gn sl sf sd x) I J F) := by
  have hC0 := hC
  obtain ⟨hCT, hR, hA, hCA, hG, hCS, hsd⟩ := hC
  obtain ⟨ht40, hx256, hρ, hok, hrg, hnx, hna, hgo, hsl, hz, hzr, hzs, hn6⟩ := hO
  refine Sp.mk2 (Nat.le_of_ble_eq_true rfl) (L2 := [_, _]) rfl ?_
  refine wp_iload_n (pc := 0) (i := 1) d_117_0 rfl rfl ?_
  refine wp_icN (pc := 1) (m := 0) d_117_1 (by decide) ?_
  refine wp_icN (pc := 2) (m := 1) d_117_2 (by decide) ?_
  refine wp_callS3p (pc := 3) d_117_3 lk_9_168 (by decide) rfl (Nat.le_of_ble_eq_true rfl) (c_isWithin x (nI 0) (nI 1)) ?_
  refine wp_ifB_ne (pc := 6) (tgt := 11) d_117_6 (by decide) (fun zq6 => ?_) (fun zq6 => ?_)
  · obtain ⟨ji, h0ji, h1ji, hxji⟩ := inB_t zq6 (by decide) (by decide)
    subst hxji
    have hcji : (nI ji).toNatClampNeg = ji := nI_clamp (by omega)
    refine wp_aload_n (pc := 11) (i := 0) d_117_11 rfl rfl ?_
    refine wp_gA (pc := 12) d_117_12 fl_9_65 rfl ft_8_7 (F_1_7 hF) ?_
    refine wp_iload_n (pc := 15) (i := 1) d_117_15 rfl rfl ?_
    refine wp_aload_n (pc := 16) (i := 0) d_117_16 rfl rfl ?_
    refine wp_gA (pc := 17) d_117_17 fl_9_33 rfl ft_8_3 (F_1_3 hF) ?_
    refine wp_callV2v (pc := 20) d_117_20 lk_9_266 (by decide) rfl (Nat.le_of_ble_eq_true rfl) (kS isS155).1 rfl (c_put hF isS155 (i := ji) (by omega) isW18 (by omega) hA) (fun Iq20 hq20 => ?_)
    obtain ⟨Im, hm1, hm2, hm3⟩ := hq20
    have hoz : ∀ a, a ≠ 162 → (a < 155 + 8 + 5 * ji ∨ 155 + 8 + 5 * ji + 4 < a) → Iq20 a = I a := fun a h1 h2 => (hm3.2 a h1).trans (hm2 a h2)
    have hoy : ∀ a, (a < 162 ∨ 172 < a) → Iq20 a = I a := fun a h1 => hoz a (by omega) (by omega)
    have hA20 := atWk hA (fun a _ _ => hoy a (by omega))
    refine wp_aload_n (pc := 23) (i := 0) d_117_23 rfl rfl ?_
    refine wp_gA (pc := 24) d_117_24 fl_9_33 rfl ft_8_3 (F_1_3 hF) ?_
    refine wp_callV0p (pc := 27) d_117_27 lk_9_270 (by decide) rfl (Nat.le_of_ble_eq_true rfl) (kW isW18) rfl (c_quarters isW18 (hA20.2 6 (by decide) (by decide))) ?_
    exact wp_iret (pc := 30) d_117_30 (Or.inl rfl) (PQ.mk (by unfold q_keep; rw [if_pos zq6, hcji]) ⟨hCT.k (fun a _ _ => hoy a (by omega)), atR_keep hR (fun a _ _ => hoy a (by omega)), atWk hA (fun a _ _ => hoy a (by omega)), hCA.k (fun a _ _ => hoy a (by omega)), hG.k (fun a _ _ => hoy a (by omega)) (by rw [hoy 151 (by omega)]), cSl.put hCS (by omega) hm1 hm2 hm3, hsd⟩ ⟨fun a _ => hoz a (by omega) (by omega), rfl⟩)
  · refine wp_iconst (pc := 9) (v := (-1)) d_117_9 (by decide) ?_
    exact wp_iret (pc := 10) d_117_10 (Or.inl rfl) (PQ.mk (by unfold q_keep; rw [if_neg (nT zq6)]) hC0 ⟨fun _ _ => rfl, rfl⟩)
set_option maxRecDepth 4000 in
theorem c_gagain {I : IT} {J : JT} {F : FT} {t : Nat} {tx : Nat → Nat} {tl : Nat} {ρ : SN} {n : Nat} {σ : SN} {rg : Nat → SN} {nx na : Nat} {γ : SN} {gn : Nat} {sl : Nat → SN} {sf : Nat → Bool} {sd : Int64} (hF : Fok F) (hC : CR I J tx tl ρ n σ rg nx na γ gn sl sf sd) (hO : OKS t tx tl ρ n σ rg nx na γ gn sl sf) (ht : t + 100 ≤ 1000) {x : Int32} : Sp 118 [vR 1, vI x] KK I J F (PQ (q_again tx tl ρ n σ rg nx na γ gn sl sf sd x) I J F) := by
  have hC0 := hC
  obtain ⟨hCT, hR, hA, hCA, hG, hCS, hsd⟩ := hC
  obtain ⟨ht40, hx256, hρ, hok, hrg, hnx, hna, hgo, hsl, hz, hzr, hzs, hn6⟩ := hO
  refine Sp.mk2 (Nat.le_of_ble_eq_true rfl) (L2 := [_, _]) rfl ?_
  refine wp_iload_n (pc := 0) (i := 1) d_118_0 rfl rfl ?_
  refine wp_icN (pc := 1) (m := 0) d_118_1 (by decide) ?_
  refine wp_icN (pc := 2) (m := 1) d_118_2 (by decide) ?_
  refine wp_callS3p (pc := 3) d_118_3 lk_9_168 (by decide) rfl (Nat.le_of_ble_eq_true rfl) (c_isWithin x (nI 0) (nI 1)) ?_
  refine wp_ifB_ne (pc := 6) (tgt := 11) d_118_6 (by decide) (fun zq6 => ?_) (fun zq6 => ?_)
  · obtain ⟨ji, h0ji, h1ji, hxji⟩ := inB_t zq6 (by decide) (by decide)
    subst hxji
    have hcji : (nI ji).toNatClampNeg = ji := nI_clamp (by omega)
    refine wp_aload_n (pc := 11) (i := 0) d_118_11 rfl rfl ?_
    refine wp_gA (pc := 12) d_118_12 fl_9_65 rfl ft_8_7 (F_1_7 hF) ?_
    refine wp_iload_n (pc := 15) (i := 1) d_118_15 rfl rfl ?_
    refine wp_callV1p (pc := 16) d_118_16 lk_9_273 (by decide) rfl (Nat.le_of_ble_eq_true rfl) (kS isS155).1 rfl (c_isFilled hF isS155 (i := ji) (by omega) (hCS.2 ji (by omega))) ?_
    refine wp_ifB_ne (pc := 19) (tgt := 25) d_118_19 (by decide) (fun zq19 => ?_) (fun zq19 => ?_)
    · refine wp_aload_n (pc := 25) (i := 0) d_118_25 rfl rfl ?_
      refine wp_gA (pc := 26) d_118_26 fl_9_33 rfl ft_8_3 (F_1_3 hF) ?_
      refine wp_aload_n (pc := 29) (i := 0) d_118_29 rfl rfl ?_
      refine wp_gA (pc := 30) d_118_30 fl_9_65 rfl ft_8_7 (F_1_7 hF) ?_
      refine wp_iload_n (pc := 33) (i := 1) d_118_33 rfl rfl ?_
      refine wp_callV1p (pc := 34) d_118_34 lk_9_276 (by decide) rfl (Nat.le_of_ble_eq_true rfl) (kS isS155).1 rfl (c_at hF isS155 (i := ji) (by omega)) ?_
      refine wp_callV1v (pc := 37) d_118_37 lk_9_280 (by decide) rfl (Nat.le_of_ble_eq_true rfl) (kW isW18) rfl (c_become hF isW18 (fSp hF isS155 (show ji < 2 by omega)).2 (by omega) (hCS.1 ji (by omega))) (fun Iq37 hq37 => ?_)
      refine wp_aload_n (pc := 40) (i := 0) d_118_40 rfl rfl ?_
      refine wp_gA (pc := 41) d_118_41 fl_9_40 rfl ft_8_4 (F_1_4 hF) ?_
      refine wp_callV0v (pc := 44) d_118_44 lk_9_103 (by decide) rfl (Nat.le_of_ble_eq_true rfl) rfl rfl (c_forgetAll) (fun Iq44 hq44 => ?_)
      have hA44 : atW Iq44 18 (sl ji) := atWk hq37.1 (fun a _ _ => hq44.2 a (by omega))
      refine wp_aload_n (pc := 47) (i := 0) d_118_47 rfl rfl ?_
      refine wp_gA (pc := 48) d_118_48 fl_9_33 rfl ft_8_3 (F_1_3 hF) ?_
      refine wp_callV0p (pc := 51) d_118_51 lk_9_270 (by decide) rfl (Nat.le_of_ble_eq_true rfl) (kW isW18) rfl (c_quarters isW18 (hA44.2 6 (by decide) (by decide))) ?_
      have hoy : ∀ a, (a < 18 ∨ 23 < a) → Iq44 a = I a := fun a ha => (hq44.2 a (by omega)).trans (hq37.2 a (by omega))
      exact wp_iret (pc := 54) d_118_54 (Or.inl rfl) (PQ.mk (by unfold q_again; rw [if_pos zq6, hcji, if_pos zq19]) ⟨hCT.k (fun a _ _ => hoy a (by omega)), atR_keep hR (fun a _ _ => hoy a (by omega)), hA44, ⟨by rw [hq44.ne (by decide), hq37.2 23 (by omega)]; exact hCA.1, hq44.at, fun i hi => atWk (hCA.2.2 i hi) (fun a _ _ => hoy a (by omega))⟩, hG.k (fun a _ _ => hoy a (by omega)) (by rw [hoy 151 (by omega)]), hCS.k (fun a _ _ => hoy a (by omega)), hsd⟩ ⟨fun a _ => hoy a (by omega), rfl⟩)
    · refine wp_bipush (pc := 22) (v := (-3)) d_118_22 (by decide) ?_
      exact wp_iret (pc := 24) d_118_24 (Or.inl rfl) (PQ.mk (by unfold q_again; rw [if_pos zq6, hcji, if_neg (nT zq19)]) hC0 ⟨fun _ _ => rfl, rfl⟩)
  · refine wp_iconst (pc := 9) (v := (-1)) d_118_9 (by decide) ?_
    exact wp_iret (pc := 10) d_118_10 (Or.inl rfl) (PQ.mk (by unfold q_again; rw [if_neg (nT zq6)]) hC0 ⟨fun _ _ => rfl, rfl⟩)
def cnT (ρ : SN) (n : Nat) (σ : SN) (tl na gn : Nat) : Nat → Int32
  | 0 => nI tl
  | 1 => nI n
  | 2 => nI (σ 4 6)
  | 3 => nI (σ 4 4)
  | 4 => nI (σ 4 5)
  | 5 => nI (bitsN (enN ρ σ) n)
  | 6 => nI (σ 4 7)
  | 7 => nI na
  | 8 => nI gn
  | 9 => nI (sumN (σ 0) 6)
  | _ => -2
def a_count (ρ : SN) (n : Nat) (σ : SN) (tl na gn : Nat) (y : Int32) : Int32 := if inR y 10 = true then cnT ρ n σ tl na gn y.toNatClampNeg else -2
set_option maxRecDepth 4000 in
theorem c_gcount {I : IT} {J : JT} {F : FT} {t : Nat} {tx : Nat → Nat} {tl : Nat} {ρ : SN} {n : Nat} {σ : SN} {rg : Nat → SN} {nx na : Nat} {γ : SN} {gn : Nat} {sl : Nat → SN} {sf : Nat → Bool} {sd : Int64} (hF : Fok F) (hC : CR I J tx tl ρ n σ rg nx na γ gn sl sf sd) (hO : OKS t tx tl ρ n σ rg nx na γ gn sl sf) (ht : t + 100 ≤ 1000) {y : Int32} : Sp 119 [vR 1, vI y] KK I J F (PQ (a_count ρ n σ tl na gn y, (tx, tl, ρ, n, σ, rg, nx, na, γ, gn, sl, sf, sd)) I J F) := by
  have hC0 := hC
  obtain ⟨hCT, hR, hA, hCA, hG, hCS, hsd⟩ := hC
  obtain ⟨ht40, hx256, hρ, hok, hrg, hnx, hna, hgo, hsl, hz, hzr, hzs, hn6⟩ := hO
  refine Sp.mk2 (Nat.le_of_ble_eq_true rfl) (L2 := [_, _]) rfl ?_
  refine wp_iload_n (pc := 0) (i := 1) d_119_0 rfl rfl ?_
  by_cases hz10 : inR y 10 = true
  · obtain ⟨jw, hjw, hxw⟩ := inR_t hz10 (by decide)
    subst hxw
    rcases lt10 hjw with rfl | rfl | rfl | rfl | rfl | rfl | rfl | rfl | rfl | rfl
    · refine wp_tabIn (pc := 1) (tgt := 56) d_119_1 (by decide) (by decide) rfl (by decide) ?_
      refine wp_aload_n (pc := 56) (i := 0) d_119_56 rfl rfl ?_
      refine wp_gA (pc := 57) d_119_57 fl_9_10 rfl ft_8_0 (F_1_0 hF) ?_
      refine wp_callV0p (pc := 60) d_119_60 lk_9_81 (by decide) rfl (Nat.le_of_ble_eq_true rfl) rfl rfl (c_Tlength (v := tl) hCT.1) ?_
      exact wp_iret (pc := 63) d_119_63 (Or.inl rfl) (PQ.q (by unfold a_count; rw [if_pos hz10]; rfl) hC0 ⟨fun _ _ => rfl, rfl⟩)
    · refine wp_tabIn (pc := 1) (tgt := 64) d_119_1 (by decide) (by decide) rfl (by decide) ?_
      refine wp_aload_n (pc := 64) (i := 0) d_119_64 rfl rfl ?_
      refine wp_gA (pc := 65) d_119_65 fl_9_26 rfl ft_8_2 (F_1_2 hF) ?_
      refine wp_callV0p (pc := 68) d_119_68 lk_9_109 (by decide) rfl (Nat.le_of_ble_eq_true rfl) (kR isR12) rfl (c_Rnumber isR12 hR) ?_
      exact wp_iret (pc := 71) d_119_71 (Or.inl rfl) (PQ.q (by unfold a_count; rw [if_pos hz10]; rfl) hC0 ⟨fun _ _ => rfl, rfl⟩)
    · refine wp_tabIn (pc := 1) (tgt := 72) d_119_1 (by decide) (by decide) rfl (by decide) ?_
      refine wp_aload_n (pc := 72) (i := 0) d_119_72 rfl rfl ?_
      refine wp_gA (pc := 73) d_119_73 fl_9_33 rfl ft_8_3 (F_1_3 hF) ?_
      refine wp_callV0p (pc := 76) d_119_76 lk_9_270 (by decide) rfl (Nat.le_of_ble_eq_true rfl) (kW isW18) rfl (c_quarters isW18 (hA.2 6 (by decide) (by decide))) ?_
      exact wp_iret (pc := 79) d_119_79 (Or.inl rfl) (PQ.q (by unfold a_count; rw [if_pos hz10]; rfl) hC0 ⟨fun _ _ => rfl, rfl⟩)
    · refine wp_tabIn (pc := 1) (tgt := 80) d_119_1 (by decide) (by decide) rfl (by decide) ?_
      refine wp_aload_n (pc := 80) (i := 0) d_119_80 rfl rfl ?_
      refine wp_gA (pc := 81) d_119_81 fl_9_33 rfl ft_8_3 (F_1_3 hF) ?_
      refine wp_callV0p (pc := 84) d_119_84 lk_9_190 (by decide) rfl (Nat.le_of_ble_eq_true rfl) (kW isW18) rfl (c_waterInButt isW18 (hA.2 4 (by decide) (by decide))) ?_
      exact wp_iret (pc := 87) d_119_87 (Or.inl rfl) (PQ.q (by unfold a_count; rw [if_pos hz10]; rfl) hC0 ⟨fun _ _ => rfl, rfl⟩)
    · refine wp_tabIn (pc := 1) (tgt := 88) d_119_1 (by decide) (by decide) rfl (by decide) ?_
      refine wp_aload_n (pc := 88) (i := 0) d_119_88 rfl rfl ?_
      refine wp_gA (pc := 89) d_119_89 fl_9_33 rfl ft_8_3 (F_1_3 hF) ?_
      refine wp_callV0p (pc := 92) d_119_92 lk_9_187 (by decide) rfl (Nat.le_of_ble_eq_true rfl) (kW isW18) rfl (c_soapInButt isW18 (hA.2 5 (by decide) (by decide))) ?_
      exact wp_iret (pc := 95) d_119_95 (Or.inl rfl) (PQ.q (by unfold a_count; rw [if_pos hz10]; rfl) hC0 ⟨fun _ _ => rfl, rfl⟩)
    · refine wp_tabIn (pc := 1) (tgt := 96) d_119_1 (by decide) (by decide) rfl (by decide) ?_
      refine wp_aload_n (pc := 96) (i := 0) d_119_96 rfl rfl ?_
      refine wp_gA (pc := 97) d_119_97 fl_9_33 rfl ft_8_3 (F_1_3 hF) ?_
      refine wp_aload_n (pc := 100) (i := 0) d_119_100 rfl rfl ?_
      refine wp_gA (pc := 101) d_119_101 fl_9_26 rfl ft_8_2 (F_1_2 hF) ?_
      refine wp_callV1p (pc := 104) d_119_104 lk_9_282 (by decide) rfl (Nat.le_of_ble_eq_true rfl) (kW isW18) rfl (c_contentBits hF isW18 isR12 hA hR hρ (hok.g (by omega))) ?_
      exact wp_iret (pc := 107) d_119_107 (Or.inl rfl) (PQ.q (by unfold a_count; rw [if_pos hz10]; rfl) hC0 ⟨fun _ _ => rfl, rfl⟩)
    · refine wp_tabIn (pc := 1) (tgt := 108) d_119_1 (by decide) (by decide) rfl (by decide) ?_
      refine wp_aload_n (pc := 108) (i := 0) d_119_108 rfl rfl ?_
      refine wp_gA (pc := 109) d_119_109 fl_9_33 rfl ft_8_3 (F_1_3 hF) ?_
      refine wp_callV0p (pc := 112) d_119_112 lk_9_132 (by decide) rfl (Nat.le_of_ble_eq_true rfl) (kW isW18) rfl (c_damBits isW18 (hA.2 7 (by decide) (by decide))) ?_
      exact wp_iret (pc := 115) d_119_115 (Or.inl rfl) (PQ.q (by unfold a_count; rw [if_pos hz10]; rfl) hC0 ⟨fun _ _ => rfl, rfl⟩)
    · refine wp_tabIn (pc := 1) (tgt := 116) d_119_1 (by decide) (by decide) rfl (by decide) ?_
      refine wp_aload_n (pc := 116) (i := 0) d_119_116 rfl rfl ?_
      refine wp_gA (pc := 117) d_119_117 fl_9_40 rfl ft_8_4 (F_1_4 hF) ?_
      refine wp_callV0p (pc := 120) d_119_120 lk_9_179 (by decide) rfl (Nat.le_of_ble_eq_true rfl) rfl rfl (c_Anumber (v := na) hCA.2.1) ?_
      exact wp_iret (pc := 123) d_119_123 (Or.inl rfl) (PQ.q (by unfold a_count; rw [if_pos hz10]; rfl) hC0 ⟨fun _ _ => rfl, rfl⟩)
    · refine wp_tabIn (pc := 1) (tgt := 124) d_119_1 (by decide) (by decide) rfl (by decide) ?_
      refine wp_aload_n (pc := 124) (i := 0) d_119_124 rfl rfl ?_
      refine wp_gA (pc := 125) d_119_125 fl_9_56 rfl ft_8_6 (F_1_6 hF) ?_
      refine wp_callV0p (pc := 128) d_119_128 lk_9_224 (by decide) rfl (Nat.le_of_ble_eq_true rfl) rfl rfl (c_Gnumber (v := gn) hG.2.1) ?_
      exact wp_iret (pc := 131) d_119_131 (Or.inl rfl) (PQ.q (by unfold a_count; rw [if_pos hz10]; rfl) hC0 ⟨fun _ _ => rfl, rfl⟩)
    · refine wp_tabIn (pc := 1) (tgt := 132) d_119_1 (by decide) (by decide) rfl (by decide) ?_
      refine wp_aload_n (pc := 132) (i := 0) d_119_132 rfl rfl ?_
      refine wp_gA (pc := 133) d_119_133 fl_9_33 rfl ft_8_3 (F_1_3 hF) ?_
      refine wp_callV0p (pc := 136) d_119_136 lk_9_286 (by decide) rfl (Nat.le_of_ble_eq_true rfl) (kW isW18) rfl (c_waterOnAll hF isW18 hA) ?_
      exact wp_iret (pc := 139) d_119_139 (Or.inl rfl) (PQ.q (by unfold a_count; rw [if_pos hz10]; rfl) hC0 ⟨fun _ _ => rfl, rfl⟩)
  · have hz11 : inR y 10 = false := by rcases hcs : inR y 10 with _ | _; rfl; exact absurd hcs hz10
    refine wp_tabOut (pc := 1) (tgt := 140) d_119_1 (inR_f hz11 (by decide)) (by decide) ?_
    refine wp_bipush (pc := 140) (v := (-2)) d_119_140 (by decide) ?_
    exact wp_iret (pc := 142) d_119_142 (Or.inl rfl) (PQ.q (by unfold a_count; rw [if_neg hz10]) hC0 ⟨fun _ _ => rfl, rfl⟩)
