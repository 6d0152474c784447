set_option maxRecDepth 4000 in
theorem rclr_step {Po : RT → Prop} {I1 : IT} {J : JT} {F : FT} (hF : Fok F) (hk : ∀ (I : IT) (i : Nat), (∀ j, j < 6 → I 175 j = nI 0) → (∀ a, a ≠ 175 → I a = I1 a) → Wp none 125 Po 37 [some (vR 173), some (vI (nI i)), none] [] KK I J F) (i : Nat) (hi0 : i ≤ 6) (I : IT) (hin : ∀ j, j < i → I 175 j = nI 0) (hoff : ∀ a, a ≠ 175 → I a = I1 a)
    (ih0 : ∀ i', i < 6 → i' = i + 1 → ∀ (I : IT), (∀ j, j < i' → I 175 j = nI 0) → (∀ a, a ≠ 175 → I a = I1 a) → Wp none 125 Po 18 [some (vR 173), some (vI (nI i')), none] [] KK I J F) : Wp none 125 Po 18 [some (vR 173), some (vI (nI i)), none] [] KK I J F := by
  refine wp_iload_n (pc := 18) (i := 1) d_125_18 rfl rfl ?_
  refine wp_bpN (pc := 19) (m := 6) d_125_19 (by decide) ?_
  refine wp_icmpN_ge (pc := 21) (tgt := 37) d_125_21 (by decide) (by omega) (by decide) (fun zq21 => ?_) (fun zq21 => ?_)
  · exact hk I i (fun j hj => hin j (by omega)) hoff
  · refine wp_aload_n (pc := 24) (i := 0) d_125_24 rfl rfl ?_
    refine wp_gA (pc := 25) d_125_25 fl_10_13 rfl ft_9_1 (F_173_1 hF) ?_
    refine wp_iload_n (pc := 28) (i := 1) d_125_28 rfl rfl ?_
    refine wp_icN (pc := 29) (m := 0) d_125_29 (by decide) ?_
    refine wp_aS (pc := 30) (j := i) d_125_30 rfl rfl (by omega) (by decide) (fun Iq30 uq30 => ?_)
    refine wq_iincN (pc := 31) (L2 := [_, _, _]) d_125_31 rfl (b := 1) (by decide) rfl rfl ?_
    refine wp_goto (pc := 34) (tgt := 18) d_125_34 (by decide) ?_
    refine ih0 (i + 1) zq21 rfl _ (fun j hj => ?_) (fun a ha => (uq30.2 a ha).trans (hoff a ha))
    by_cases e : j = i
    · rw [e]; exact uq30.at
    · rw [uq30.ne e]; exact hin j (by omega)
theorem rclr_loop {Po : RT → Prop} {I1 : IT} {J : JT} {F : FT} (hF : Fok F) (hk : ∀ (I : IT) (i : Nat), (∀ j, j < 6 → I 175 j = nI 0) → (∀ a, a ≠ 175 → I a = I1 a) → Wp none 125 Po 37 [some (vR 173), some (vI (nI i)), none] [] KK I J F) : ∀ (d i : Nat), i + d = 6 → ∀ (I : IT), (∀ j, j < i → I 175 j = nI 0) → (∀ a, a ≠ 175 → I a = I1 a) → Wp none 125 Po 18 [some (vR 173), some (vI (nI i)), none] [] KK I J F := by
  intro d
  induction d with
  | zero =>
    intro i hid I hin hoff
    exact rclr_step hF hk i (by omega) I hin hoff (fun i' hlt => absurd hlt (by omega))
  | succ d ih =>
    intro i hid I hin hoff
    exact rclr_step hF hk i (by omega) I hin hoff (fun i' hlt he => ih i' (by omega))

set_option maxRecDepth 4000 in
theorem m_readText {I0 : IT} {J : JT} {F : FT} {tx : Nat → Nat} {tl : Nat} (hF : Fok F) (h40 : tl ≤ 40) (h256 : ∀ j, tx j < 256) (hTx : mTx I0 tx tl) : Sp 125 [vR 173] KK I0 J F (fun R => ∃ I2, R = (some (vI (fltN tx tl).1), KK, I2, J, F) ∧ frR I0 I2 ∧ ∀ mz, (fltN tx tl).2 = some mz → mPS I2 mz.1 mz.2.1) := by
  refine Sp.mk2 (Nat.le_of_ble_eq_true rfl) (L2 := [_, _, _]) rfl ?_
  refine wp_aload_n (pc := 0) (i := 0) d_125_0 rfl rfl ?_
  refine wp_icN (pc := 1) (m := 0) d_125_1 (by decide) ?_
  refine wp_pI (pc := 2) d_125_2 fl_10_71 rfl ft_9_10 rfl (fun Iq2 uq2 => ?_)
  refine wp_aload_n (pc := 5) (i := 0) d_125_5 rfl rfl ?_
  refine wp_bipush (pc := 6) (v := (-9)) d_125_6 (by decide) ?_
  refine wp_pI (pc := 8) d_125_8 fl_10_68 rfl ft_9_11 rfl (fun Iq8 uq8 => ?_)
  refine wp_aload_n (pc := 11) (i := 0) d_125_11 rfl rfl ?_
  refine wp_icN (pc := 12) (m := 0) d_125_12 (by decide) ?_
  refine wp_pI (pc := 13) d_125_13 fl_10_76 rfl ft_9_2 rfl (fun Iq13 uq13 => ?_)
  refine wp_icN (pc := 16) (m := 0) d_125_16 (by decide) ?_
  refine wq_istore_n (pc := 17) (L2 := [_, _, _]) (i := 1) d_125_17 rfl (Nat.le_of_ble_eq_true rfl) rfl rfl ?_
  refine rclr_loop (I1 := Iq13) hF (fun I3 i hcl hoff => ?_) 6 0 (by omega) Iq13 (fun j hj => absurd hj (Nat.not_lt_zero j)) (fun _ _ => rfl)
  have h9 : I3 173 9 = nI tl := by rw [hoff 173 (by decide), uq13.ne (by decide), uq8.ne (by decide), uq2.ne (by decide)]; exact hTx.1
  have h8 : ∀ j, j < tl → I3 178 j = nI (tx j) := fun j hj => by rw [hoff 178 (by decide), uq13.off (by decide), uq8.off (by decide), uq2.off (by decide)]; exact hTx.2 j hj
  have hfr3 : frR I0 I3 := ⟨fun q g1 g2 g3 => by rw [hoff 173 (by decide), uq13.ne g1, uq8.ne g3, uq2.ne g2], fun a g1 g2 g3 => by rw [hoff a g3, uq13.2 a g1, uq8.2 a g1, uq2.2 a g1]⟩
  refine wp_aload_n (pc := 37) (i := 0) d_125_37 rfl rfl ?_
  refine wp_gI (pc := 38) d_125_38 fl_10_63 rfl ft_9_9 h9 ?_
  refine wp_ifN_eq (pc := 41) (tgt := 55) d_125_41 (by decide) (by omega) (fun zq41 => ?_) (fun zq41 => ?_)
  · refine wp_icN (pc := 55) (m := 0) d_125_55 (by decide) ?_
    have hv2 : fltN tx tl = (nI 0, none) := by rw [zq41]; rfl
    exact wp_iret (pc := 56) d_125_56 (Or.inl rfl) ⟨_, by rw [hv2], hfr3, fun mz h => by rw [hv2] at h; cases h⟩
  · refine wp_aload_n (pc := 44) (i := 0) d_125_44 rfl rfl ?_
    refine wp_gA (pc := 45) d_125_45 fl_10_22 rfl ft_9_8 (F_173_8 hF) ?_
    refine wp_icN (pc := 48) (m := 0) d_125_48 (by decide) ?_
    refine wp_aL (pc := 49) (j := 0) d_125_49 rfl rfl (by omega) (by decide) (h8 0 (by omega)) ?_
    refine wp_bpN (pc := 50) (m := 71) d_125_50 (by decide) ?_
    refine wp_icmpN_eq (pc := 52) (tgt := 57) d_125_52 (by decide) (by have := h256 0; omega) (by decide) (fun zq52 => ?_) (fun zq52 => ?_)
    · refine wp_aload_n (pc := 57) (i := 0) d_125_57 rfl rfl ?_
      refine wp_icN (pc := 58) (m := 1) d_125_58 (by decide) ?_
      refine wp_pI (pc := 59) d_125_59 fl_10_71 rfl ft_9_10 rfl (fun Iq59 uq59 => ?_)
      have hst0 : stepM 0 (tx 0) PS0 = some PS0 := by rw [zq52]; rfl
      have hv1 : fltN tx tl = finN tx tl (tl - 1) 1 PS0 := by
        show finN tx tl tl 0 PS0 = _
        rw [show finN tx tl tl 0 PS0 = finN tx tl ((tl - 1) + 1) 0 PS0 from congrArg (fun d => finN tx tl d 0 PS0) (by omega)]
        exact fin_some hst0
      exact rt_loop (v := fltN tx tl) hF h40 h256 (tl - 1) 1 (Nat.le_refl _) (Nat.le_refl 1) (by omega) Iq59 0 (fun _ _ => 0) (fun _ => 0) 0 0 _ _ (by decide) (fun _ _ => Nat.zero_le 9) hv1 ⟨(uq59.ne (by decide)).trans h9, fun j hj => (uq59.off (by decide)).trans (h8 j hj), uq59.at, by rw [uq59.ne (by decide), hoff 173 (by decide), uq13.ne (by decide)]; exact uq8.at⟩ ⟨by rw [uq59.ne (by decide), hoff 173 (by decide)]; exact uq13.at, fun k hk j hj => absurd hj (Nat.not_lt_zero j), fun j hj => absurd hj (Nat.not_lt_zero j), fun j _ hj => (uq59.off (by decide)).trans (hcl j hj)⟩ (hfr3.tr (frR.u uq59 (Or.inr (Or.inl rfl))))
    · refine wp_icN (pc := 55) (m := 0) d_125_55 (by decide) ?_
      have hv2 : fltN tx tl = (nI 0, none) := by
        show finN tx tl tl 0 PS0 = _
        rw [show finN tx tl tl 0 PS0 = finN tx tl ((tl - 1) + 1) 0 PS0 from congrArg (fun d => finN tx tl d 0 PS0) (by omega)]
        exact fin_none (if_neg zq52)
      exact wp_iret (pc := 56) d_125_56 (Or.inl rfl) ⟨_, by rw [hv2], hfr3, fun mz h => by rw [hv2] at h; cases h⟩
set_option maxRecDepth 4000 in
theorem m_gfault {I : IT} {J : JT} {F : FT} {t : Nat} {tx : Nat → Nat} {tl : Nat} {ρ : SN} {n : Nat} {σ : SN} {rg : Nat → SN} {nx na : Nat} {γ : SN} {gn : Nat} {sl : Nat → SN} {sf : Nat → Bool} {sd : Int64} (hF : Fok F) (hC : MR I J tx tl ρ n σ rg nx na γ gn sl sf sd) (hO : OKS t tx tl ρ n σ rg nx na γ gn sl sf) (ht : t + 100 ≤ 1000) : Sp 124 [vR 173] KK I J F (PN ((fltN tx tl).1, (tx, tl, ρ, n, σ, rg, nx, na, γ, gn, sl, sf, sd)) I J F) := by
  have hC0 := hC
  obtain ⟨hTx, hRo, hNo, hAc, hGa, hSl, hsd⟩ := hC
  obtain ⟨ht40, hx256, hρ, hok, hrg, hnx, hna, hgo, hsl, hz, hzr, hzs, hn6⟩ := hO
  have hd64 := hok.2.2.2.2.2
  have hgn6 := hGa.1
  refine Sp.mk2 (Nat.le_of_ble_eq_true rfl) (L2 := [_]) rfl ?_
  refine wp_aload_n (pc := 0) (i := 0) d_124_0 rfl rfl ?_
  refine wp_callV0e (pc := 1) d_124_1 lk_10_87 (by decide) rfl (Nat.le_of_ble_eq_true rfl) rfl rfl (m_readText hF ht40 hx256 hTx) (fun Iq1 hq1 => ?_)
  exact wp_iret (pc := 4) d_124_4 (Or.inl rfl) (PN.q rfl (hC0.k hq1.1.M) hq1.1.M.O)
set_option maxRecDepth 4000 in
theorem stra_step {Po : RT → Prop} {I1 : IT} {J : JT} {F : FT} (hF : Fok F) (hk : ∀ (I : IT) (i : Nat), (∀ q, q < 24 → I 176 q = I1 174 q) → (∀ a, a ≠ 176 → I a = I1 a) → Wp none 128 Po 46 [some (vR 173), some (vI (nI i))] [] KK I J F) (i : Nat) (hi0 : i ≤ 24) (I : IT) (hin : ∀ q, q < i → I 176 q = I1 174 q) (hoff : ∀ a, a ≠ 176 → I a = I1 a)
    (ih0 : ∀ i', i < 24 → i' = i + 1 → ∀ (I : IT), (∀ q, q < i' → I 176 q = I1 174 q) → (∀ a, a ≠ 176 → I a = I1 a) → Wp none 128 Po 22 [some (vR 173), some (vI (nI i'))] [] KK I J F) : Wp none 128 Po 22 [some (vR 173), some (vI (nI i))] [] KK I J F := by
  refine wp_iload_n (pc := 22) (i := 1) d_128_22 rfl rfl ?_
  refine wp_bpN (pc := 23) (m := 24) d_128_23 (by decide) ?_
  refine wp_icmpN_ge (pc := 25) (tgt := 46) d_128_25 (by decide) (by omega) (by decide) (fun zq25 => ?_) (fun zq25 => ?_)
  · exact hk I i (fun j hj => hin j (by omega)) hoff
  · refine wp_aload_n (pc := 28) (i := 0) d_128_28 rfl rfl ?_
    refine wp_gA (pc := 29) d_128_29 fl_10_16 rfl ft_9_3 (F_173_3 hF) ?_
    refine wp_iload_n (pc := 32) (i := 1) d_128_32 rfl rfl ?_
    refine wp_aload_n (pc := 33) (i := 0) d_128_33 rfl rfl ?_
    refine wp_gA (pc := 34) d_128_34 fl_10_7 rfl ft_9_0 (F_173_0 hF) ?_
    refine wp_iload_n (pc := 37) (i := 1) d_128_37 rfl rfl ?_
    refine wp_aL (pc := 38) (j := i) d_128_38 rfl rfl (by omega) (by decide) rfl ?_
    refine wp_aS (pc := 39) (j := i) d_128_39 rfl rfl (by omega) (by decide) (fun Iq39 uq39 => ?_)
    refine wq_iincN (pc := 40) (L2 := [_, _]) d_128_40 rfl (b := 1) (by decide) rfl rfl ?_
    refine wp_goto (pc := 43) (tgt := 22) d_128_43 (by decide) ?_
    refine ih0 (i + 1) zq25 rfl _ (fun q hq => ?_) (fun a ha => (uq39.2 a ha).trans (hoff a ha))
    by_cases e : q = i
    · rw [e, uq39.at, hoff 174 (by decide)]
    · rw [uq39.ne e]; exact hin q (by omega)
theorem stra_loop {Po : RT → Prop} {I1 : IT} {J : JT} {F : FT} (hF : Fok F) (hk : ∀ (I : IT) (i : Nat), (∀ q, q < 24 → I 176 q = I1 174 q) → (∀ a, a ≠ 176 → I a = I1 a) → Wp none 128 Po 46 [some (vR 173), some (vI (nI i))] [] KK I J F) : ∀ (d i : Nat), i + d = 24 → ∀ (I : IT), (∀ q, q < i → I 176 q = I1 174 q) → (∀ a, a ≠ 176 → I a = I1 a) → Wp none 128 Po 22 [some (vR 173), some (vI (nI i))] [] KK I J F := by
  intro d
  induction d with
  | zero =>
    intro i hid I hin hoff
    exact stra_step hF hk i (by omega) I hin hoff (fun i' hlt => absurd hlt (by omega))
  | succ d ih =>
    intro i hid I hin hoff
    exact stra_step hF hk i (by omega) I hin hoff (fun i' hlt he => ih i' (by omega))

set_option maxRecDepth 4000 in
theorem strb_step {Po : RT → Prop} {I1 : IT} {J : JT} {F : FT} (hF : Fok F) (hk : ∀ (I : IT) (i : Nat), (∀ q, q < 6 → I 177 q = I1 175 q) → (∀ q, 6 ≤ q → q < 30 → I 177 q = nI 0) → (∀ a, a ≠ 177 → I a = I1 a) → Wp none 128 Po 82 [some (vR 173), some (vI (nI i))] [] KK I J F) (i : Nat) (hi0 : i ≤ 30) (I : IT) (hin : ∀ q, q < i → q < 6 → I 177 q = I1 175 q) (hin2 : ∀ q, q < i → 6 ≤ q → I 177 q = nI 0) (hoff : ∀ a, a ≠ 177 → I a = I1 a)
    (ih0 : ∀ i', i < 30 → i' = i + 1 → ∀ (I : IT), (∀ q, q < i' → q < 6 → I 177 q = I1 175 q) → (∀ q, q < i' → 6 ≤ q → I 177 q = nI 0) → (∀ a, a ≠ 177 → I a = I1 a) → Wp none 128 Po 48 [some (vR 173), some (vI (nI i'))] [] KK I J F) : Wp none 128 Po 48 [some (vR 173), some (vI (nI i))] [] KK I J F := by
  refine wp_iload_n (pc := 48) (i := 1) d_128_48 rfl rfl ?_
  refine wp_bpN (pc := 49) (m := 30) d_128_49 (by decide) ?_
  refine wp_icmpN_ge (pc := 51) (tgt := 82) d_128_51 (by decide) (by omega) (by decide) (fun zq51 => ?_) (fun zq51 => ?_)
  · exact hk I i (fun q hq => hin q (by omega) hq) (fun q h1 h2 => hin2 q (by omega) h1) hoff
  · refine wp_aload_n (pc := 54) (i := 0) d_128_54 rfl rfl ?_
    refine wp_gA (pc := 55) d_128_55 fl_10_19 rfl ft_9_4 (F_173_4 hF) ?_
    refine wp_iload_n (pc := 58) (i := 1) d_128_58 rfl rfl ?_
    refine wp_iload_n (pc := 59) (i := 1) d_128_59 rfl rfl ?_
    refine wp_bpN (pc := 60) (m := 6) d_128_60 (by decide) ?_
    refine wp_icmpN_ge (pc := 62) (tgt := 74) d_128_62 (by decide) (by omega) (by decide) (fun zq62 => ?_) (fun zq62 => ?_)
    · refine wp_icN (pc := 74) (m := 0) d_128_74 (by decide) ?_
      refine wp_aS (pc := 75) (j := i) d_128_75 rfl rfl (by omega) (by decide) (fun Iq75 uq75 => ?_)
      refine wq_iincN (pc := 76) (L2 := [_, _]) d_128_76 rfl (b := 1) (by decide) rfl rfl ?_
      refine wp_goto (pc := 79) (tgt := 48) d_128_79 (by decide) ?_
      refine ih0 (i + 1) zq51 rfl _ (fun q hq hq6 => ?_) (fun q hq hq6 => ?_) (fun a ha => (uq75.2 a ha).trans (hoff a ha))
      · by_cases e : q = i
        · omega
        · rw [uq75.ne e]; exact hin q (by omega) hq6
      · by_cases e : q = i
        · rw [e, uq75.at]
        · rw [uq75.ne e]; exact hin2 q (by omega) hq6
    · refine wp_aload_n (pc := 65) (i := 0) d_128_65 rfl rfl ?_
      refine wp_gA (pc := 66) d_128_66 fl_10_13 rfl ft_9_1 (F_173_1 hF) ?_
      refine wp_iload_n (pc := 69) (i := 1) d_128_69 rfl rfl ?_
      refine wp_aL (pc := 70) (j := i) d_128_70 rfl rfl (by omega) (by decide) rfl ?_
      refine wp_goto (pc := 71) (tgt := 75) d_128_71 (by decide) ?_
      refine wp_aS (pc := 75) (j := i) d_128_75 rfl rfl (by omega) (by decide) (fun Iq75 uq75 => ?_)
      refine wq_iincN (pc := 76) (L2 := [_, _]) d_128_76 rfl (b := 1) (by decide) rfl rfl ?_
      refine wp_goto (pc := 79) (tgt := 48) d_128_79 (by decide) ?_
      refine ih0 (i + 1) zq51 rfl _ (fun q hq hq6 => ?_) (fun q hq hq6 => ?_) (fun a ha => (uq75.2 a ha).trans (hoff a ha))
      · by_cases e : q = i
        · rw [e, uq75.at, hoff 175 (by decide)]
        · rw [uq75.ne e]; exact hin q (by omega) hq6
      · by_cases e : q = i
        · omega
        · rw [uq75.ne e]; exact hin2 q (by omega) hq6
theorem strb_loop {Po : RT → Prop} {I1 : IT} {J : JT} {F : FT} (hF : Fok F) (hk : ∀ (I : IT) (i : Nat), (∀ q, q < 6 → I 177 q = I1 175 q) → (∀ q, 6 ≤ q → q < 30 → I 177 q = nI 0) → (∀ a, a ≠ 177 → I a = I1 a) → Wp none 128 Po 82 [some (vR 173), some (vI (nI i))] [] KK I J F) : ∀ (d i : Nat), i + d = 30 → ∀ (I : IT), (∀ q, q < i → q < 6 → I 177 q = I1 175 q) → (∀ q, q < i → 6 ≤ q → I 177 q = nI 0) → (∀ a, a ≠ 177 → I a = I1 a) → Wp none 128 Po 48 [some (vR 173), some (vI (nI i))] [] KK I J F := by
  intro d
  induction d with
  | zero =>
    intro i hid I hin hin2 hoff
    exact strb_step hF hk i (by omega) I hin hin2 hoff (fun i' hlt => absurd hlt (by omega))
  | succ d ih =>
    intro i hid I hin hin2 hoff
    exact strb_step hF hk i (by omega) I hin hin2 hoff (fun i' hlt he => ih i' (by omega))

theorem fin_ok {tx : Nat → Nat} {tl : Nat} (h256 : ∀ j, tx j < 256) : ∀ d pl mz, okM mz → ∀ {mz2 : PS}, (finN tx tl d pl mz).2 = some mz2 → okM mz2 := by
  intro d
  induction d with
  | zero =>
    intro pl mz hok mz2 h
    unfold finN at h
    by_cases e : 0 < tl ∧ mz.2.2.1 = 0
    · rw [if_pos e] at h; cases h; exact hok
    · rw [if_neg e] at h; cases h
  | succ d ih =>
    intro pl mz hok mz2 h
    rcases hcs : stepM pl (tx pl) mz with _ | mz3
    · rw [fin_none hcs] at h; cases h
    · rw [fin_some hcs] at h; exact ih (pl + 1) mz3 (okP_step hok hcs) h
set_option maxRecDepth 4000 in
theorem m_gstreet {I : IT} {J : JT} {F : FT} {t : Nat} {tx : Nat → Nat} {tl : Nat} {ρ : SN} {n : Nat} {σ : SN} {rg : Nat → SN} {nx na : Nat} {γ : SN} {gn : Nat} {sl : Nat → SN} {sf : Nat → Bool} {sd : Int64} (hF : Fok F) (hC : MR I J tx tl ρ n σ rg nx na γ gn sl sf sd) (hO : OKS t tx tl ρ n σ rg nx na γ gn sl sf) (ht : t + 100 ≤ 1000) : Sp 128 [vR 173] KK I J F (PN (q_street tx tl ρ n σ rg nx na γ gn sl sf sd) I J F) := by
  have hC0 := hC
  obtain ⟨hTx, hRo, hNo, hAc, hGa, hSl, hsd⟩ := hC
  obtain ⟨ht40, hx256, hρ, hok, hrg, hnx, hna, hgo, hsl, hz, hzr, hzs, hn6⟩ := hO
  have hd64 := hok.2.2.2.2.2
  have hgn6 := hGa.1
  refine Sp.mk2 (Nat.le_of_ble_eq_true rfl) (L2 := [_, _]) rfl ?_
  refine wp_aload_n (pc := 0) (i := 0) d_128_0 rfl rfl ?_
  refine wp_callV0e (pc := 1) d_128_1 lk_10_87 (by decide) rfl (Nat.le_of_ble_eq_true rfl) rfl rfl (m_readText hF ht40 hx256 hTx) (fun Iq1 hq1 => ?_)
  refine wp_bipush (pc := 4) (v := (-9)) d_128_4 (by decide) ?_
  refine wp_icmp_eq (pc := 6) (tgt := 12) d_128_6 (by decide) (fun zq6 => ?_) (fun zq6 => ?_)
  · obtain ⟨mz, hmz⟩ : ∃ mz, (fltN tx tl).2 = some mz := by
      rcases fin_cases tx ht40 tl 0 PS0 (by omega) with h | h
      · exact h.2
      · exact absurd zq6 h.1
    have hps := hq1.2 mz hmz
    have hfr1 := hq1.1
    have hmok : okM mz := fin_ok hx256 tl 0 PS0 okM_0 hmz
    refine wp_aload_n (pc := 12) (i := 0) d_128_12 rfl rfl ?_
    refine wp_aload_n (pc := 13) (i := 0) d_128_13 rfl rfl ?_
    refine wp_gI (pc := 14) d_128_14 fl_10_76 rfl ft_9_2 hps.1 ?_
    refine wp_pI (pc := 17) d_128_17 fl_10_53 rfl ft_9_5 rfl (fun Iq17 uq17 => ?_)
    refine wp_icN (pc := 20) (m := 0) d_128_20 (by decide) ?_
    refine wq_istore_n (pc := 21) (L2 := [_, _]) (i := 1) d_128_21 rfl (Nat.le_of_ble_eq_true rfl) rfl rfl ?_
    refine stra_loop (I1 := Iq17) hF (fun I3 i3 h176 hoff3 => ?_) 24 0 (by omega) Iq17 (fun j hj => absurd hj (Nat.not_lt_zero j)) (fun _ _ => rfl)
    refine wp_icN (pc := 46) (m := 0) d_128_46 (by decide) ?_
    refine wq_istore_n (pc := 47) (L2 := [_, _]) (i := 1) d_128_47 rfl (Nat.le_of_ble_eq_true rfl) rfl rfl ?_
    refine strb_loop (I1 := I3) hF (fun I4 i4 hlo4 hhi4 hoff4 => ?_) 30 0 (by omega) I3 (fun j hj => absurd hj (Nat.not_lt_zero j)) (fun j hj => absurd hj (Nat.not_lt_zero j)) (fun _ _ => rfl)
    refine wp_aload_n (pc := 82) (i := 0) d_128_82 rfl rfl ?_
    refine wp_icN (pc := 83) (m := 0) d_128_83 (by decide) ?_
    refine wp_pI (pc := 84) d_128_84 fl_10_90 rfl ft_9_6 rfl (fun Iq84 uq84 => ?_)
    refine wp_aload_n (pc := 87) (i := 0) d_128_87 rfl rfl ?_
    refine wp_icN (pc := 88) (m := 0) d_128_88 (by decide) ?_
    refine wp_pI (pc := 89) d_128_89 fl_10_93 rfl ft_9_7 rfl (fun Iq89 uq89 => ?_)
    refine wp_aload_n (pc := 92) (i := 0) d_128_92 rfl rfl ?_
    refine wp_icN (pc := 93) (m := 0) d_128_93 (by decide) ?_
    refine wp_pI (pc := 94) d_128_94 fl_10_96 rfl ft_9_12 rfl (fun Iq94 uq94 => ?_)
    refine wp_aload_n (pc := 97) (i := 0) d_128_97 rfl rfl ?_
    refine wp_gA (pc := 98) d_128_98 fl_10_46 rfl ft_9_24 (F_173_24 hF) ?_
    refine wp_icN (pc := 101) (m := 0) d_128_101 (by decide) ?_
    refine wp_icN (pc := 102) (m := 0) d_128_102 (by decide) ?_
    refine wp_zS (pc := 103) (j := 0) d_128_103 rfl rfl (by omega) (by decide) (by decide) (fun Iq103 uq103 => ?_)
    refine wp_aload_n (pc := 104) (i := 0) d_128_104 rfl rfl ?_
    refine wp_gA (pc := 105) d_128_105 fl_10_46 rfl ft_9_24 (F_173_24 hF) ?_
    refine wp_icN (pc := 108) (m := 1) d_128_108 (by decide) ?_
    refine wp_icN (pc := 109) (m := 0) d_128_109 (by decide) ?_
    refine wp_zS (pc := 110) (j := 1) d_128_110 rfl rfl (by omega) (by decide) (by decide) (fun Iq110 uq110 => ?_)
    refine wp_aload_n (pc := 111) (i := 0) d_128_111 rfl rfl ?_
    refine wp_gI (pc := 112) d_128_112 fl_10_53 rfl ft_9_5 ((uq110.off (by decide)).trans ((uq103.off (by decide)).trans ((uq94.ne (by decide)).trans ((uq89.ne (by decide)).trans ((uq84.ne (by decide)).trans ((congrFun (hoff4 173 (by decide)) _).trans ((congrFun (hoff3 173 (by decide)) _).trans uq17.at))))))) ?_
    have harr : ∀ a, a ≠ 173 → a ≠ 174 → a ≠ 175 → a ≠ 176 → a ≠ 177 → a ≠ 186 → Iq110 a = I a := fun a g1 g2 g3 g4 g5 g6 => by rw [uq110.2 a g6, uq103.2 a g6, uq94.2 a g1, uq89.2 a g1, uq84.2 a g1, hoff4 a g5, hoff3 a g4, uq17.2 a g1, hfr1.2 a g1 g2 g3]
    have h173 : ∀ q, q ≠ 2 → q ≠ 5 → q ≠ 6 → q ≠ 7 → q ≠ 10 → q ≠ 11 → q ≠ 12 → Iq110 173 q = I 173 q := fun q g1 g2 g3 g4 g5 g6 g7 => by rw [uq110.off (by decide), uq103.off (by decide), uq94.ne g7, uq89.ne g4, uq84.ne g3, hoff4 173 (by decide), hoff3 173 (by decide), uq17.ne g2, hfr1.1 q g1 g5 g6]
    have hR2 : mRo Iq110 mz.2.1 mz.1 := by
      refine ⟨hmok.1, ?_, fun k hk j hj => ?_⟩
      · rw [uq110.off (by decide), uq103.off (by decide), uq94.ne (by decide), uq89.ne (by decide), uq84.ne (by decide), hoff4 173 (by decide), hoff3 173 (by decide)]; exact uq17.at
      · have hm6 := hmok.1
        rw [uq110.off (by decide), uq103.off (by decide), uq94.off (by decide), uq89.off (by decide), uq84.off (by decide), hoff4 176 (by decide), h176 _ (by omega), uq17.off (by decide)]; exact hps.2.1 k hk j hj
    have h177 : Iq110 177 = I4 177 := by rw [uq110.2 177 (by decide), uq103.2 177 (by decide), uq94.2 177 (by decide), uq89.2 177 (by decide), uq84.2 177 (by decide)]
    have hN2 : mNo Iq110 (beginN mz.2.1 mz.1) := by
      refine ⟨⟨fun k hk j hj => ?_, ?_, ?_⟩, ?_, ?_⟩
      · rw [h177]
        unfold beginN
        by_cases e : k = 0
        · subst e
          rw [if_pos rfl, show 0 + 6 * 0 + j = j by omega, hlo4 j hj, hoff3 175 (by decide), uq17.off (by decide)]
          by_cases e2 : j < mz.1
          · rw [if_pos e2]; exact hps.2.2.1 j e2
          · rw [if_neg e2]; exact hps.2.2.2 j (by omega) hj
        · rw [if_neg e]; exact hhi4 _ (by omega) (by omega)
      · rw [h177]; exact hhi4 _ (by omega) (by omega)
      · rw [h177]; exact hhi4 _ (by omega) (by omega)
      · rw [uq110.off (by decide), uq103.off (by decide), uq94.ne (by decide)]; exact uq89.at
      · rw [uq110.off (by decide), uq103.off (by decide), uq94.ne (by decide), uq89.ne (by decide)]; exact uq84.at
    have hS2 : mSl Iq110 sl (fun _ => false) := by
      refine ⟨by rw [harr 187 (by decide) (by decide) (by decide) (by decide) (by decide) (by decide)]; exact hSl.1, fun i hi => ?_⟩
      have h01 : i = 0 ∨ i = 1 := by omega
      rcases h01 with rfl | rfl
      · exact (uq110.ne (by decide)).trans uq103.at
      · exact uq110.at
    exact wp_iret (pc := 115) d_128_115 (Or.inl rfl) (PN.mk (by unfold q_street; rw [hmz]; rfl) ⟨⟨(h173 9 (by decide) (by decide) (by decide) (by decide) (by decide) (by decide) (by decide)).trans hTx.1, fun j hj => by rw [harr 178 (by decide) (by decide) (by decide) (by decide) (by decide) (by decide)]; exact hTx.2 j hj⟩, hR2, hN2, ⟨(h173 13 (by decide) (by decide) (by decide) (by decide) (by decide) (by decide) (by decide)).trans hAc.1, (uq110.off (by decide)).trans ((uq103.off (by decide)).trans uq94.at), by rw [harr 179 (by decide) (by decide) (by decide) (by decide) (by decide) (by decide)]; exact hAc.2.2⟩, ⟨hGa.1, (h173 19 (by decide) (by decide) (by decide) (by decide) (by decide) (by decide) (by decide)).trans hGa.2.1, by rw [harr 183 (by decide) (by decide) (by decide) (by decide) (by decide) (by decide), harr 184 (by decide) (by decide) (by decide) (by decide) (by decide) (by decide), harr 185 (by decide) (by decide) (by decide) (by decide) (by decide) (by decide)]; exact hGa.2.2⟩, hS2, hsd⟩ ⟨fun a ha => harr a (by omega) (by omega) (by omega) (by omega) (by omega) (by omega), rfl⟩)
  · refine wp_bipush (pc := 9) (v := (-3)) d_128_9 (by decide) ?_
    have hnn : (fltN tx tl).2 = none := by
      rcases fin_cases tx ht40 tl 0 PS0 (by omega) with h | h
      · exact absurd h.1 zq6
      · exact h.2
    exact wp_iret (pc := 11) d_128_11 (Or.inl rfl) (PN.mk (by unfold q_street; rw [hnn]; rfl) (hC0.k hq1.1.M) hq1.1.M.O)
