set_option maxRecDepth 4000 in
theorem mundo_step {Po : RT → Prop} {I0 : IT} {J : JT} {F : FT} {m2 : Nat} (hm2 : m2 < 12) (h13 : I0 173 13 = nI m2) (hF : Fok F) (hk : ∀ (I : IT) (i : Nat), i = 26 → (∀ q, q < 26 → I 177 (q) = I0 179 (27 * m2 + q)) → (∀ q, (q < 0 ∨ 0 + 26 ≤ q) → I 177 q = I0 177 q) → (∀ a, a ≠ 177 → I a = I0 a) → Wp none 139 Po 68 [some (vR 173), some (vI (nI i))] [] KK I J F) (i : Nat) (hi0 : i ≤ 26) (I : IT) (hin : ∀ q, q < i → I 177 (q) = I0 179 (27 * m2 + q)) (hlo : ∀ q, (q < 0 ∨ 0 + 26 ≤ q) → I 177 q = I0 177 q) (hoff : ∀ a, a ≠ 177 → I a = I0 a)
    (ih0 : ∀ i', i < 26 → i' = i + 1 → ∀ (I : IT), (∀ q, q < i' → I 177 (q) = I0 179 (27 * m2 + q)) → (∀ q, (q < 0 ∨ 0 + 26 ≤ q) → I 177 q = I0 177 q) → (∀ a, a ≠ 177 → I a = I0 a) → Wp none 139 Po 36 [some (vR 173), some (vI (nI i'))] [] KK I J F) : Wp none 139 Po 36 [some (vR 173), some (vI (nI i))] [] KK I J F := by
  refine wp_iload_n (pc := 36) (i := 1) d_139_36 rfl rfl ?_
  refine wp_bpN (pc := 37) (m := 26) d_139_37 (by decide) ?_
  refine wp_icmpN_ge (pc := 39) (tgt := 68) d_139_39 (by decide) (by omega) (by decide) (fun zq39 => ?_) (fun zq39 => ?_)
  · exact hk I i (by omega) (fun q hq => hin q (by omega)) hlo hoff
  · refine wp_aload_n (pc := 42) (i := 0) d_139_42 rfl rfl ?_
    refine wp_gA (pc := 43) d_139_43 fl_10_19 rfl ft_9_4 (F_173_4 hF) ?_
    refine wp_iload_n (pc := 46) (i := 1) d_139_46 rfl rfl ?_
    refine wp_aload_n (pc := 47) (i := 0) d_139_47 rfl rfl ?_
    refine wp_gA (pc := 48) d_139_48 fl_10_25 rfl ft_9_14 (F_173_14 hF) ?_
    refine wp_bpN (pc := 51) (m := 27) d_139_51 (by decide) ?_
    refine wp_aload_n (pc := 53) (i := 0) d_139_53 rfl rfl ?_
    refine wp_gI (pc := 54) d_139_54 fl_10_111 rfl ft_9_13 ((congrFun (hoff 173 (by decide)) 13).trans h13) ?_
    refine wp_imulN (pc := 57) d_139_57 ?_
    refine wp_iload_n (pc := 58) (i := 1) d_139_58 rfl rfl ?_
    refine wp_iaddN (pc := 59) d_139_59 ?_
    refine wp_aL (pc := 60) (j := ((27 * m2) + i)) d_139_60 rfl rfl (by omega) (by decide) rfl ?_
    refine wp_aS (pc := 61) (j := i) d_139_61 rfl rfl (by omega) (by decide) (fun Iq61 uq61 => ?_)
    refine wq_iincN (pc := 62) (L2 := [_, _]) d_139_62 rfl (b := 1) (by decide) rfl rfl ?_
    refine wp_goto (pc := 65) (tgt := 36) d_139_65 (by decide) ?_
    refine ih0 (i + 1) zq39 rfl _ (fun q hq => ?_) (fun q hq => (uq61.ne (by omega)).trans (hlo q hq)) (fun a ha => (uq61.2 a ha).trans (hoff a ha))
    by_cases e : q = i
    · subst e; exact uq61.at.trans (by rw [hoff 179 (by decide)])
    · exact (uq61.ne (by omega)).trans (hin q (by omega))
theorem mundo_loop {Po : RT → Prop} {I0 : IT} {J : JT} {F : FT} {m2 : Nat} (hm2 : m2 < 12) (h13 : I0 173 13 = nI m2) (hF : Fok F) (hk : ∀ (I : IT) (i : Nat), i = 26 → (∀ q, q < 26 → I 177 (q) = I0 179 (27 * m2 + q)) → (∀ q, (q < 0 ∨ 0 + 26 ≤ q) → I 177 q = I0 177 q) → (∀ a, a ≠ 177 → I a = I0 a) → Wp none 139 Po 68 [some (vR 173), some (vI (nI i))] [] KK I J F) : ∀ (d i : Nat), i + d = 26 → ∀ (I : IT), (∀ q, q < i → I 177 (q) = I0 179 (27 * m2 + q)) → (∀ q, (q < 0 ∨ 0 + 26 ≤ q) → I 177 q = I0 177 q) → (∀ a, a ≠ 177 → I a = I0 a) → Wp none 139 Po 36 [some (vR 173), some (vI (nI i))] [] KK I J F := by
  intro d
  induction d with
  | zero =>
    intro i hid I hin hlo hoff
    exact mundo_step hm2 h13 hF hk i (by omega) I hin hlo hoff (fun i' hlt => absurd hlt (by omega))
  | succ d ih =>
    intro i hid I hin hlo hoff
    exact mundo_step hm2 h13 hF hk i (by omega) I hin hlo hoff (fun i' hlt he => ih i' (by omega))

set_option maxRecDepth 4000 in
theorem m_gundo {I : IT} {J : JT} {F : FT} {t : Nat} {tx : Nat → Nat} {tl : Nat} {ρ : SN} {n : Nat} {σ : SN} {rg : Nat → SN} {nx na : Nat} {γ : SN} {gn : Nat} {sl : Nat → SN} {sf : Nat → Bool} {sd : Int64} (hF : Fok F) (hC : MR I J tx tl ρ n σ rg nx na γ gn sl sf sd) (hO : OKS t tx tl ρ n σ rg nx na γ gn sl sf) (ht : t + 100 ≤ 1000) : Sp 139 [vR 173] KK I J F (PN (q_undo tx tl ρ n σ rg nx na γ gn sl sf sd) I J F) := by
  have hC0 := hC
  obtain ⟨hTx, hRo, hNo, hAc, hGa, hSl, hsd⟩ := hC
  obtain ⟨ht40, hx256, hρ, hok, hrg, hnx, hna, hgo, hsl, hz, hzr, hzs, hn6⟩ := hO
  have hd64 := hok.2.2.2.2.2
  have hgn6 := hGa.1
  refine Sp.mk2 (Nat.le_of_ble_eq_true rfl) (L2 := [_, _]) rfl ?_
  refine wp_aload_n (pc := 0) (i := 0) d_139_0 rfl rfl ?_
  refine wp_gI (pc := 1) d_139_1 fl_10_96 rfl ft_9_12 hAc.2.1 ?_
  refine wp_ifN_ne (pc := 4) (tgt := 10) d_139_4 (by decide) (by omega) (fun zq4 => ?_) (fun zq4 => ?_)
  · refine wp_aload_n (pc := 10) (i := 0) d_139_10 rfl rfl ?_
    refine wp_dup (pc := 11) d_139_11 rfl ?_
    refine wp_gI (pc := 12) d_139_12 fl_10_96 rfl ft_9_12 hAc.2.1 ?_
    refine wp_icN (pc := 15) (m := 1) d_139_15 (by decide) ?_
    refine wp_isubN (pc := 16) d_139_16 (by omega) ?_
    refine wp_pI (pc := 17) d_139_17 fl_10_96 rfl ft_9_12 rfl (fun Iq17 uq17 => ?_)
    refine wp_aload_n (pc := 20) (i := 0) d_139_20 rfl rfl ?_
    refine wp_aload_n (pc := 21) (i := 0) d_139_21 rfl rfl ?_
    refine wp_gI (pc := 22) d_139_22 fl_10_111 rfl ft_9_13 ((uq17.ne (by decide)).trans hAc.1) ?_
    refine wp_bpN (pc := 25) (m := 11) d_139_25 (by decide) ?_
    refine wp_iaddN (pc := 27) d_139_27 ?_
    refine wp_bpN (pc := 28) (m := 12) d_139_28 (by decide) ?_
    refine wp_iremN (pc := 30) d_139_30 (by omega) (by omega) (by decide) ?_
    refine wp_pI (pc := 31) d_139_31 fl_10_111 rfl ft_9_13 rfl (fun Iq31 uq31 => ?_)
    refine wp_icN (pc := 34) (m := 0) d_139_34 (by decide) ?_
    refine wq_istore_n (pc := 35) (L2 := [_, _]) (i := 1) d_139_35 rfl (Nat.le_of_ble_eq_true rfl) rfl rfl ?_
    refine mundo_loop (I0 := Iq31) (m2 := ((nx + 11) % 12)) (by omega) uq31.at hF (fun I3 i hi hin hlo hoff => ?_) 26 0 (by omega) Iq31 (fun q hq => absurd hq (Nat.not_lt_zero q)) (fun _ _ => rfl) (fun _ _ => rfl)
    refine wp_aload_n (pc := 68) (i := 0) d_139_68 rfl rfl ?_
    refine wp_aload_n (pc := 69) (i := 0) d_139_69 rfl rfl ?_
    refine wp_gA (pc := 70) d_139_70 fl_10_25 rfl ft_9_14 (F_173_14 hF) ?_
    refine wp_bpN (pc := 73) (m := 27) d_139_73 (by decide) ?_
    refine wp_aload_n (pc := 75) (i := 0) d_139_75 rfl rfl ?_
    refine wp_gI (pc := 76) d_139_76 fl_10_111 rfl ft_9_13 ((congrFun (hoff 173 (by decide)) 13).trans uq31.at) ?_
    refine wp_imulN (pc := 79) d_139_79 ?_
    refine wp_bpN (pc := 80) (m := 26) d_139_80 (by decide) ?_
    refine wp_iaddN (pc := 82) d_139_82 ?_
    refine wp_aL (pc := 83) (j := ((27 * ((nx + 11) % 12)) + 26)) d_139_83 rfl rfl (by omega) (by decide) ((congrFun (hoff 179 (by decide)) _).trans ((uq31.off (by decide)).trans ((uq17.off (by decide)).trans (hAc.2.2 ((nx + 11) % 12) (by omega)).2))) ?_
    refine wp_pI (pc := 84) d_139_84 fl_10_93 rfl ft_9_7 rfl (fun Iq84 uq84 => ?_)
    refine wp_aload_n (pc := 87) (i := 0) d_139_87 rfl rfl ?_
    refine wp_gI (pc := 88) d_139_88 fl_10_96 rfl ft_9_12 ((uq84.ne (by decide)).trans ((congrFun (hoff 173 (by decide)) 12).trans ((uq31.ne (by decide)).trans uq17.at))) ?_
    have hmr := hAc.2.2 ((nx + 11) % 12) (by omega)
    have h173 : ∀ q, q ≠ 7 → q ≠ 12 → q ≠ 13 → Iq84 173 q = I 173 q := fun q h1 h2 h3 => by rw [uq84.ne h1, hoff 173 (by decide), uq31.ne h3, uq17.ne h2]
    have harr : ∀ a, a ≠ 173 → a ≠ 177 → Iq84 a = I a := fun a h1 h2 => by rw [uq84.2 a h1, hoff a h2, uq31.2 a h1, uq17.2 a h1]
    have hN2 : mNo Iq84 (s2 (rg ((nx + 11) % 12)) 4 7 (σ 4 7)) := by
      refine ⟨(hmr.1.cp (f2 := 0) (fun q hq => ?_)).cong (fun k hk j hj => by rw [s2_nk (by omega)]) (by rw [s2_nj (by decide)]) (by rw [s2_nj (by decide)]), ?_, ?_⟩
      · rw [Nat.zero_add, uq84.off (by decide), hin q hq, uq31.off (by decide), uq17.off (by decide)]
      · rw [uq84.at, s2_nj (by decide)]
      · rw [h173 6 (by decide) (by decide) (by decide), s2_eq]; exact hNo.2.2
    exact wp_iret (pc := 91) d_139_91 (Or.inl rfl) (PN.mk (by unfold q_undo; rw [if_neg (show ¬ na < 1 by omega)]) ⟨⟨(h173 9 (by decide) (by decide) (by decide)).trans hTx.1, fun j hj => by rw [harr 178 (by decide) (by decide)]; exact hTx.2 j hj⟩, hRo.k (h173 5 (by decide) (by decide) (by decide)) (by rw [harr 176 (by decide) (by decide)]), hN2, ⟨(uq84.ne (by decide)).trans ((congrFun (hoff 173 (by decide)) 13).trans uq31.at), (uq84.ne (by decide)).trans ((congrFun (hoff 173 (by decide)) 12).trans ((uq31.ne (by decide)).trans uq17.at)), by rw [harr 179 (by decide) (by decide)]; exact hAc.2.2⟩, ⟨hGa.1, (h173 19 (by decide) (by decide) (by decide)).trans hGa.2.1, by rw [harr 183 (by decide) (by decide), harr 184 (by decide) (by decide), harr 185 (by decide) (by decide)]; exact hGa.2.2⟩, ⟨by rw [harr 187 (by decide) (by decide)]; exact hSl.1, by rw [harr 186 (by decide) (by decide)]; exact hSl.2⟩, hsd⟩ ⟨fun a ha => harr a (by omega) (by omega), rfl⟩)
  · refine wp_bipush (pc := 7) (v := (-3)) d_139_7 (by decide) ?_
    exact wp_iret (pc := 9) d_139_9 (Or.inl rfl) (PN.mk (by unfold q_undo; rw [if_pos (show na < 1 by omega)]) hC0 ⟨fun _ _ => rfl, rfl⟩)
set_option maxRecDepth 4000 in
theorem m_ggot {I : IT} {J : JT} {F : FT} {t : Nat} {tx : Nat → Nat} {tl : Nat} {ρ : SN} {n : Nat} {σ : SN} {rg : Nat → SN} {nx na : Nat} {γ : SN} {gn : Nat} {sl : Nat → SN} {sf : Nat → Bool} {sd : Int64} (hF : Fok F) (hC : MR I J tx tl ρ n σ rg nx na γ gn sl sf sd) (hO : OKS t tx tl ρ n σ rg nx na γ gn sl sf) (ht : t + 100 ≤ 1000) {x y r : Int32} : Sp 140 [vR 173, vI x, vI y, vI r] KK I J F (PN (a_got ρ n σ x y r, (tx, tl, ρ, n, σ, rg, nx, na, γ, gn, sl, sf, sd)) I J F) := by
  have hC0 := hC
  obtain ⟨hTx, hRo, hNo, hAc, hGa, hSl, hsd⟩ := hC
  obtain ⟨ht40, hx256, hρ, hok, hrg, hnx, hna, hgo, hsl, hz, hzr, hzs, hn6⟩ := hO
  have hd64 := hok.2.2.2.2.2
  have hgn6 := hGa.1
  refine Sp.mk2 (Nat.le_of_ble_eq_true rfl) (L2 := [_, _, _, _]) rfl ?_
  refine wp_aload_n (pc := 0) (i := 0) d_140_0 rfl rfl ?_
  refine wp_iload_n (pc := 1) (i := 1) d_140_1 rfl rfl ?_
  refine wp_callV1p (pc := 2) d_140_2 lk_10_99 (by decide) rfl (Nat.le_of_ble_eq_true rfl) rfl rfl (m_isRoof hF hRo x) ?_
  refine wp_ifB_ne (pc := 5) (tgt := 10) d_140_5 (by decide) (fun zq5 => ?_) (fun zq5 => ?_)
  · obtain ⟨jr, hjr, hxjr⟩ := inR_t zq5 (by omega)
    subst hxjr
    have hcjr : (nI jr).toNatClampNeg = jr := nI_clamp (by omega)
    refine wp_iload_n (pc := 10) (i := 2) d_140_10 rfl rfl ?_
    refine wp_i2l (pc := 11) d_140_11 ?_
    refine wp_lconst (pc := 12) (v := lN 0) d_140_12 (by decide) ?_
    refine wr_ldc2M (pc := 13) (m := 20) d_140_13 cs_10_127 (by decide) ?_
    refine wp_callS3p (pc := 16) d_140_16 lk_10_59 (by decide) rfl (Nat.le_of_ble_eq_true rfl) (c_inN y 0 20 (by decide) (by decide)) ?_
    refine wp_ifB_eq (pc := 19) (tgt := 34) d_140_19 (by decide) (fun zq19 => ?_) (fun zq19 => ?_)
    · refine wp_bipush (pc := 34) (v := (-2)) d_140_34 (by decide) ?_
      exact wp_iret (pc := 36) d_140_36 (Or.inl rfl) (PN.q (by unfold a_got; rw [if_pos zq5, if_neg (nT zq19)]) hC0 ⟨fun _ _ => rfl, rfl⟩)
    · obtain ⟨jq, h0jq, h1jq, hxjq⟩ := inB_t zq19 (by decide) (by decide)
      subst hxjq
      have hcjq : (nI jq).toNatClampNeg = jq := nI_clamp (by omega)
      refine wp_iload_n (pc := 22) (i := 3) d_140_22 rfl rfl ?_
      refine wp_i2l (pc := 23) d_140_23 ?_
      refine wp_lconst (pc := 24) (v := lN 0) d_140_24 (by decide) ?_
      refine wr_ldc2M (pc := 25) (m := 9) d_140_25 cs_10_74 (by decide) ?_
      refine wp_callS3p (pc := 28) d_140_28 lk_10_59 (by decide) rfl (Nat.le_of_ble_eq_true rfl) (c_inN r 0 9 (by decide) (by decide)) ?_
      refine wp_ifB_ne (pc := 31) (tgt := 37) d_140_31 (by decide) (fun zq31 => ?_) (fun zq31 => ?_)
      · obtain ⟨rn, h0rn, h1rn, hxrn⟩ := inB_t zq31 (by decide) (by decide)
        subst hxrn
        have hcrn : (nI rn).toNatClampNeg = rn := nI_clamp (by omega)
        refine wp_aload_n (pc := 37) (i := 0) d_140_37 rfl rfl ?_
        refine wp_iload_n (pc := 38) (i := 2) d_140_38 rfl rfl ?_
        refine wp_iload_n (pc := 39) (i := 3) d_140_39 rfl rfl ?_
        refine wp_aload_n (pc := 40) (i := 0) d_140_40 rfl rfl ?_
        refine wp_gI (pc := 41) d_140_41 fl_10_90 rfl ft_9_6 hNo.2.2 ?_
        refine wp_callV3v (pc := 44) d_140_44 lk_10_129 (by decide) rfl (Nat.le_of_ble_eq_true rfl) rfl rfl (m_goOn (q := jq) (rn := rn) hF hRo hρ hd64 (by omega) hok (by omega) hNo.1) (fun Iq44 hq44 => ?_)
        have hscm := (show SCP I Iq44 from hq44.2).M
        refine wp_aload_n (pc := 47) (i := 0) d_140_47 rfl rfl ?_
        refine wp_gA (pc := 48) d_140_48 fl_10_19 rfl ft_9_4 (F_173_4 hF) ?_
        refine wp_bpN (pc := 51) (m := 42) d_140_51 (by decide) ?_
        refine wp_iload_n (pc := 53) (i := 1) d_140_53 rfl rfl ?_
        refine wp_iaddN (pc := 54) d_140_54 ?_
        refine wp_aL (pc := 55) (j := (42 + jr)) d_140_55 rfl rfl (by omega) (by decide) (hq44.1.1 2 (by decide) jr (by omega)) ?_
        exact wp_iret (pc := 56) d_140_56 (Or.inl rfl) (PN.q (by unfold a_got; rw [if_pos zq5, if_pos zq19, if_pos zq31, hcjr, hcjq, hcrn]) (hC0.k hscm) hscm.O)
      · refine wp_bipush (pc := 34) (v := (-2)) d_140_34 (by decide) ?_
        exact wp_iret (pc := 36) d_140_36 (Or.inl rfl) (PN.q (by unfold a_got; rw [if_pos zq5, if_pos zq19, if_neg (nT zq31)]) hC0 ⟨fun _ _ => rfl, rfl⟩)
  · refine wp_iconst (pc := 8) (v := (-1)) d_140_8 (by decide) ?_
    exact wp_iret (pc := 9) d_140_9 (Or.inl rfl) (PN.q (by unfold a_got; rw [if_neg (nT zq5)]) hC0 ⟨fun _ _ => rfl, rfl⟩)
set_option maxRecDepth 4000 in
theorem m_gbutt {I : IT} {J : JT} {F : FT} {t : Nat} {tx : Nat → Nat} {tl : Nat} {ρ : SN} {n : Nat} {σ : SN} {rg : Nat → SN} {nx na : Nat} {γ : SN} {gn : Nat} {sl : Nat → SN} {sf : Nat → Bool} {sd : Int64} (hF : Fok F) (hC : MR I J tx tl ρ n σ rg nx na γ gn sl sf sd) (hO : OKS t tx tl ρ n σ rg nx na γ gn sl sf) (ht : t + 100 ≤ 1000) {y r : Int32} {p : Bool} : Sp 143 [vR 173, vI y, vI r, vI (b2 p)] KK I J F (PN (a_butt ρ n σ y r p, (tx, tl, ρ, n, σ, rg, nx, na, γ, gn, sl, sf, sd)) I J F) := by
  have hC0 := hC
  obtain ⟨hTx, hRo, hNo, hAc, hGa, hSl, hsd⟩ := hC
  obtain ⟨ht40, hx256, hρ, hok, hrg, hnx, hna, hgo, hsl, hz, hzr, hzs, hn6⟩ := hO
  have hd64 := hok.2.2.2.2.2
  have hgn6 := hGa.1
  refine Sp.mk2 (Nat.le_of_ble_eq_true rfl) (L2 := [_, _, _, _]) rfl ?_
  refine wp_iload_n (pc := 0) (i := 1) d_143_0 rfl rfl ?_
  refine wp_i2l (pc := 1) d_143_1 ?_
  refine wp_lconst (pc := 2) (v := lN 0) d_143_2 (by decide) ?_
  refine wr_ldc2M (pc := 3) (m := 20) d_143_3 cs_10_127 (by decide) ?_
  refine wp_callS3p (pc := 6) d_143_6 lk_10_59 (by decide) rfl (Nat.le_of_ble_eq_true rfl) (c_inN y 0 20 (by decide) (by decide)) ?_
  refine wp_ifB_eq (pc := 9) (tgt := 24) d_143_9 (by decide) (fun zq9 => ?_) (fun zq9 => ?_)
  · refine wp_bipush (pc := 24) (v := (-2)) d_143_24 (by decide) ?_
    exact wp_iret (pc := 26) d_143_26 (Or.inl rfl) (PN.q (by unfold a_butt; rw [if_neg (nT zq9)]) hC0 ⟨fun _ _ => rfl, rfl⟩)
  · obtain ⟨jq, h0jq, h1jq, hxjq⟩ := inB_t zq9 (by decide) (by decide)
    subst hxjq
    have hcjq : (nI jq).toNatClampNeg = jq := nI_clamp (by omega)
    refine wp_iload_n (pc := 12) (i := 2) d_143_12 rfl rfl ?_
    refine wp_i2l (pc := 13) d_143_13 ?_
    refine wp_lconst (pc := 14) (v := lN 0) d_143_14 (by decide) ?_
    refine wr_ldc2M (pc := 15) (m := 9) d_143_15 cs_10_74 (by decide) ?_
    refine wp_callS3p (pc := 18) d_143_18 lk_10_59 (by decide) rfl (Nat.le_of_ble_eq_true rfl) (c_inN r 0 9 (by decide) (by decide)) ?_
    refine wp_ifB_ne (pc := 21) (tgt := 27) d_143_21 (by decide) (fun zq21 => ?_) (fun zq21 => ?_)
    · obtain ⟨rn, h0rn, h1rn, hxrn⟩ := inB_t zq21 (by decide) (by decide)
      subst hxrn
      have hcrn : (nI rn).toNatClampNeg = rn := nI_clamp (by omega)
      refine wp_aload_n (pc := 27) (i := 0) d_143_27 rfl rfl ?_
      refine wp_iload_n (pc := 28) (i := 1) d_143_28 rfl rfl ?_
      refine wp_iload_n (pc := 29) (i := 2) d_143_29 rfl rfl ?_
      refine wp_aload_n (pc := 30) (i := 0) d_143_30 rfl rfl ?_
      refine wp_gI (pc := 31) d_143_31 fl_10_90 rfl ft_9_6 hNo.2.2 ?_
      refine wp_callV3v (pc := 34) d_143_34 lk_10_129 (by decide) rfl (Nat.le_of_ble_eq_true rfl) rfl rfl (m_goOn (q := jq) (rn := rn) hF hRo hρ hd64 (by omega) hok (by omega) hNo.1) (fun Iq34 hq34 => ?_)
      have hscm := (show SCP I Iq34 from hq34.2).M
      refine wp_iload_n (pc := 37) (i := 3) d_143_37 rfl rfl ?_
      refine wp_ifB_eq (pc := 38) (tgt := 51) d_143_38 (by decide) (fun zq38 => ?_) (fun zq38 => ?_)
      · refine wp_aload_n (pc := 51) (i := 0) d_143_51 rfl rfl ?_
        refine wp_gA (pc := 52) d_143_52 fl_10_19 rfl ft_9_4 (F_173_4 hF) ?_
        refine wp_bpN (pc := 55) (m := 54) d_143_55 (by decide) ?_
        refine wp_aL (pc := 57) (j := 54) d_143_57 rfl rfl (by omega) (by decide) hq34.1.2.1 ?_
        exact wp_iret (pc := 58) d_143_58 (Or.inl rfl) (PN.q (by unfold a_butt; rw [if_pos zq9, if_pos zq21, if_neg (nT zq38), hcjq, hcrn]) (hC0.k hscm) hscm.O)
      · refine wp_aload_n (pc := 41) (i := 0) d_143_41 rfl rfl ?_
        refine wp_gA (pc := 42) d_143_42 fl_10_19 rfl ft_9_4 (F_173_4 hF) ?_
        refine wp_bpN (pc := 45) (m := 55) d_143_45 (by decide) ?_
        refine wp_aL (pc := 47) (j := 55) d_143_47 rfl rfl (by omega) (by decide) hq34.1.2.2 ?_
        refine wp_goto (pc := 48) (tgt := 58) d_143_48 (by decide) ?_
        exact wp_iret (pc := 58) d_143_58 (Or.inl rfl) (PN.q (by unfold a_butt; rw [if_pos zq9, if_pos zq21, if_pos zq38, hcjq, hcrn]) (hC0.k hscm) hscm.O)
    · refine wp_bipush (pc := 24) (v := (-2)) d_143_24 (by decide) ?_
      exact wp_iret (pc := 26) d_143_26 (Or.inl rfl) (PN.q (by unfold a_butt; rw [if_pos zq9, if_neg (nT zq21)]) hC0 ⟨fun _ _ => rfl, rfl⟩)
set_option maxRecDepth 4000 in
theorem m_gdams {I : IT} {J : JT} {F : FT} {t : Nat} {tx : Nat → Nat} {tl : Nat} {ρ : SN} {n : Nat} {σ : SN} {rg : Nat → SN} {nx na : Nat} {γ : SN} {gn : Nat} {sl : Nat → SN} {sf : Nat → Bool} {sd : Int64} (hF : Fok F) (hC : MR I J tx tl ρ n σ rg nx na γ gn sl sf sd) (hO : OKS t tx tl ρ n σ rg nx na γ gn sl sf) (ht : t + 100 ≤ 1000) {y r : Int32} : Sp 144 [vR 173, vI y, vI r] KK I J F (PN (a_dams ρ n σ y r, (tx, tl, ρ, n, σ, rg, nx, na, γ, gn, sl, sf, sd)) I J F) := by
  have hC0 := hC
  obtain ⟨hTx, hRo, hNo, hAc, hGa, hSl, hsd⟩ := hC
  obtain ⟨ht40, hx256, hρ, hok, hrg, hnx, hna, hgo, hsl, hz, hzr, hzs, hn6⟩ := hO
  have hd64 := hok.2.2.2.2.2
  have hgn6 := hGa.1
  refine Sp.mk2 (Nat.le_of_ble_eq_true rfl) (L2 := [_, _, _]) rfl ?_
  refine wp_iload_n (pc := 0) (i := 1) d_144_0 rfl rfl ?_
  refine wp_i2l (pc := 1) d_144_1 ?_
  refine wp_lconst (pc := 2) (v := lN 1) d_144_2 (by decide) ?_
  refine wr_ldc2M (pc := 3) (m := 6) d_144_3 cs_10_109 (by decide) ?_
  refine wp_callS3p (pc := 6) d_144_6 lk_10_59 (by decide) rfl (Nat.le_of_ble_eq_true rfl) (c_inN y 1 6 (by decide) (by decide)) ?_
  refine wp_ifB_eq (pc := 9) (tgt := 33) d_144_9 (by decide) (fun zq9 => ?_) (fun zq9 => ?_)
  · refine wp_bipush (pc := 33) (v := (-2)) d_144_33 (by decide) ?_
    exact wp_iret (pc := 35) d_144_35 (Or.inl rfl) (PN.q (by unfold a_dams; rw [if_neg (nT zq9)]) hC0 ⟨fun _ _ => rfl, rfl⟩)
  · obtain ⟨jq, h0jq, h1jq, hxjq⟩ := inB_t zq9 (by decide) (by decide)
    subst hxjq
    have hcjq : (nI jq).toNatClampNeg = jq := nI_clamp (by omega)
    refine wp_iload_n (pc := 12) (i := 2) d_144_12 rfl rfl ?_
    refine wp_i2l (pc := 13) d_144_13 ?_
    refine wp_lconst (pc := 14) (v := lN 0) d_144_14 (by decide) ?_
    refine wr_ldc2M (pc := 15) (m := 9) d_144_15 cs_10_74 (by decide) ?_
    refine wp_callS3p (pc := 18) d_144_18 lk_10_59 (by decide) rfl (Nat.le_of_ble_eq_true rfl) (c_inN r 0 9 (by decide) (by decide)) ?_
    refine wp_ifB_eq (pc := 21) (tgt := 33) d_144_21 (by decide) (fun zq21 => ?_) (fun zq21 => ?_)
    · refine wp_bipush (pc := 33) (v := (-2)) d_144_33 (by decide) ?_
      exact wp_iret (pc := 35) d_144_35 (Or.inl rfl) (PN.q (by unfold a_dams; rw [if_pos zq9, if_neg (nT zq21)]) hC0 ⟨fun _ _ => rfl, rfl⟩)
    · obtain ⟨rn, h0rn, h1rn, hxrn⟩ := inB_t zq21 (by decide) (by decide)
      subst hxrn
      have hcrn : (nI rn).toNatClampNeg = rn := nI_clamp (by omega)
      refine wp_aload_n (pc := 24) (i := 0) d_144_24 rfl rfl ?_
      refine wp_iload_n (pc := 25) (i := 1) d_144_25 rfl rfl ?_
      refine wp_iload_n (pc := 26) (i := 2) d_144_26 rfl rfl ?_
      refine wp_callV2e (pc := 27) d_144_27 lk_10_142 (by decide) rfl (Nat.le_of_ble_eq_true rfl) rfl rfl (m_layDams (q := jq) (rn := rn) hF hRo hNo.1 hρ (by omega) hok (by omega)) (fun Iq27 hq27 => ?_)
      have hscm := hq27.2
      refine wp_goto (pc := 30) (tgt := 35) d_144_30 (by decide) ?_
      exact wp_iret (pc := 35) d_144_35 (Or.inl rfl) (PN.q (by unfold a_dams; rw [if_pos zq9, if_pos zq21, hcjq, hcrn]) (hC0.k hscm) hscm.O)
set_option maxRecDepth 4000 in
theorem m_genough {I : IT} {J : JT} {F : FT} {t : Nat} {tx : Nat → Nat} {tl : Nat} {ρ : SN} {n : Nat} {σ : SN} {rg : Nat → SN} {nx na : Nat} {γ : SN} {gn : Nat} {sl : Nat → SN} {sf : Nat → Bool} {sd : Int64} (hF : Fok F) (hC : MR I J tx tl ρ n σ rg nx na γ gn sl sf sd) (hO : OKS t tx tl ρ n σ rg nx na γ gn sl sf) (ht : t + 100 ≤ 1000) {y r : Int32} : Sp 148 [vR 173, vI y, vI r] KK I J F (PN (a_enough ρ n σ y r, (tx, tl, ρ, n, σ, rg, nx, na, γ, gn, sl, sf, sd)) I J F) := by
  have hC0 := hC
  obtain ⟨hTx, hRo, hNo, hAc, hGa, hSl, hsd⟩ := hC
  obtain ⟨ht40, hx256, hρ, hok, hrg, hnx, hna, hgo, hsl, hz, hzr, hzs, hn6⟩ := hO
  have hd64 := hok.2.2.2.2.2
  have hgn6 := hGa.1
  refine Sp.mk2 (Nat.le_of_ble_eq_true rfl) (L2 := [_, _, _]) rfl ?_
  refine wp_iload_n (pc := 0) (i := 1) d_148_0 rfl rfl ?_
  refine wp_i2l (pc := 1) d_148_1 ?_
  refine wp_lconst (pc := 2) (v := lN 1) d_148_2 (by decide) ?_
  refine wr_ldc2M (pc := 3) (m := 6) d_148_3 cs_10_109 (by decide) ?_
  refine wp_callS3p (pc := 6) d_148_6 lk_10_59 (by decide) rfl (Nat.le_of_ble_eq_true rfl) (c_inN y 1 6 (by decide) (by decide)) ?_
  refine wp_ifB_eq (pc := 9) (tgt := 24) d_148_9 (by decide) (fun zq9 => ?_) (fun zq9 => ?_)
  · refine wp_bipush (pc := 24) (v := (-2)) d_148_24 (by decide) ?_
    exact wp_iret (pc := 26) d_148_26 (Or.inl rfl) (PN.q (by unfold a_enough; rw [if_neg (nT zq9)]) hC0 ⟨fun _ _ => rfl, rfl⟩)
  · obtain ⟨jq, h0jq, h1jq, hxjq⟩ := inB_t zq9 (by decide) (by decide)
    subst hxjq
    have hcjq : (nI jq).toNatClampNeg = jq := nI_clamp (by omega)
    refine wp_iload_n (pc := 12) (i := 2) d_148_12 rfl rfl ?_
    refine wp_i2l (pc := 13) d_148_13 ?_
    refine wp_lconst (pc := 14) (v := lN 0) d_148_14 (by decide) ?_
    refine wr_ldc2M (pc := 15) (m := 9) d_148_15 cs_10_74 (by decide) ?_
    refine wp_callS3p (pc := 18) d_148_18 lk_10_59 (by decide) rfl (Nat.le_of_ble_eq_true rfl) (c_inN r 0 9 (by decide) (by decide)) ?_
    refine wp_ifB_ne (pc := 21) (tgt := 27) d_148_21 (by decide) (fun zq21 => ?_) (fun zq21 => ?_)
    · obtain ⟨rn, h0rn, h1rn, hxrn⟩ := inB_t zq21 (by decide) (by decide)
      subst hxrn
      have hcrn : (nI rn).toNatClampNeg = rn := nI_clamp (by omega)
      refine wp_aload_n (pc := 27) (i := 0) d_148_27 rfl rfl ?_
      refine wp_iload_n (pc := 28) (i := 1) d_148_28 rfl rfl ?_
      refine wp_iload_n (pc := 29) (i := 2) d_148_29 rfl rfl ?_
      refine wp_callV2e (pc := 30) d_148_30 lk_10_142 (by decide) rfl (Nat.le_of_ble_eq_true rfl) rfl rfl (m_layDams (q := jq) (rn := rn) hF hRo hNo.1 hρ (by omega) hok (by omega)) (fun Iq30 hq30 => ?_)
      have hscm := hq30.2
      refine wp_pop (pc := 33) d_148_33 rfl ?_
      refine wp_aload_n (pc := 34) (i := 0) d_148_34 rfl rfl ?_
      refine wp_gI (pc := 35) d_148_35 fl_10_133 rfl ft_9_17 hq30.1 ?_
      exact wp_iret (pc := 38) d_148_38 (Or.inl rfl) (PN.q (by unfold a_enough; rw [if_pos zq9, if_pos zq21, hcjq, hcrn]) (hC0.k hscm) hscm.O)
    · refine wp_bipush (pc := 24) (v := (-2)) d_148_24 (by decide) ?_
      exact wp_iret (pc := 26) d_148_26 (Or.inl rfl) (PN.q (by unfold a_enough; rw [if_pos zq9, if_neg (nT zq21)]) hC0 ⟨fun _ _ => rfl, rfl⟩)
set_option maxRecDepth 4000 in
theorem m_ggauge {I : IT} {J : JT} {F : FT} {t : Nat} {tx : Nat → Nat} {tl : Nat} {ρ : SN} {n : Nat} {σ : SN} {rg : Nat → SN} {nx na : Nat} {γ : SN} {gn : Nat} {sl : Nat → SN} {sf : Nat → Bool} {sd : Int64} (hF : Fok F) (hC : MR I J tx tl ρ n σ rg nx na γ gn sl sf sd) (hO : OKS t tx tl ρ n σ rg nx na γ gn sl sf) (ht : t + 100 ≤ 1000) {x y z : Int32} : Sp 153 [vR 173, vI x, vI y, vI z] KK I J F (PN (q_gauge tx tl ρ n σ rg nx na γ gn sl sf sd x y z) I J F) := by
  have hC0 := hC
  obtain ⟨hTx, hRo, hNo, hAc, hGa, hSl, hsd⟩ := hC
  obtain ⟨ht40, hx256, hρ, hok, hrg, hnx, hna, hgo, hsl, hz, hzr, hzs, hn6⟩ := hO
  have hd64 := hok.2.2.2.2.2
  have hgn6 := hGa.1
  refine Sp.mk2 (Nat.le_of_ble_eq_true rfl) (L2 := [_, _, _, _]) rfl ?_
  refine wp_iload_n (pc := 0) (i := 1) d_153_0 rfl rfl ?_
  refine wp_i2l (pc := 1) d_153_1 ?_
  refine wp_lconst (pc := 2) (v := lN 1) d_153_2 (by decide) ?_
  refine wr_ldc2M (pc := 3) (m := 6) d_153_3 cs_10_109 (by decide) ?_
  refine wp_callS3p (pc := 6) d_153_6 lk_10_59 (by decide) rfl (Nat.le_of_ble_eq_true rfl) (c_inN x 1 6 (by decide) (by decide)) ?_
  refine wp_ifB_eq (pc := 9) (tgt := 36) d_153_9 (by decide) (fun zq9 => ?_) (fun zq9 => ?_)
  · refine wp_bipush (pc := 36) (v := (-2)) d_153_36 (by decide) ?_
    exact wp_iret (pc := 38) d_153_38 (Or.inl rfl) (PN.mk (by unfold q_gauge; rw [if_neg (nT zq9)]) hC0 ⟨fun _ _ => rfl, rfl⟩)
  · obtain ⟨jq, h0jq, h1jq, hxjq⟩ := inB_t zq9 (by decide) (by decide)
    subst hxjq
    have hcjq : (nI jq).toNatClampNeg = jq := nI_clamp (by omega)
    refine wp_iload_n (pc := 12) (i := 2) d_153_12 rfl rfl ?_
    refine wp_i2l (pc := 13) d_153_13 ?_
    refine wp_lconst (pc := 14) (v := lN 0) d_153_14 (by decide) ?_
    refine wr_ldc2M (pc := 15) (m := 9) d_153_15 cs_10_74 (by decide) ?_
    refine wp_callS3p (pc := 18) d_153_18 lk_10_59 (by decide) rfl (Nat.le_of_ble_eq_true rfl) (c_inN y 0 9 (by decide) (by decide)) ?_
    refine wp_ifB_eq (pc := 21) (tgt := 36) d_153_21 (by decide) (fun zq21 => ?_) (fun zq21 => ?_)
    · refine wp_bipush (pc := 36) (v := (-2)) d_153_36 (by decide) ?_
      exact wp_iret (pc := 38) d_153_38 (Or.inl rfl) (PN.mk (by unfold q_gauge; rw [if_pos zq9, if_neg (nT zq21)]) hC0 ⟨fun _ _ => rfl, rfl⟩)
    · obtain ⟨rn, h0rn, h1rn, hxrn⟩ := inB_t zq21 (by decide) (by decide)
      subst hxrn
      have hcrn : (nI rn).toNatClampNeg = rn := nI_clamp (by omega)
      refine wp_iload_n (pc := 24) (i := 3) d_153_24 rfl rfl ?_
      refine wp_i2l (pc := 25) d_153_25 ?_
      refine wp_lconst (pc := 26) (v := lN 0) d_153_26 (by decide) ?_
      refine wr_ldc2M (pc := 27) (m := 999) d_153_27 cs_10_149 (by decide) ?_
      refine wp_callS3p (pc := 30) d_153_30 lk_10_59 (by decide) rfl (Nat.le_of_ble_eq_true rfl) (c_inN z 0 999 (by decide) (by decide)) ?_
      refine wp_ifB_ne (pc := 33) (tgt := 39) d_153_33 (by decide) (fun zq33 => ?_) (fun zq33 => ?_)
      · obtain ⟨jw, h0jw, h1jw, hxjw⟩ := inB_t zq33 (by decide) (by decide)
        subst hxjw
        have hcjw : (nI jw).toNatClampNeg = jw := nI_clamp (by omega)
        refine wp_aload_n (pc := 39) (i := 0) d_153_39 rfl rfl ?_
        refine wp_gI (pc := 40) d_153_40 fl_10_151 rfl ft_9_19 hGa.2.1 ?_
        refine wp_bpN (pc := 43) (m := 6) d_153_43 (by decide) ?_
        refine wp_icmpN_ne (pc := 45) (tgt := 51) d_153_45 (by decide) (by omega) (by decide) (fun zq45 => ?_) (fun zq45 => ?_)
        · refine wp_aload_n (pc := 51) (i := 0) d_153_51 rfl rfl ?_
          refine wp_gA (pc := 52) d_153_52 fl_10_37 rfl ft_9_20 (F_173_20 hF) ?_
          refine wp_aload_n (pc := 55) (i := 0) d_153_55 rfl rfl ?_
          refine wp_gI (pc := 56) d_153_56 fl_10_151 rfl ft_9_19 hGa.2.1 ?_
          refine wp_iload_n (pc := 59) (i := 1) d_153_59 rfl rfl ?_
          refine wp_aS (pc := 60) (j := gn) d_153_60 rfl rfl (by omega) (by decide) (fun Iq60 uq60 => ?_)
          refine wp_aload_n (pc := 61) (i := 0) d_153_61 rfl rfl ?_
          refine wp_gA (pc := 62) d_153_62 fl_10_40 rfl ft_9_21 (F_173_21 hF) ?_
          refine wp_aload_n (pc := 65) (i := 0) d_153_65 rfl rfl ?_
          refine wp_gI (pc := 66) d_153_66 fl_10_151 rfl ft_9_19 ((uq60.off (by decide)).trans hGa.2.1) ?_
          refine wp_iload_n (pc := 69) (i := 2) d_153_69 rfl rfl ?_
          refine wp_aS (pc := 70) (j := gn) d_153_70 rfl rfl (by omega) (by decide) (fun Iq70 uq70 => ?_)
          refine wp_aload_n (pc := 71) (i := 0) d_153_71 rfl rfl ?_
          refine wp_gA (pc := 72) d_153_72 fl_10_43 rfl ft_9_22 (F_173_22 hF) ?_
          refine wp_aload_n (pc := 75) (i := 0) d_153_75 rfl rfl ?_
          refine wp_gI (pc := 76) d_153_76 fl_10_151 rfl ft_9_19 ((uq70.off (by decide)).trans ((uq60.off (by decide)).trans hGa.2.1)) ?_
          refine wp_iload_n (pc := 79) (i := 3) d_153_79 rfl rfl ?_
          refine wp_aS (pc := 80) (j := gn) d_153_80 rfl rfl (by omega) (by decide) (fun Iq80 uq80 => ?_)
          refine wp_aload_n (pc := 81) (i := 0) d_153_81 rfl rfl ?_
          refine wp_dup (pc := 82) d_153_82 rfl ?_
          refine wp_gI (pc := 83) d_153_83 fl_10_151 rfl ft_9_19 ((uq80.off (by decide)).trans ((uq70.off (by decide)).trans ((uq60.off (by decide)).trans hGa.2.1))) ?_
          refine wp_icN (pc := 86) (m := 1) d_153_86 (by decide) ?_
          refine wp_iaddN (pc := 87) d_153_87 ?_
          refine wp_pI (pc := 88) d_153_88 fl_10_151 rfl ft_9_19 rfl (fun Iq88 uq88 => ?_)
          refine wp_aload_n (pc := 91) (i := 0) d_153_91 rfl rfl ?_
          refine wp_gI (pc := 92) d_153_92 fl_10_151 rfl ft_9_19 uq88.at ?_
          have harr : ∀ a, a ≠ 173 → a ≠ 183 → a ≠ 184 → a ≠ 185 → Iq88 a = I a := fun a h0 h1 h2 h3 => by rw [uq88.2 a h0, uq80.2 a h3, uq70.2 a h2, uq60.2 a h1]
          have h173 : ∀ q, q ≠ 19 → Iq88 173 q = I 173 q := fun q h => by rw [uq88.ne h, uq80.off (by decide), uq70.off (by decide), uq60.off (by decide)]
          have hG2 : mGa Iq88 (addG γ gn jq rn jw) (gn + 1) := by
            refine ⟨by omega, uq88.at, fun j hj => ?_⟩
            have a0 : addG γ gn jq rn jw 0 gn = jq := by unfold addG; rw [if_pos rfl, if_pos rfl]
            have a1 : addG γ gn jq rn jw 1 gn = rn := by unfold addG; rw [if_pos rfl, if_neg (by decide), if_pos rfl]
            have a2 : addG γ gn jq rn jw 2 gn = jw := by unfold addG; rw [if_pos rfl, if_neg (by decide), if_neg (by decide)]
            by_cases e : j = gn
            · rw [e, a0, a1, a2]
              exact ⟨(uq88.off (by decide)).trans ((uq80.off (by decide)).trans ((uq70.off (by decide)).trans uq60.at)), (uq88.off (by decide)).trans ((uq80.off (by decide)).trans uq70.at), (uq88.off (by decide)).trans uq80.at⟩
            · have an : ∀ k, addG γ gn jq rn jw k j = γ k j := fun k => by unfold addG; rw [if_neg e]
              rw [an, an, an]
              rw [uq88.off (by decide), uq88.off (by decide), uq88.off (by decide), uq80.off (by decide), uq80.off (by decide), uq80.ne e, uq70.off (by decide), uq70.ne e, uq70.off (by decide), uq60.ne e, uq60.off (by decide), uq60.off (by decide)]
              exact hGa.2.2 j (by omega)
          exact wp_iret (pc := 95) d_153_95 (Or.inl rfl) (PN.mk (by unfold q_gauge; rw [if_pos zq9, if_pos zq21, if_pos zq33, if_pos (show gn < 6 by omega), hcjq, hcrn, hcjw]) ⟨⟨(h173 9 (by decide)).trans hTx.1, fun j hj => by rw [harr 178 (by decide) (by decide) (by decide) (by decide)]; exact hTx.2 j hj⟩, hRo.k (h173 5 (by decide)) (by rw [harr 176 (by decide) (by decide) (by decide) (by decide)]), ⟨by rw [harr 177 (by decide) (by decide) (by decide) (by decide)]; exact hNo.1, (h173 7 (by decide)).trans hNo.2.1, (h173 6 (by decide)).trans hNo.2.2⟩, ⟨(h173 13 (by decide)).trans hAc.1, (h173 12 (by decide)).trans hAc.2.1, by rw [harr 179 (by decide) (by decide) (by decide) (by decide)]; exact hAc.2.2⟩, hG2, ⟨by rw [harr 187 (by decide) (by decide) (by decide) (by decide)]; exact hSl.1, by rw [harr 186 (by decide) (by decide) (by decide) (by decide)]; exact hSl.2⟩, hsd⟩ ⟨fun a ha => harr a (by omega) (by omega) (by omega) (by omega), rfl⟩)
        · refine wp_bipush (pc := 48) (v := (-4)) d_153_48 (by decide) ?_
          exact wp_iret (pc := 50) d_153_50 (Or.inl rfl) (PN.mk (by unfold q_gauge; rw [if_pos zq9, if_pos zq21, if_pos zq33, if_neg (show ¬ gn < 6 by omega)]) hC0 ⟨fun _ _ => rfl, rfl⟩)
      · refine wp_bipush (pc := 36) (v := (-2)) d_153_36 (by decide) ?_
        exact wp_iret (pc := 38) d_153_38 (Or.inl rfl) (PN.mk (by unfold q_gauge; rw [if_pos zq9, if_pos zq21, if_neg (nT zq33)]) hC0 ⟨fun _ _ => rfl, rfl⟩)
set_option maxRecDepth 4000 in
theorem m_gungauge {I : IT} {J : JT} {F : FT} {t : Nat} {tx : Nat → Nat} {tl : Nat} {ρ : SN} {n : Nat} {σ : SN} {rg : Nat → SN} {nx na : Nat} {γ : SN} {gn : Nat} {sl : Nat → SN} {sf : Nat → Bool} {sd : Int64} (hF : Fok F) (hC : MR I J tx tl ρ n σ rg nx na γ gn sl sf sd) (hO : OKS t tx tl ρ n σ rg nx na γ gn sl sf) (ht : t + 100 ≤ 1000) : Sp 154 [vR 173] KK I J F (PN (q_ungauge tx tl ρ n σ rg nx na γ gn sl sf sd) I J F) := by
  have hC0 := hC
  obtain ⟨hTx, hRo, hNo, hAc, hGa, hSl, hsd⟩ := hC
  obtain ⟨ht40, hx256, hρ, hok, hrg, hnx, hna, hgo, hsl, hz, hzr, hzs, hn6⟩ := hO
  have hd64 := hok.2.2.2.2.2
  have hgn6 := hGa.1
  refine Sp.mk2 (Nat.le_of_ble_eq_true rfl) (L2 := [_, _]) rfl ?_
  refine wp_aload_n (pc := 0) (i := 0) d_154_0 rfl rfl ?_
  refine wp_gI (pc := 1) d_154_1 fl_10_151 rfl ft_9_19 hGa.2.1 ?_
  refine wq_istore_n (pc := 4) (L2 := [_, _]) (i := 1) d_154_4 rfl (Nat.le_of_ble_eq_true rfl) rfl rfl ?_
  refine wp_aload_n (pc := 5) (i := 0) d_154_5 rfl rfl ?_
  refine wp_icN (pc := 6) (m := 0) d_154_6 (by decide) ?_
  refine wp_pI (pc := 7) d_154_7 fl_10_151 rfl ft_9_19 rfl (fun Iq7 uq7 => ?_)
  refine wp_iload_n (pc := 10) (i := 1) d_154_10 rfl rfl ?_
  exact wp_iret (pc := 11) d_154_11 (Or.inl rfl) (PN.mk (by unfold q_ungauge; rfl) ⟨⟨(uq7.ne (by decide)).trans hTx.1, fun j hj => by rw [uq7.2 178 (by decide)]; exact hTx.2 j hj⟩, hRo.k (uq7.ne (by decide)) (by rw [uq7.2 176 (by decide)]), ⟨by rw [uq7.2 177 (by decide)]; exact hNo.1, (uq7.ne (by decide)).trans hNo.2.1, (uq7.ne (by decide)).trans hNo.2.2⟩, ⟨(uq7.ne (by decide)).trans hAc.1, (uq7.ne (by decide)).trans hAc.2.1, by rw [uq7.2 179 (by decide)]; exact hAc.2.2⟩, ⟨Nat.zero_le 6, uq7.at, fun j hj => absurd hj (Nat.not_lt_zero j)⟩, ⟨by rw [uq7.2 187 (by decide)]; exact hSl.1, by rw [uq7.2 186 (by decide)]; exact hSl.2⟩, hsd⟩ ⟨fun a ha => uq7.2 a (by omega), rfl⟩)
theorem allN_mono {p : Nat → Bool} {i : Nat} (h : allN p i = false) : ∀ d, allN p (i + d) = false
  | 0 => h
  | d + 1 => by
    show (allN p (i + d) && p (i + d)) = false
    rw [allN_mono h d, Bool.false_and]
set_option maxRecDepth 4000 in
theorem doesFit_step {I0 : IT} {J : JT} {F : FT} {n t gn sx : Nat} {ρ σ γ : SN} (hF : Fok F) (hRo0 : mRo I0 ρ n) (hNo0 : mNo I0 σ) (hGa0 : mGa I0 γ gn) (hρ : ∀ k j, ρ k j ≤ 9) (hsx : sx < 64) (hgo : gOk γ gn) (hok : okN t σ) (htq : t + 6 ≤ 1000) (i : Nat) (hi0 : i ≤ gn) (I : IT) (p : Bool) (hsc : SCP I0 I) (hp : p = allN (fitG ρ n σ γ sx) i)
    (ih0 : ∀ i', i < gn → i' = i + 1 → ∀ (I : IT) (p : Bool), (SCP I0 I) → (p = allN (fitG ρ n σ γ sx) i') → Wp none 156 (fun R => ∃ I2, R = (some (vI (b2 (fitN ρ n σ γ gn sx))), KK, I2, J, F) ∧ SCP I0 I2) 4 [some (vR 173), some (vI (nI sx)), some (vI (b2 p)), some (vI (nI i'))] [] KK I J F) : Wp none 156 (fun R => ∃ I2, R = (some (vI (b2 (fitN ρ n σ γ gn sx))), KK, I2, J, F) ∧ SCP I0 I2) 4 [some (vR 173), some (vI (nI sx)), some (vI (b2 p)), some (vI (nI i))] [] KK I J F := by
  have hn6 := hRo0.1
  have hgn6 := hGa0.1
  refine wp_iload_n (pc := 4) (i := 3) d_156_4 rfl rfl ?_
  refine wp_aload_n (pc := 5) (i := 0) d_156_5 rfl rfl ?_
  refine wp_gI (pc := 6) d_156_6 fl_10_151 rfl ft_9_19 ((congrFun (hsc.2 173 (by decide) (by decide) (by decide)) _).trans hGa0.2.1) ?_
  refine wp_icmpN_ge (pc := 9) (tgt := 69) d_156_9 (by decide) (by omega) (by omega) (fun zq9 => ?_) (fun zq9 => ?_)
  · refine wp_iload_n (pc := 69) (i := 2) d_156_69 rfl rfl ?_
    exact wp_iret (pc := 70) d_156_70 (Or.inr ⟨rfl, b2_01 _⟩) ⟨_, by rw [hp, show i = gn by omega]; rfl, hsc⟩
  · refine wp_iload_n (pc := 12) (i := 2) d_156_12 rfl rfl ?_
    refine wp_ifB_eq (pc := 13) (tgt := 69) d_156_13 (by decide) (fun zq13 => ?_) (fun zq13 => ?_)
    · refine wp_iload_n (pc := 69) (i := 2) d_156_69 rfl rfl ?_
      have hfal : fitN ρ n σ γ gn sx = false := by
        have h8 := allN_mono (hp.symm.trans zq13) (gn - i)
        rw [show i + (gn - i) = gn by omega] at h8
        exact h8
      exact wp_iret (pc := 70) d_156_70 (Or.inr ⟨rfl, b2_01 _⟩) ⟨_, by rw [hfal, zq13], hsc⟩
    · refine wp_aload_n (pc := 16) (i := 0) d_156_16 rfl rfl ?_
      refine wp_aload_n (pc := 17) (i := 0) d_156_17 rfl rfl ?_
      refine wp_gA (pc := 18) d_156_18 fl_10_37 rfl ft_9_20 (F_173_20 hF) ?_
      refine wp_iload_n (pc := 21) (i := 3) d_156_21 rfl rfl ?_
      refine wp_aL (pc := 22) (j := i) d_156_22 rfl rfl (by omega) (by decide) ((congrFun (hsc.2 183 (by decide) (by decide) (by decide)) _).trans (hGa0.2.2 i zq9).1) ?_
      refine wp_aload_n (pc := 23) (i := 0) d_156_23 rfl rfl ?_
      refine wp_gA (pc := 24) d_156_24 fl_10_40 rfl ft_9_21 (F_173_21 hF) ?_
      refine wp_iload_n (pc := 27) (i := 3) d_156_27 rfl rfl ?_
      refine wp_aL (pc := 28) (j := i) d_156_28 rfl rfl (by omega) (by decide) ((congrFun (hsc.2 184 (by decide) (by decide) (by decide)) _).trans (hGa0.2.2 i zq9).2.1) ?_
      refine wp_iload_n (pc := 29) (i := 1) d_156_29 rfl rfl ?_
      refine wp_callV3v (pc := 30) d_156_30 lk_10_129 (by decide) rfl (Nat.le_of_ble_eq_true rfl) rfl rfl (m_goOn (q := γ 0 i) (rn := γ 1 i) hF (hRo0.s hsc.M) hρ hsx (hgo i zq9).2.1 hok (by have := (hgo i zq9).1; omega) (hNo0.1.s hsc.M)) (fun Iq30 hq30 => ?_)
      refine wp_aload_n (pc := 33) (i := 0) d_156_33 rfl rfl ?_
      refine wp_gA (pc := 34) d_156_34 fl_10_19 rfl ft_9_4 (F_173_4 hF) ?_
      refine wp_bpN (pc := 37) (m := 54) d_156_37 (by decide) ?_
      refine wp_aL (pc := 39) (j := 54) d_156_39 rfl rfl (by omega) (by decide) hq30.1.2.1 ?_
      refine wp_aload_n (pc := 40) (i := 0) d_156_40 rfl rfl ?_
      refine wp_gA (pc := 41) d_156_41 fl_10_19 rfl ft_9_4 (F_173_4 hF) ?_
      refine wp_bpN (pc := 44) (m := 24) d_156_44 (by decide) ?_
      refine wp_aL (pc := 46) (j := 24) d_156_46 rfl rfl (by omega) (by decide) ((hq30.2.1 24 (by decide)).trans ((hsc.1 24 (by decide)).trans hNo0.1.2.1)) ?_
      refine wp_isubN (pc := 47) d_156_47 (beh_butt _) ?_
      refine wp_aload_n (pc := 48) (i := 0) d_156_48 rfl rfl ?_
      refine wp_gA (pc := 49) d_156_49 fl_10_43 rfl ft_9_22 (F_173_22 hF) ?_
      refine wp_iload_n (pc := 52) (i := 3) d_156_52 rfl rfl ?_
      refine wp_aL (pc := 53) (j := i) d_156_53 rfl rfl (by omega) (by decide) ((congrFun (hq30.2.2 185 (by decide) (by decide) (by decide)) _).trans ((congrFun (hsc.2 185 (by decide) (by decide) (by decide)) _).trans (hGa0.2.2 i zq9).2.2)) ?_
      refine wp_icmpN_ne (pc := 54) (tgt := 61) d_156_54 (by decide) (by have h8 := (beh_ok hn6 (hgo i zq9).2.1 hρ hok (γ 0 i) (dm := sx)).1; have h7 := (hgo i zq9).1; omega) (by have := (hgo i zq9).2.2; omega) (fun zq54 => ?_) (fun zq54 => ?_)
      · refine wp_icN (pc := 61) (m := 0) d_156_61 (by decide) ?_
        refine wq_istore_n (pc := 62) (L2 := [_, _, _, _]) (i := 2) d_156_62 rfl (Nat.le_of_ble_eq_true rfl) rfl rfl ?_
        refine wq_iincN (pc := 63) (L2 := [_, _, _, _]) d_156_63 rfl (b := 1) (by decide) rfl rfl ?_
        refine wp_goto (pc := 66) (tgt := 4) d_156_66 (by decide) ?_
        refine ih0 (i + 1) zq9 rfl _ false (hsc.tr hq30.2) ?_
        rw [allN_s, ← hp, zq13, Bool.true_and]
        exact (decide_eq_false zq54).symm
      · refine wp_icN (pc := 57) (m := 1) d_156_57 (by decide) ?_
        refine wp_goto (pc := 58) (tgt := 62) d_156_58 (by decide) ?_
        refine wq_istore_n (pc := 62) (L2 := [_, _, _, _]) (i := 2) d_156_62 rfl (Nat.le_of_ble_eq_true rfl) rfl rfl ?_
        refine wq_iincN (pc := 63) (L2 := [_, _, _, _]) d_156_63 rfl (b := 1) (by decide) rfl rfl ?_
        refine wp_goto (pc := 66) (tgt := 4) d_156_66 (by decide) ?_
        refine ih0 (i + 1) zq9 rfl _ true (hsc.tr hq30.2) ?_
        rw [allN_s, ← hp, zq13, Bool.true_and]
        exact (decide_eq_true zq54).symm
theorem doesFit_loop {I0 : IT} {J : JT} {F : FT} {n t gn sx : Nat} {ρ σ γ : SN} (hF : Fok F) (hRo0 : mRo I0 ρ n) (hNo0 : mNo I0 σ) (hGa0 : mGa I0 γ gn) (hρ : ∀ k j, ρ k j ≤ 9) (hsx : sx < 64) (hgo : gOk γ gn) (hok : okN t σ) (htq : t + 6 ≤ 1000) : ∀ (d i : Nat), i + d = gn → ∀ (I : IT) (p : Bool), (SCP I0 I) → (p = allN (fitG ρ n σ γ sx) i) → Wp none 156 (fun R => ∃ I2, R = (some (vI (b2 (fitN ρ n σ γ gn sx))), KK, I2, J, F) ∧ SCP I0 I2) 4 [some (vR 173), some (vI (nI sx)), some (vI (b2 p)), some (vI (nI i))] [] KK I J F := by
  intro d
  induction d with
  | zero =>
    intro i hid I p hsc hp
    exact doesFit_step hF hRo0 hNo0 hGa0 hρ hsx hgo hok htq i (by omega) I p hsc hp (fun i' hlt => absurd hlt (by omega))
  | succ d ih =>
    intro i hid I p hsc hp
    exact doesFit_step hF hRo0 hNo0 hGa0 hρ hsx hgo hok htq i (by omega) I p hsc hp (fun i' hlt he => ih i' (by omega))

set_option maxRecDepth 4000 in
theorem m_doesFit {I0 : IT} {J : JT} {F : FT} {n t gn sx : Nat} {ρ σ γ : SN} (hF : Fok F) (hRo0 : mRo I0 ρ n) (hNo0 : mNo I0 σ) (hGa0 : mGa I0 γ gn) (hρ : ∀ k j, ρ k j ≤ 9) (hsx : sx < 64) (hgo : gOk γ gn) (hok : okN t σ) (htq : t + 6 ≤ 1000) : Sp 156 [vR 173, vI (nI sx)] KK I0 J F (fun R => ∃ I2, R = (some (vI (b2 (fitN ρ n σ γ gn sx))), KK, I2, J, F) ∧ SCP I0 I2) := by
  refine Sp.mk2 (Nat.le_of_ble_eq_true rfl) (L2 := [_, _, _, _]) rfl ?_
  refine wp_icN (pc := 0) (m := 1) d_156_0 (by decide) ?_
  refine wq_istore_n (pc := 1) (L2 := [_, _, _, _]) (i := 2) d_156_1 rfl (Nat.le_of_ble_eq_true rfl) rfl rfl ?_
  refine wp_icN (pc := 2) (m := 0) d_156_2 (by decide) ?_
  refine wq_istore_n (pc := 3) (L2 := [_, _, _, _]) (i := 3) d_156_3 rfl (Nat.le_of_ble_eq_true rfl) rfl rfl ?_
  exact doesFit_loop hF hRo0 hNo0 hGa0 hρ hsx hgo hok htq gn 0 (by omega) I0 true ⟨fun _ _ => rfl, fun _ _ _ _ => rfl⟩ rfl
theorem mNo.s {I I2 : IT} {σ : SN} (h : mNo I σ) (k : SCM I I2) : mNo I2 σ := ⟨h.1.s k, (k.1 7 (by decide) (by decide) (by decide) (by decide)).trans h.2.1, (k.1 6 (by decide) (by decide) (by decide) (by decide)).trans h.2.2⟩
theorem mGa.s {I I2 : IT} {γ : SN} {gn : Nat} (h : mGa I γ gn) (k : SCM I I2) : mGa I2 γ gn := ⟨h.1, (k.1 19 (by decide) (by decide) (by decide) (by decide)).trans h.2.1, by rw [k.2.2 183 (by omega), k.2.2 184 (by omega), k.2.2 185 (by omega)]; exact h.2.2⟩
set_option maxRecDepth 4000 in
theorem mfits_step {I0 : IT} {J : JT} {F : FT} {n t gn : Nat} {ρ σ γ : SN} (hF : Fok F) (hRo0 : mRo I0 ρ n) (hNo0 : mNo I0 σ) (hGa0 : mGa I0 γ gn) (hρ : ∀ k j, ρ k j ≤ 9) (hgo : gOk γ gn) (hok : okN t σ) (htq : t + 6 ≤ 1000) (i : Nat) (hi0 : i ≤ 2 ^ n) (I : IT) (x : Nat) (hsc : SCP I0 I) (hx : x = ctN (fitN ρ n σ γ gn) i)
    (ih0 : ∀ i', i < 2 ^ n → i' = i + 1 → ∀ (I : IT) (x : Nat), (SCP I0 I) → (x = ctN (fitN ρ n σ γ gn) i') → Wp none 155 (fun R => ∃ I2, R = (some (vI (nI (ctN (fitN ρ n σ γ gn) (2 ^ n)))), KK, I2, J, F) ∧ SCP I0 I2) 4 [some (vR 173), some (vI (nI x)), some (vI (nI i'))] [] KK I J F) : Wp none 155 (fun R => ∃ I2, R = (some (vI (nI (ctN (fitN ρ n σ γ gn) (2 ^ n)))), KK, I2, J, F) ∧ SCP I0 I2) 4 [some (vR 173), some (vI (nI x)), some (vI (nI i))] [] KK I J F := by
  have hn6 := hRo0.1
  have hp64 := p64 hn6
  have hp1 := Nat.two_pow_pos n
  have hRo := hRo0.s hsc.M
  refine wp_iload_n (pc := 4) (i := 2) d_155_4 rfl rfl ?_
  refine wp_icN (pc := 5) (m := 1) d_155_5 (by decide) ?_
  refine wp_aload_n (pc := 6) (i := 0) d_155_6 rfl rfl ?_
  refine wp_gI (pc := 7) d_155_7 fl_10_53 rfl ft_9_5 hRo.2.1 ?_
  refine wp_ishl (pc := 10) d_155_10 ?_
  rw [shl_c (by omega) (by omega), Nat.one_mul]
  refine wp_icmpN_ge (pc := 11) (tgt := 36) d_155_11 (by decide) (by omega) (by omega) (fun zq11 => ?_) (fun zq11 => ?_)
  · refine wp_iload_n (pc := 36) (i := 1) d_155_36 rfl rfl ?_
    exact wp_iret (pc := 37) d_155_37 (Or.inl rfl) ⟨_, by rw [hx, show i = 2 ^ n by omega], hsc⟩
  · refine wp_iload_n (pc := 14) (i := 1) d_155_14 rfl rfl ?_
    refine wp_aload_n (pc := 15) (i := 0) d_155_15 rfl rfl ?_
    refine wp_iload_n (pc := 16) (i := 2) d_155_16 rfl rfl ?_
    refine wp_callV1e (pc := 17) d_155_17 lk_10_154 (by decide) rfl (Nat.le_of_ble_eq_true rfl) rfl rfl (m_doesFit (sx := i) hF (hRo0.s hsc.M) (mNo.s hNo0 hsc.M) (mGa.s hGa0 hsc.M) hρ (by omega) hgo hok htq) (fun Iq17 hq17 => ?_)
    refine wp_ifB_eq (pc := 20) (tgt := 27) d_155_20 (by decide) (fun zq20 => ?_) (fun zq20 => ?_)
    · refine wp_icN (pc := 27) (m := 0) d_155_27 (by decide) ?_
      refine wp_iaddN (pc := 28) d_155_28 ?_
      refine wq_istore_n (pc := 29) (L2 := [_, _, _]) (i := 1) d_155_29 rfl (Nat.le_of_ble_eq_true rfl) rfl rfl ?_
      refine wq_iincN (pc := 30) (L2 := [_, _, _]) d_155_30 rfl (b := 1) (by decide) rfl rfl ?_
      refine wp_goto (pc := 33) (tgt := 4) d_155_33 (by decide) ?_
      refine ih0 (i + 1) zq11 rfl _ _ (hsc.tr hq17) ?_
      rw [hx]
      show _ = ctN (fitN ρ n σ γ gn) i + (if (fitN ρ n σ γ gn) i then 1 else 0)
      rw [show (fitN ρ n σ γ gn) i = false from zq20]; rfl
    · refine wp_icN (pc := 23) (m := 1) d_155_23 (by decide) ?_
      refine wp_goto (pc := 24) (tgt := 28) d_155_24 (by decide) ?_
      refine wp_iaddN (pc := 28) d_155_28 ?_
      refine wq_istore_n (pc := 29) (L2 := [_, _, _]) (i := 1) d_155_29 rfl (Nat.le_of_ble_eq_true rfl) rfl rfl ?_
      refine wq_iincN (pc := 30) (L2 := [_, _, _]) d_155_30 rfl (b := 1) (by decide) rfl rfl ?_
      refine wp_goto (pc := 33) (tgt := 4) d_155_33 (by decide) ?_
      refine ih0 (i + 1) zq11 rfl _ _ (hsc.tr hq17) ?_
      rw [hx]
      show _ = ctN (fitN ρ n σ γ gn) i + (if (fitN ρ n σ γ gn) i then 1 else 0)
      rw [show (fitN ρ n σ γ gn) i = true from zq20]; rfl
theorem mfits_loop {I0 : IT} {J : JT} {F : FT} {n t gn : Nat} {ρ σ γ : SN} (hF : Fok F) (hRo0 : mRo I0 ρ n) (hNo0 : mNo I0 σ) (hGa0 : mGa I0 γ gn) (hρ : ∀ k j, ρ k j ≤ 9) (hgo : gOk γ gn) (hok : okN t σ) (htq : t + 6 ≤ 1000) : ∀ (d i : Nat), i + d = 2 ^ n → ∀ (I : IT) (x : Nat), (SCP I0 I) → (x = ctN (fitN ρ n σ γ gn) i) → Wp none 155 (fun R => ∃ I2, R = (some (vI (nI (ctN (fitN ρ n σ γ gn) (2 ^ n)))), KK, I2, J, F) ∧ SCP I0 I2) 4 [some (vR 173), some (vI (nI x)), some (vI (nI i))] [] KK I J F := by
  intro d
  induction d with
  | zero =>
    intro i hid I x hsc hx
    exact mfits_step hF hRo0 hNo0 hGa0 hρ hgo hok htq i (by omega) I x hsc hx (fun i' hlt => absurd hlt (by omega))
  | succ d ih =>
    intro i hid I x hsc hx
    exact mfits_step hF hRo0 hNo0 hGa0 hρ hgo hok htq i (by omega) I x hsc hx (fun i' hlt he => ih i' (by omega))

set_option maxRecDepth 4000 in
theorem m_fits0 {I0 : IT} {J : JT} {F : FT} {n t gn : Nat} {ρ σ γ : SN} (hF : Fok F) (hRo0 : mRo I0 ρ n) (hNo0 : mNo I0 σ) (hGa0 : mGa I0 γ gn) (hρ : ∀ k j, ρ k j ≤ 9) (hgo : gOk γ gn) (hok : okN t σ) (htq : t + 6 ≤ 1000) : Sp 155 [vR 173] KK I0 J F (fun R => ∃ I2, R = (some (vI (nI (ctN (fitN ρ n σ γ gn) (2 ^ n)))), KK, I2, J, F) ∧ SCP I0 I2) := by
  refine Sp.mk2 (Nat.le_of_ble_eq_true rfl) (L2 := [_, _, _]) rfl ?_
  refine wp_icN (pc := 0) (m := 0) d_155_0 (by decide) ?_
  refine wq_istore_n (pc := 1) (L2 := [_, _, _]) (i := 1) d_155_1 rfl (Nat.le_of_ble_eq_true rfl) rfl rfl ?_
  refine wp_icN (pc := 2) (m := 0) d_155_2 (by decide) ?_
  refine wq_istore_n (pc := 3) (L2 := [_, _, _]) (i := 2) d_155_3 rfl (Nat.le_of_ble_eq_true rfl) rfl rfl ?_
  exact mfits_loop hF hRo0 hNo0 hGa0 hρ hgo hok htq (2 ^ n) 0 (by omega) I0 0 ⟨fun _ _ => rfl, fun _ _ _ _ => rfl⟩ rfl
theorem m_gfits {I : IT} {J : JT} {F : FT} {t : Nat} {tx : Nat → Nat} {tl : Nat} {ρ : SN} {n : Nat} {σ : SN} {rg : Nat → SN} {nx na : Nat} {γ : SN} {gn : Nat} {sl : Nat → SN} {sf : Nat → Bool} {sd : Int64} (hF : Fok F) (hC : MR I J tx tl ρ n σ rg nx na γ gn sl sf sd) (hO : OKS t tx tl ρ n σ rg nx na γ gn sl sf) (ht : t + 100 ≤ 1000) : Sp 155 [vR 173] KK I J F (PN (nI (ctN (fitN ρ n σ γ gn) (2 ^ n)), (tx, tl, ρ, n, σ, rg, nx, na, γ, gn, sl, sf, sd)) I J F) := by
  have hC0 := hC
  obtain ⟨hTx, hRo, hNo, hAc, hGa, hSl, hsd⟩ := hC
  obtain ⟨ht40, hx256, hρ, hok, hrg, hnx, hna, hgo, hsl, hz, hzr, hzs, hn6⟩ := hO
  have hd64 := hok.2.2.2.2.2
  have hgn6 := hGa.1
  refine (m_fits0 hF hRo hNo hGa hρ hgo hok (by omega)).weak (fun R h => ?_)
  obtain ⟨I2, h1, h2⟩ := h
  rw [h1]
  exact PN.q rfl (hC0.k h2.M) h2.M.O
theorem anN_0 {p : Nat → Bool} {a : Nat} : ∀ i, ctN p i = 0 → anN p a i = a
  | 0, _ => rfl
  | i + 1, h => by
    have h1 : ctN p (i + 1) = ctN p i + if p i then 1 else 0 := rfl
    show (if p i then anN p a i &&& i else anN p a i) = a
    by_cases e : p i = true
    · rw [h1, if_pos e] at h; omega
    · rw [if_neg e]; exact anN_0 i (by omega)
theorem m1_and : ∀ i, i < 64 → (-1 : Int32) &&& nI i = nI i := by decide +kernel
theorem and_top : ∀ n, n ≤ 6 → ∀ i, i < 2 ^ n → (2 ^ n - 1) &&& i = i := by decide +kernel
set_option maxRecDepth 4000 in
theorem mdammed_step {I0 : IT} {J : JT} {F : FT} {n t gn : Nat} {ρ σ γ : SN} (hF : Fok F) (hRo0 : mRo I0 ρ n) (hNo0 : mNo I0 σ) (hGa0 : mGa I0 γ gn) (hρ : ∀ k j, ρ k j ≤ 9) (hgo : gOk γ gn) (hok : okN t σ) (htq : t + 6 ≤ 1000) {pp : Bool} (i : Nat) (hi0 : i ≤ 2 ^ n) (I : IT) (xa : Int32) (xo : Int32) (pn : Bool) (hsc : SCP I0 I) (hst : (ctN (fitN ρ n σ γ gn) i = 0 ∧ xa = -1 ∧ pn = true) ∨ (0 < ctN (fitN ρ n σ γ gn) i ∧ xa = nI ((anN (fitN ρ n σ γ gn) (2 ^ n - 1) i)) ∧ pn = false)) (hxo : xo = nI (orN (fitN ρ n σ γ gn) i))
    (ih0 : ∀ i', i < 2 ^ n → i' = i + 1 → ∀ (I : IT) (xa : Int32) (xo : Int32) (pn : Bool), (SCP I0 I) → ((ctN (fitN ρ n σ γ gn) i' = 0 ∧ xa = -1 ∧ pn = true) ∨ (0 < ctN (fitN ρ n σ γ gn) i' ∧ xa = nI ((anN (fitN ρ n σ γ gn) (2 ^ n - 1) i')) ∧ pn = false)) → (xo = nI (orN (fitN ρ n σ γ gn) i')) → Wp none 157 (fun R => ∃ I2, R = (some (vI (a_dammed ρ n σ γ gn pp)), KK, I2, J, F) ∧ SCP I0 I2) 10 [some (vR 173), some (vI (b2 pp)), some (vI xa), some (vI xo), some (vI (b2 pn)), some (vI (nI i'))] [] KK I J F) : Wp none 157 (fun R => ∃ I2, R = (some (vI (a_dammed ρ n σ γ gn pp)), KK, I2, J, F) ∧ SCP I0 I2) 10 [some (vR 173), some (vI (b2 pp)), some (vI xa), some (vI xo), some (vI (b2 pn)), some (vI (nI i))] [] KK I J F := by
  have hn6 := hRo0.1
  have hp64 := p64 hn6
  have hp1 := Nat.two_pow_pos n
  have hRo := hRo0.s hsc.M
  refine wp_iload (pc := 10) d_157_10 rfl ?_
  refine wp_icN (pc := 12) (m := 1) d_157_12 (by decide) ?_
  refine wp_aload_n (pc := 13) (i := 0) d_157_13 rfl rfl ?_
  refine wp_gI (pc := 14) d_157_14 fl_10_53 rfl ft_9_5 hRo.2.1 ?_
  refine wp_ishl (pc := 17) d_157_17 ?_
  rw [shl_c (by omega) (by omega), Nat.one_mul]
  refine wp_icmpN_ge (pc := 18) (tgt := 49) d_157_18 (by decide) (by omega) (by omega) (fun zq18 => ?_) (fun zq18 => ?_)
  · refine wp_iload (pc := 49) d_157_49 rfl ?_
    refine wp_ifB_eq (pc := 51) (tgt := 59) d_157_51 (by decide) (fun zq51 => ?_) (fun zq51 => ?_)
    · refine wp_iload_n (pc := 59) (i := 1) d_157_59 rfl rfl ?_
      refine wp_ifB_eq (pc := 60) (tgt := 67) d_157_60 (by decide) (fun zq60 => ?_) (fun zq60 => ?_)
      · refine wp_iload_n (pc := 67) (i := 2) d_157_67 rfl rfl ?_
        have hi2 : i = 2 ^ n := by omega
        rw [hi2] at hst hxo
        rcases hst with ⟨g1, g2, g3⟩ | ⟨g1, g2, g3⟩
        · rw [g3] at zq51; cases zq51
        · exact wp_iret (pc := 68) d_157_68 (Or.inl rfl) ⟨_, by unfold a_dammed; rw [if_neg (show ¬ ctN (fitN ρ n σ γ gn) (2 ^ n) = 0 by omega), if_neg (nT zq60), g2], hsc⟩
      · refine wp_iload_n (pc := 63) (i := 3) d_157_63 rfl rfl ?_
        refine wp_goto (pc := 64) (tgt := 68) d_157_64 (by decide) ?_
        have hi2 : i = 2 ^ n := by omega
        rw [hi2] at hst hxo
        rcases hst with ⟨g1, g2, g3⟩ | ⟨g1, g2, g3⟩
        · rw [g3] at zq51; cases zq51
        · exact wp_iret (pc := 68) d_157_68 (Or.inl rfl) ⟨_, by unfold a_dammed; rw [if_neg (show ¬ ctN (fitN ρ n σ γ gn) (2 ^ n) = 0 by omega), if_pos zq60, hxo], hsc⟩
    · refine wp_bipush (pc := 54) (v := (-9)) d_157_54 (by decide) ?_
      refine wp_goto (pc := 56) (tgt := 68) d_157_56 (by decide) ?_
      have hi2 : i = 2 ^ n := by omega
      rw [hi2] at hst hxo
      rcases hst with ⟨g1, g2, g3⟩ | ⟨g1, g2, g3⟩
      · exact wp_iret (pc := 68) d_157_68 (Or.inl rfl) ⟨_, by unfold a_dammed; rw [if_pos g1], hsc⟩
      · rw [g3] at zq51; cases zq51
  · refine wp_aload_n (pc := 21) (i := 0) d_157_21 rfl rfl ?_
    refine wp_iload (pc := 22) d_157_22 rfl ?_
    refine wp_callV1e (pc := 24) d_157_24 lk_10_154 (by decide) rfl (Nat.le_of_ble_eq_true rfl) rfl rfl (m_doesFit (sx := i) hF (hRo0.s hsc.M) (mNo.s hNo0 hsc.M) (mGa.s hGa0 hsc.M) hρ (by omega) hgo hok htq) (fun Iq24 hq24 => ?_)
    refine wp_ifB_eq (pc := 27) (tgt := 43) d_157_27 (by decide) (fun zq27 => ?_) (fun zq27 => ?_)
    · refine wq_iincN (pc := 43) (L2 := [_, _, _, _, _, _]) d_157_43 rfl (b := 1) (by decide) rfl rfl ?_
      refine wp_goto (pc := 46) (tgt := 10) d_157_46 (by decide) ?_
      have hpf : (fitN ρ n σ γ gn) i = false := zq27
      have hc1 : ctN (fitN ρ n σ γ gn) (i + 1) = ctN (fitN ρ n σ γ gn) i := by show ctN (fitN ρ n σ γ gn) i + (if (fitN ρ n σ γ gn) i then 1 else 0) = _; rw [hpf]; rfl
      have ha1 : (anN (fitN ρ n σ γ gn) (2 ^ n - 1) (i + 1)) = (anN (fitN ρ n σ γ gn) (2 ^ n - 1) i) := by show (if (fitN ρ n σ γ gn) i then _ else _) = _; rw [hpf]; rfl
      have ho1 : orN (fitN ρ n σ γ gn) (i + 1) = orN (fitN ρ n σ γ gn) i := by show (if (fitN ρ n σ γ gn) i then _ else _) = _; rw [hpf]; rfl
      exact ih0 (i + 1) zq18 rfl _ xa xo pn (hsc.tr hq24) (by rw [hc1, ha1]; exact hst) (by rw [ho1]; exact hxo)
    · refine wp_iload_n (pc := 30) (i := 2) d_157_30 rfl rfl ?_
      refine wp_iload (pc := 31) d_157_31 rfl ?_
      refine wp_iand (pc := 33) d_157_33 ?_
      refine wq_istore_n (pc := 34) (L2 := [_, _, _, _, _, _]) (i := 2) d_157_34 rfl (Nat.le_of_ble_eq_true rfl) rfl rfl ?_
      refine wp_iload_n (pc := 35) (i := 3) d_157_35 rfl rfl ?_
      refine wp_iload (pc := 36) d_157_36 rfl ?_
      refine wp_ior (pc := 38) d_157_38 ?_
      refine wq_istore_n (pc := 39) (L2 := [_, _, _, _, _, _]) (i := 3) d_157_39 rfl (Nat.le_of_ble_eq_true rfl) rfl rfl ?_
      refine wp_icN (pc := 40) (m := 0) d_157_40 (by decide) ?_
      refine wq_istore (pc := 41) (L2 := [_, _, _, _, _, _]) d_157_41 (Nat.le_of_ble_eq_true rfl) rfl rfl ?_
      refine wq_iincN (pc := 43) (L2 := [_, _, _, _, _, _]) d_157_43 rfl (b := 1) (by decide) rfl rfl ?_
      refine wp_goto (pc := 46) (tgt := 10) d_157_46 (by decide) ?_
      have hpf : (fitN ρ n σ γ gn) i = true := zq27
      have hc1 : ctN (fitN ρ n σ γ gn) (i + 1) = ctN (fitN ρ n σ γ gn) i + 1 := by show ctN (fitN ρ n σ γ gn) i + (if (fitN ρ n σ γ gn) i then 1 else 0) = _; rw [hpf]; rfl
      have ha1 : (anN (fitN ρ n σ γ gn) (2 ^ n - 1) (i + 1)) = (anN (fitN ρ n σ γ gn) (2 ^ n - 1) i) &&& i := by show (if (fitN ρ n σ γ gn) i then _ else _) = _; rw [hpf]; rfl
      have ho1 : orN (fitN ρ n σ γ gn) (i + 1) = orN (fitN ρ n σ γ gn) i ||| i := by show (if (fitN ρ n σ γ gn) i then _ else _) = _; rw [hpf]; rfl
      refine ih0 (i + 1) zq18 rfl _ _ _ false (hsc.tr hq24) (Or.inr ⟨by omega, ?_, rfl⟩) (by rw [ho1, hxo]; exact (or64 _ (orN_lt i (by omega)) i (by omega)).1)
      rw [ha1]
      rcases hst with ⟨g1, g2, g3⟩ | ⟨g1, g2, g3⟩
      · rw [anN_0 i g1, g2, m1_and i (by omega), and_top n hn6 i zq18]
      · rw [g2]; exact (and64 _ (anN_lt (by omega) i (by omega)) i (by omega)).1
theorem mdammed_loop {I0 : IT} {J : JT} {F : FT} {n t gn : Nat} {ρ σ γ : SN} (hF : Fok F) (hRo0 : mRo I0 ρ n) (hNo0 : mNo I0 σ) (hGa0 : mGa I0 γ gn) (hρ : ∀ k j, ρ k j ≤ 9) (hgo : gOk γ gn) (hok : okN t σ) (htq : t + 6 ≤ 1000) {pp : Bool} : ∀ (d i : Nat), i + d = 2 ^ n → ∀ (I : IT) (xa : Int32) (xo : Int32) (pn : Bool), (SCP I0 I) → ((ctN (fitN ρ n σ γ gn) i = 0 ∧ xa = -1 ∧ pn = true) ∨ (0 < ctN (fitN ρ n σ γ gn) i ∧ xa = nI ((anN (fitN ρ n σ γ gn) (2 ^ n - 1) i)) ∧ pn = false)) → (xo = nI (orN (fitN ρ n σ γ gn) i)) → Wp none 157 (fun R => ∃ I2, R = (some (vI (a_dammed ρ n σ γ gn pp)), KK, I2, J, F) ∧ SCP I0 I2) 10 [some (vR 173), some (vI (b2 pp)), some (vI xa), some (vI xo), some (vI (b2 pn)), some (vI (nI i))] [] KK I J F := by
  intro d
  induction d with
  | zero =>
    intro i hid I xa xo pn hsc hst hxo
    exact mdammed_step hF hRo0 hNo0 hGa0 hρ hgo hok htq i (by omega) I xa xo pn hsc hst hxo (fun i' hlt => absurd hlt (by omega))
  | succ d ih =>
    intro i hid I xa xo pn hsc hst hxo
    exact mdammed_step hF hRo0 hNo0 hGa0 hρ hgo hok htq i (by omega) I xa xo pn hsc hst hxo (fun i' hlt he => ih i' (by omega))

set_option maxRecDepth 4000 in
theorem m_dammed0 {I0 : IT} {J : JT} {F : FT} {n t gn : Nat} {ρ σ γ : SN} (hF : Fok F) (hRo0 : mRo I0 ρ n) (hNo0 : mNo I0 σ) (hGa0 : mGa I0 γ gn) (hρ : ∀ k j, ρ k j ≤ 9) (hgo : gOk γ gn) (hok : okN t σ) (htq : t + 6 ≤ 1000) {pp : Bool} : Sp 157 [vR 173, vI (b2 pp)] KK I0 J F (fun R => ∃ I2, R = (some (vI (a_dammed ρ n σ γ gn pp)), KK, I2, J, F) ∧ SCP I0 I2) := by
  refine Sp.mk2 (Nat.le_of_ble_eq_true rfl) (L2 := [_, _, _, _, _, _]) rfl ?_
  refine wp_iconst (pc := 0) (v := (-1)) d_157_0 (by decide) ?_
  refine wq_istore_n (pc := 1) (L2 := [_, _, _, _, _, _]) (i := 2) d_157_1 rfl (Nat.le_of_ble_eq_true rfl) rfl rfl ?_
  refine wp_icN (pc := 2) (m := 0) d_157_2 (by decide) ?_
  refine wq_istore_n (pc := 3) (L2 := [_, _, _, _, _, _]) (i := 3) d_157_3 rfl (Nat.le_of_ble_eq_true rfl) rfl rfl ?_
  refine wp_icN (pc := 4) (m := 1) d_157_4 (by decide) ?_
  refine wq_istore (pc := 5) (L2 := [_, _, _, _, _, _]) d_157_5 (Nat.le_of_ble_eq_true rfl) rfl rfl ?_
  refine wp_icN (pc := 7) (m := 0) d_157_7 (by decide) ?_
  refine wq_istore (pc := 8) (L2 := [_, _, _, _, _, _]) d_157_8 (Nat.le_of_ble_eq_true rfl) rfl rfl ?_
  exact mdammed_loop hF hRo0 hNo0 hGa0 hρ hgo hok htq (2 ^ n) 0 (by omega) I0 (-1) (nI 0) true ⟨fun _ _ => rfl, fun _ _ _ _ => rfl⟩ (Or.inl ⟨rfl, rfl, rfl⟩) rfl
theorem m_gdammed {I : IT} {J : JT} {F : FT} {t : Nat} {tx : Nat → Nat} {tl : Nat} {ρ : SN} {n : Nat} {σ : SN} {rg : Nat → SN} {nx na : Nat} {γ : SN} {gn : Nat} {sl : Nat → SN} {sf : Nat → Bool} {sd : Int64} (hF : Fok F) (hC : MR I J tx tl ρ n σ rg nx na γ gn sl sf sd) (hO : OKS t tx tl ρ n σ rg nx na γ gn sl sf) (ht : t + 100 ≤ 1000) {p : Bool} : Sp 157 [vR 173, vI (b2 p)] KK I J F (PN (a_dammed ρ n σ γ gn p, (tx, tl, ρ, n, σ, rg, nx, na, γ, gn, sl, sf, sd)) I J F) := by
  have hC0 := hC
  obtain ⟨hTx, hRo, hNo, hAc, hGa, hSl, hsd⟩ := hC
  obtain ⟨ht40, hx256, hρ, hok, hrg, hnx, hna, hgo, hsl, hz, hzr, hzs, hn6⟩ := hO
  have hd64 := hok.2.2.2.2.2
  have hgn6 := hGa.1
  refine (m_dammed0 hF hRo hNo hGa hρ hgo hok (by omega)).weak (fun R h => ?_)
  obtain ⟨I2, h1, h2⟩ := h
  rw [h1]
  exact PN.q rfl (hC0.k h2.M) h2.M.O
