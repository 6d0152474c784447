set_option maxRecDepth 4000 in
theorem mkeep_step {Po : RT → Prop} {I0 : IT} {J : JT} {F : FT} {ji : Nat} (hji : ji ≤ 1) (hF : Fok F) (hk : ∀ (I : IT) (i : Nat), i = 26 → (∀ q, q < 26 → I 187 (28 * ji + q) = I0 177 (q)) → (∀ q, (q < 28 * ji ∨ 28 * ji + 26 ≤ q) → I 187 q = I0 187 q) → (∀ a, a ≠ 187 → I a = I0 a) → Wp none 162 Po 50 [some (vR 173), some (vI (nI ji)), some (vI (nI i))] [] KK I J F) (i : Nat) (hi0 : i ≤ 26) (I : IT) (hin : ∀ q, q < i → I 187 (28 * ji + q) = I0 177 (q)) (hlo : ∀ q, (q < 28 * ji ∨ 28 * ji + 26 ≤ q) → I 187 q = I0 187 q) (hoff : ∀ a, a ≠ 187 → I a = I0 a)
    (ih0 : ∀ i', i < 26 → i' = i + 1 → ∀ (I : IT), (∀ q, q < i' → I 187 (28 * ji + q) = I0 177 (q)) → (∀ q, (q < 28 * ji ∨ 28 * ji + 26 ≤ q) → I 187 q = I0 187 q) → (∀ a, a ≠ 187 → I a = I0 a) → Wp none 162 Po 21 [some (vR 173), some (vI (nI ji)), some (vI (nI i'))] [] KK I J F) : Wp none 162 Po 21 [some (vR 173), some (vI (nI ji)), some (vI (nI i))] [] KK I J F := by
  refine wp_iload_n (pc := 21) (i := 2) d_162_21 rfl rfl ?_
  refine wp_bpN (pc := 22) (m := 26) d_162_22 (by decide) ?_
  refine wp_icmpN_ge (pc := 24) (tgt := 50) d_162_24 (by decide) (by omega) (by decide) (fun zq24 => ?_) (fun zq24 => ?_)
  · exact hk I i (by omega) (fun q hq => hin q (by omega)) hlo hoff
  · refine wp_aload_n (pc := 27) (i := 0) d_162_27 rfl rfl ?_
    refine wp_gA (pc := 28) d_162_28 fl_10_50 rfl ft_9_25 (F_173_25 hF) ?_
    refine wp_bpN (pc := 31) (m := 28) d_162_31 (by decide) ?_
    refine wp_iload_n (pc := 33) (i := 1) d_162_33 rfl rfl ?_
    refine wp_imulN (pc := 34) d_162_34 ?_
    refine wp_iload_n (pc := 35) (i := 2) d_162_35 rfl rfl ?_
    refine wp_iaddN (pc := 36) d_162_36 ?_
    refine wp_aload_n (pc := 37) (i := 0) d_162_37 rfl rfl ?_
    refine wp_gA (pc := 38) d_162_38 fl_10_19 rfl ft_9_4 (F_173_4 hF) ?_
    refine wp_iload_n (pc := 41) (i := 2) d_162_41 rfl rfl ?_
    refine wp_aL (pc := 42) (j := i) d_162_42 rfl rfl (by omega) (by decide) rfl ?_
    refine wp_aS (pc := 43) (j := ((28 * ji) + i)) d_162_43 rfl rfl (by omega) (by decide) (fun Iq43 uq43 => ?_)
    refine wq_iincN (pc := 44) (L2 := [_, _, _]) d_162_44 rfl (b := 1) (by decide) rfl rfl ?_
    refine wp_goto (pc := 47) (tgt := 21) d_162_47 (by decide) ?_
    refine ih0 (i + 1) zq24 rfl _ (fun q hq => ?_) (fun q hq => (uq43.ne (by omega)).trans (hlo q hq)) (fun a ha => (uq43.2 a ha).trans (hoff a ha))
    by_cases e : q = i
    · subst e; exact uq43.at.trans (by rw [hoff 177 (by decide)])
    · exact (uq43.ne (by omega)).trans (hin q (by omega))
theorem mkeep_loop {Po : RT → Prop} {I0 : IT} {J : JT} {F : FT} {ji : Nat} (hji : ji ≤ 1) (hF : Fok F) (hk : ∀ (I : IT) (i : Nat), i = 26 → (∀ q, q < 26 → I 187 (28 * ji + q) = I0 177 (q)) → (∀ q, (q < 28 * ji ∨ 28 * ji + 26 ≤ q) → I 187 q = I0 187 q) → (∀ a, a ≠ 187 → I a = I0 a) → Wp none 162 Po 50 [some (vR 173), some (vI (nI ji)), some (vI (nI i))] [] KK I J F) : ∀ (d i : Nat), i + d = 26 → ∀ (I : IT), (∀ q, q < i → I 187 (28 * ji + q) = I0 177 (q)) → (∀ q, (q < 28 * ji ∨ 28 * ji + 26 ≤ q) → I 187 q = I0 187 q) → (∀ a, a ≠ 187 → I a = I0 a) → Wp none 162 Po 21 [some (vR 173), some (vI (nI ji)), some (vI (nI i))] [] KK I J F := by
  intro d
  induction d with
  | zero =>
    intro i hid I hin hlo hoff
    exact mkeep_step hji hF hk i (by omega) I hin hlo hoff (fun i' hlt => absurd hlt (by omega))
  | succ d ih =>
    intro i hid I hin hlo hoff
    exact mkeep_step hji hF hk i (by omega) I hin hlo hoff (fun i' hlt he => ih i' (by omega))

set_option maxRecDepth 4000 in
theorem m_gkeep {I : IT} {J : JT} {F : FT} {t : Nat} {tx : Nat → Nat} {tl : Nat} {ρ : SN} {n : Nat} {σ : SN} {rg : Nat → SN} {nx na : Nat} {γ : SN} {gn : Nat} {sl : Nat → SN} {sf : Nat → Bool} {sd : Int64} (hF : Fok F) (hC : MR I J tx tl ρ n σ rg nx na γ gn sl sf sd) (hO : OKS t tx tl ρ n σ rg nx na γ gn sl sf) (ht : t + 100 ≤ 1000) {x : Int32} : Sp 162 [vR 173, vI x] KK I J F (PN (q_keep tx tl ρ n σ rg nx na γ gn sl sf sd x) I J F) := by
  have hC0 := hC
  obtain ⟨hTx, hRo, hNo, hAc, hGa, hSl, hsd⟩ := hC
  obtain ⟨ht40, hx256, hρ, hok, hrg, hnx, hna, hgo, hsl, hz, hzr, hzs, hn6⟩ := hO
  have hd64 := hok.2.2.2.2.2
  have hgn6 := hGa.1
  refine Sp.mk2 (Nat.le_of_ble_eq_true rfl) (L2 := [_, _, _]) rfl ?_
  refine wp_iload_n (pc := 0) (i := 1) d_162_0 rfl rfl ?_
  refine wp_i2l (pc := 1) d_162_1 ?_
  refine wp_lconst (pc := 2) (v := lN 0) d_162_2 (by decide) ?_
  refine wp_lconst (pc := 3) (v := lN 1) d_162_3 (by decide) ?_
  refine wp_callS3p (pc := 4) d_162_4 lk_10_59 (by decide) rfl (Nat.le_of_ble_eq_true rfl) (c_inN x 0 1 (by decide) (by decide)) ?_
  refine wp_ifB_ne (pc := 7) (tgt := 12) d_162_7 (by decide) (fun zq7 => ?_) (fun zq7 => ?_)
  · obtain ⟨ji, h0ji, h1ji, hxji⟩ := inB_t zq7 (by decide) (by decide)
    subst hxji
    have hcji : (nI ji).toNatClampNeg = ji := nI_clamp (by omega)
    refine wp_aload_n (pc := 12) (i := 0) d_162_12 rfl rfl ?_
    refine wp_gA (pc := 13) d_162_13 fl_10_46 rfl ft_9_24 (F_173_24 hF) ?_
    refine wp_iload_n (pc := 16) (i := 1) d_162_16 rfl rfl ?_
    refine wp_icN (pc := 17) (m := 1) d_162_17 (by decide) ?_
    refine wp_zS (pc := 18) (j := ji) d_162_18 rfl rfl (by omega) (by decide) (by decide) (fun Iq18 uq18 => ?_)
    refine wp_icN (pc := 19) (m := 0) d_162_19 (by decide) ?_
    refine wq_istore_n (pc := 20) (L2 := [_, _, _]) (i := 2) d_162_20 rfl (Nat.le_of_ble_eq_true rfl) rfl rfl ?_
    refine mkeep_loop (I0 := Iq18) (ji := ji) h1ji hF (fun I3 i hi hin hlo hoff => ?_) 26 0 (by omega) Iq18 (fun q hq => absurd hq (Nat.not_lt_zero q)) (fun _ _ => rfl) (fun _ _ => rfl)
    refine wp_aload_n (pc := 50) (i := 0) d_162_50 rfl rfl ?_
    refine wp_gA (pc := 51) d_162_51 fl_10_50 rfl ft_9_25 (F_173_25 hF) ?_
    refine wp_bpN (pc := 54) (m := 28) d_162_54 (by decide) ?_
    refine wp_iload_n (pc := 56) (i := 1) d_162_56 rfl rfl ?_
    refine wp_imulN (pc := 57) d_162_57 ?_
    refine wp_bpN (pc := 58) (m := 26) d_162_58 (by decide) ?_
    refine wp_iaddN (pc := 60) d_162_60 ?_
    refine wp_aload_n (pc := 61) (i := 0) d_162_61 rfl rfl ?_
    refine wp_gI (pc := 62) d_162_62 fl_10_93 rfl ft_9_7 ((congrFun (hoff 173 (by decide)) _).trans ((uq18.off (by decide)).trans hNo.2.1)) ?_
    refine wp_aS (pc := 65) (j := ((28 * ji) + 26)) d_162_65 rfl rfl (by omega) (by decide) (fun Iq65 uq65 => ?_)
    refine wp_aload_n (pc := 66) (i := 0) d_162_66 rfl rfl ?_
    refine wp_gA (pc := 67) d_162_67 fl_10_50 rfl ft_9_25 (F_173_25 hF) ?_
    refine wp_bpN (pc := 70) (m := 28) d_162_70 (by decide) ?_
    refine wp_iload_n (pc := 72) (i := 1) d_162_72 rfl rfl ?_
    refine wp_imulN (pc := 73) d_162_73 ?_
    refine wp_bpN (pc := 74) (m := 27) d_162_74 (by decide) ?_
    refine wp_iaddN (pc := 76) d_162_76 ?_
    refine wp_aload_n (pc := 77) (i := 0) d_162_77 rfl rfl ?_
    refine wp_gI (pc := 78) d_162_78 fl_10_90 rfl ft_9_6 ((uq65.off (by decide)).trans ((congrFun (hoff 173 (by decide)) _).trans ((uq18.off (by decide)).trans hNo.2.2))) ?_
    refine wp_aS (pc := 81) (j := ((28 * ji) + 27)) d_162_81 rfl rfl (by omega) (by decide) (fun Iq81 uq81 => ?_)
    refine wp_aload_n (pc := 82) (i := 0) d_162_82 rfl rfl ?_
    refine wp_gI (pc := 83) d_162_83 fl_10_93 rfl ft_9_7 ((uq81.off (by decide)).trans ((uq65.off (by decide)).trans ((congrFun (hoff 173 (by decide)) _).trans ((uq18.off (by decide)).trans hNo.2.1)))) ?_
    have harr : ∀ a, a ≠ 186 → a ≠ 187 → Iq81 a = I a := fun a h1 h2 => by rw [uq81.2 a h2, uq65.2 a h2, hoff a h2, uq18.2 a h1]
    have hS2 : mSl Iq81 (upf sl ji σ) (upb sf ji) := by
      refine ⟨fun j hj => ?_, fun j hj => ?_⟩
      · unfold upf
        by_cases e : j = ji
        · rw [if_pos e, e]
          refine ⟨hNo.1.cp (fun q hq => ?_), (uq81.ne (by omega)).trans uq65.at, uq81.at⟩
          rw [Nat.zero_add, uq81.ne (by omega), uq65.ne (by omega), hin q hq, uq18.off (by decide)]
        · rw [if_neg e]
          have hk : ∀ q, (q < 28 * ji ∨ 28 * ji + 28 ≤ q) → Iq81 187 q = I 187 q := fun q hq => by rw [uq81.ne (by omega), uq65.ne (by omega), hlo q (by omega), uq18.off (by decide)]
          exact ⟨(hSl.1 j hj).1.k (fun q h1 h2 => hk q (by omega)), (hk _ (by omega)).trans (hSl.1 j hj).2.1, (hk _ (by omega)).trans (hSl.1 j hj).2.2⟩
      · have hk : Iq81 186 j = Iq18 186 j := by rw [uq81.off (by decide), uq65.off (by decide), hoff 186 (by decide)]
        unfold upb
        by_cases e : j = ji
        · rw [if_pos e, hk, e]; exact uq18.at
        · rw [if_neg e, hk, uq18.ne e]; exact hSl.2 j hj
    exact wp_iret (pc := 86) d_162_86 (Or.inl rfl) (PN.mk (by unfold q_keep; rw [if_pos zq7, hcji]) ⟨⟨(congrFun (harr 173 (by decide) (by decide)) 9).trans hTx.1, fun j hj => by rw [harr 178 (by decide) (by decide)]; exact hTx.2 j hj⟩, hRo.k (congrFun (harr 173 (by decide) (by decide)) 5) (by rw [harr 176 (by decide) (by decide)]), ⟨by rw [harr 177 (by decide) (by decide)]; exact hNo.1, (congrFun (harr 173 (by decide) (by decide)) 7).trans hNo.2.1, (congrFun (harr 173 (by decide) (by decide)) 6).trans hNo.2.2⟩, ⟨(congrFun (harr 173 (by decide) (by decide)) 13).trans hAc.1, (congrFun (harr 173 (by decide) (by decide)) 12).trans hAc.2.1, by rw [harr 179 (by decide) (by decide)]; exact hAc.2.2⟩, ⟨hGa.1, (congrFun (harr 173 (by decide) (by decide)) 19).trans hGa.2.1, by rw [harr 183 (by decide) (by decide), harr 184 (by decide) (by decide), harr 185 (by decide) (by decide)]; exact hGa.2.2⟩, hS2, hsd⟩ ⟨fun a ha => harr a (by omega) (by omega), rfl⟩)
  · refine wp_iconst (pc := 10) (v := (-1)) d_162_10 (by decide) ?_
    exact wp_iret (pc := 11) d_162_11 (Or.inl rfl) (PN.mk (by unfold q_keep; rw [if_neg (nT zq7)]) hC0 ⟨fun _ _ => rfl, rfl⟩)
set_option maxRecDepth 4000 in
theorem magain_step {Po : RT → Prop} {I0 : IT} {J : JT} {F : FT} {ji : Nat} (hji : ji ≤ 1) (hF : Fok F) (hk : ∀ (I : IT) (i : Nat), i = 26 → (∀ q, q < 26 → I 177 (q) = I0 187 (28 * ji + q)) → (∀ q, (q < 0 ∨ 0 + 26 ≤ q) → I 177 q = I0 177 q) → (∀ a, a ≠ 177 → I a = I0 a) → Wp none 163 Po 55 [some (vR 173), some (vI (nI ji)), some (vI (nI i))] [] KK I J F) (i : Nat) (hi0 : i ≤ 26) (I : IT) (hin : ∀ q, q < i → I 177 (q) = I0 187 (28 * ji + q)) (hlo : ∀ q, (q < 0 ∨ 0 + 26 ≤ q) → I 177 q = I0 177 q) (hoff : ∀ a, a ≠ 177 → I a = I0 a)
    (ih0 : ∀ i', i < 26 → i' = i + 1 → ∀ (I : IT), (∀ q, q < i' → I 177 (q) = I0 187 (28 * ji + q)) → (∀ q, (q < 0 ∨ 0 + 26 ≤ q) → I 177 q = I0 177 q) → (∀ a, a ≠ 177 → I a = I0 a) → Wp none 163 Po 26 [some (vR 173), some (vI (nI ji)), some (vI (nI i'))] [] KK I J F) : Wp none 163 Po 26 [some (vR 173), some (vI (nI ji)), some (vI (nI i))] [] KK I J F := by
  refine wp_iload_n (pc := 26) (i := 2) d_163_26 rfl rfl ?_
  refine wp_bpN (pc := 27) (m := 26) d_163_27 (by decide) ?_
  refine wp_icmpN_ge (pc := 29) (tgt := 55) d_163_29 (by decide) (by omega) (by decide) (fun zq29 => ?_) (fun zq29 => ?_)
  · exact hk I i (by omega) (fun q hq => hin q (by omega)) hlo hoff
  · refine wp_aload_n (pc := 32) (i := 0) d_163_32 rfl rfl ?_
    refine wp_gA (pc := 33) d_163_33 fl_10_19 rfl ft_9_4 (F_173_4 hF) ?_
    refine wp_iload_n (pc := 36) (i := 2) d_163_36 rfl rfl ?_
    refine wp_aload_n (pc := 37) (i := 0) d_163_37 rfl rfl ?_
    refine wp_gA (pc := 38) d_163_38 fl_10_50 rfl ft_9_25 (F_173_25 hF) ?_
    refine wp_bpN (pc := 41) (m := 28) d_163_41 (by decide) ?_
    refine wp_iload_n (pc := 43) (i := 1) d_163_43 rfl rfl ?_
    refine wp_imulN (pc := 44) d_163_44 ?_
    refine wp_iload_n (pc := 45) (i := 2) d_163_45 rfl rfl ?_
    refine wp_iaddN (pc := 46) d_163_46 ?_
    refine wp_aL (pc := 47) (j := ((28 * ji) + i)) d_163_47 rfl rfl (by omega) (by decide) rfl ?_
    refine wp_aS (pc := 48) (j := i) d_163_48 rfl rfl (by omega) (by decide) (fun Iq48 uq48 => ?_)
    refine wq_iincN (pc := 49) (L2 := [_, _, _]) d_163_49 rfl (b := 1) (by decide) rfl rfl ?_
    refine wp_goto (pc := 52) (tgt := 26) d_163_52 (by decide) ?_
    refine ih0 (i + 1) zq29 rfl _ (fun q hq => ?_) (fun q hq => (uq48.ne (by omega)).trans (hlo q hq)) (fun a ha => (uq48.2 a ha).trans (hoff a ha))
    by_cases e : q = i
    · subst e; exact uq48.at.trans (by rw [hoff 187 (by decide)])
    · exact (uq48.ne (by omega)).trans (hin q (by omega))
theorem magain_loop {Po : RT → Prop} {I0 : IT} {J : JT} {F : FT} {ji : Nat} (hji : ji ≤ 1) (hF : Fok F) (hk : ∀ (I : IT) (i : Nat), i = 26 → (∀ q, q < 26 → I 177 (q) = I0 187 (28 * ji + q)) → (∀ q, (q < 0 ∨ 0 + 26 ≤ q) → I 177 q = I0 177 q) → (∀ a, a ≠ 177 → I a = I0 a) → Wp none 163 Po 55 [some (vR 173), some (vI (nI ji)), some (vI (nI i))] [] KK I J F) : ∀ (d i : Nat), i + d = 26 → ∀ (I : IT), (∀ q, q < i → I 177 (q) = I0 187 (28 * ji + q)) → (∀ q, (q < 0 ∨ 0 + 26 ≤ q) → I 177 q = I0 177 q) → (∀ a, a ≠ 177 → I a = I0 a) → Wp none 163 Po 26 [some (vR 173), some (vI (nI ji)), some (vI (nI i))] [] KK I J F := by
  intro d
  induction d with
  | zero =>
    intro i hid I hin hlo hoff
    exact magain_step hji hF hk i (by omega) I hin hlo hoff (fun i' hlt => absurd hlt (by omega))
  | succ d ih =>
    intro i hid I hin hlo hoff
    exact magain_step hji hF hk i (by omega) I hin hlo hoff (fun i' hlt he => ih i' (by omega))

set_option maxRecDepth 4000 in
theorem m_gagain {I : IT} {J : JT} {F : FT} {t : Nat} {tx : Nat → Nat} {tl : Nat} {ρ : SN} {n : Nat} {σ : SN} {rg : Nat → SN} {nx na : Nat} {γ : SN} {gn : Nat} {sl : Nat → SN} {sf : Nat → Bool} {sd : Int64} (hF : Fok F) (hC : MR I J tx tl ρ n σ rg nx na γ gn sl sf sd) (hO : OKS t tx tl ρ n σ rg nx na γ gn sl sf) (ht : t + 100 ≤ 1000) {x : Int32} : Sp 163 [vR 173, vI x] KK I J F (PN (q_again tx tl ρ n σ rg nx na γ gn sl sf sd x) I J F) := by
  have hC0 := hC
  obtain ⟨hTx, hRo, hNo, hAc, hGa, hSl, hsd⟩ := hC
  obtain ⟨ht40, hx256, hρ, hok, hrg, hnx, hna, hgo, hsl, hz, hzr, hzs, hn6⟩ := hO
  have hd64 := hok.2.2.2.2.2
  have hgn6 := hGa.1
  refine Sp.mk2 (Nat.le_of_ble_eq_true rfl) (L2 := [_, _, _]) rfl ?_
  refine wp_iload_n (pc := 0) (i := 1) d_163_0 rfl rfl ?_
  refine wp_i2l (pc := 1) d_163_1 ?_
  refine wp_lconst (pc := 2) (v := lN 0) d_163_2 (by decide) ?_
  refine wp_lconst (pc := 3) (v := lN 1) d_163_3 (by decide) ?_
  refine wp_callS3p (pc := 4) d_163_4 lk_10_59 (by decide) rfl (Nat.le_of_ble_eq_true rfl) (c_inN x 0 1 (by decide) (by decide)) ?_
  refine wp_ifB_ne (pc := 7) (tgt := 12) d_163_7 (by decide) (fun zq7 => ?_) (fun zq7 => ?_)
  · obtain ⟨ji, h0ji, h1ji, hxji⟩ := inB_t zq7 (by decide) (by decide)
    subst hxji
    have hcji : (nI ji).toNatClampNeg = ji := nI_clamp (by omega)
    refine wp_aload_n (pc := 12) (i := 0) d_163_12 rfl rfl ?_
    refine wp_gA (pc := 13) d_163_13 fl_10_46 rfl ft_9_24 (F_173_24 hF) ?_
    refine wp_iload_n (pc := 16) (i := 1) d_163_16 rfl rfl ?_
    refine wp_zL (pc := 17) (j := ji) d_163_17 rfl rfl (by omega) (by decide) (hSl.2 ji (by omega)) ?_
    refine wp_ifB_ne (pc := 18) (tgt := 24) d_163_18 (by decide) (fun zq18 => ?_) (fun zq18 => ?_)
    · refine wp_icN (pc := 24) (m := 0) d_163_24 (by decide) ?_
      refine wq_istore_n (pc := 25) (L2 := [_, _, _]) (i := 2) d_163_25 rfl (Nat.le_of_ble_eq_true rfl) rfl rfl ?_
      refine magain_loop (I0 := I) (ji := ji) h1ji hF (fun I3 i hi hin hlo hoff => ?_) 26 0 (by omega) I (fun q hq => absurd hq (Nat.not_lt_zero q)) (fun _ _ => rfl) (fun _ _ => rfl)
      refine wp_aload_n (pc := 55) (i := 0) d_163_55 rfl rfl ?_
      refine wp_aload_n (pc := 56) (i := 0) d_163_56 rfl rfl ?_
      refine wp_gA (pc := 57) d_163_57 fl_10_50 rfl ft_9_25 (F_173_25 hF) ?_
      refine wp_bpN (pc := 60) (m := 28) d_163_60 (by decide) ?_
      refine wp_iload_n (pc := 62) (i := 1) d_163_62 rfl rfl ?_
      refine wp_imulN (pc := 63) d_163_63 ?_
      refine wp_bpN (pc := 64) (m := 26) d_163_64 (by decide) ?_
      refine wp_iaddN (pc := 66) d_163_66 ?_
      refine wp_aL (pc := 67) (j := ((28 * ji) + 26)) d_163_67 rfl rfl (by omega) (by decide) ((congrFun (hoff 187 (by decide)) _).trans (hSl.1 ji (by omega)).2.1) ?_
      refine wp_pI (pc := 68) d_163_68 fl_10_93 rfl ft_9_7 rfl (fun Iq68 uq68 => ?_)
      refine wp_aload_n (pc := 71) (i := 0) d_163_71 rfl rfl ?_
      refine wp_aload_n (pc := 72) (i := 0) d_163_72 rfl rfl ?_
      refine wp_gA (pc := 73) d_163_73 fl_10_50 rfl ft_9_25 (F_173_25 hF) ?_
      refine wp_bpN (pc := 76) (m := 28) d_163_76 (by decide) ?_
      refine wp_iload_n (pc := 78) (i := 1) d_163_78 rfl rfl ?_
      refine wp_imulN (pc := 79) d_163_79 ?_
      refine wp_bpN (pc := 80) (m := 27) d_163_80 (by decide) ?_
      refine wp_iaddN (pc := 82) d_163_82 ?_
      refine wp_aL (pc := 83) (j := ((28 * ji) + 27)) d_163_83 rfl rfl (by omega) (by decide) ((uq68.off (by decide)).trans ((congrFun (hoff 187 (by decide)) _).trans (hSl.1 ji (by omega)).2.2)) ?_
      refine wp_pI (pc := 84) d_163_84 fl_10_90 rfl ft_9_6 rfl (fun Iq84 uq84 => ?_)
      refine wp_aload_n (pc := 87) (i := 0) d_163_87 rfl rfl ?_
      refine wp_icN (pc := 88) (m := 0) d_163_88 (by decide) ?_
      refine wp_pI (pc := 89) d_163_89 fl_10_96 rfl ft_9_12 rfl (fun Iq89 uq89 => ?_)
      refine wp_aload_n (pc := 92) (i := 0) d_163_92 rfl rfl ?_
      refine wp_gI (pc := 93) d_163_93 fl_10_93 rfl ft_9_7 ((uq89.ne (by decide)).trans ((uq84.ne (by decide)).trans uq68.at)) ?_
      have harr : ∀ a, a ≠ 173 → a ≠ 177 → Iq89 a = I a := fun a h1 h2 => by rw [uq89.2 a h1, uq84.2 a h1, uq68.2 a h1, hoff a h2]
      have h173 : ∀ q, q ≠ 6 → q ≠ 7 → q ≠ 12 → Iq89 173 q = I 173 q := fun q h1 h2 h3 => by rw [uq89.ne h3, uq84.ne h1, uq68.ne h2, hoff 173 (by decide)]
      have hN2 : mNo Iq89 (sl ji) := by
        refine ⟨(hSl.1 ji (by omega)).1.cp (fun q hq => ?_), (uq89.ne (by decide)).trans ((uq84.ne (by decide)).trans uq68.at), (uq89.ne (by decide)).trans uq84.at⟩
        rw [Nat.zero_add, uq89.off (by decide), uq84.off (by decide), uq68.off (by decide), hin q hq]
      exact wp_iret (pc := 96) d_163_96 (Or.inl rfl) (PN.mk (by unfold q_again; rw [if_pos zq7, hcji, if_pos zq18]) ⟨⟨(h173 9 (by decide) (by decide) (by decide)).trans hTx.1, fun j hj => by rw [harr 178 (by decide) (by decide)]; exact hTx.2 j hj⟩, hRo.k (h173 5 (by decide) (by decide) (by decide)) (by rw [harr 176 (by decide) (by decide)]), hN2, ⟨(h173 13 (by decide) (by decide) (by decide)).trans hAc.1, uq89.at, by rw [harr 179 (by decide) (by decide)]; exact hAc.2.2⟩, ⟨hGa.1, (h173 19 (by decide) (by decide) (by decide)).trans hGa.2.1, by rw [harr 183 (by decide) (by decide), harr 184 (by decide) (by decide), harr 185 (by decide) (by decide)]; exact hGa.2.2⟩, ⟨by rw [harr 187 (by decide) (by decide)]; exact hSl.1, by rw [harr 186 (by decide) (by decide)]; exact hSl.2⟩, hsd⟩ ⟨fun a ha => harr a (by omega) (by omega), rfl⟩)
    · refine wp_bipush (pc := 21) (v := (-3)) d_163_21 (by decide) ?_
      exact wp_iret (pc := 23) d_163_23 (Or.inl rfl) (PN.mk (by unfold q_again; rw [if_pos zq7, hcji, if_neg (nT zq18)]) hC0 ⟨fun _ _ => rfl, rfl⟩)
  · refine wp_iconst (pc := 10) (v := (-1)) d_163_10 (by decide) ?_
    exact wp_iret (pc := 11) d_163_11 (Or.inl rfl) (PN.mk (by unfold q_again; rw [if_neg (nT zq7)]) hC0 ⟨fun _ _ => rfl, rfl⟩)
theorem sum_zb {f : Nat → Nat} {n : Nat} (h : ∀ j, n ≤ j → j < 6 → f j = 0) : ∀ d, n + d ≤ 6 → sumN f (n + d) = sumN f n
  | 0, _ => rfl
  | d + 1, hd => by
    show sumN f (n + d) + f (n + d) = _
    rw [h (n + d) (by omega) (by omega), sum_zb h d (by omega), Nat.add_zero]
theorem or0_c (x : Nat) : nI x ||| nI 0 = nI x := by rw [nI_0, Int32.or_zero]
set_option maxRecDepth 4000 in
theorem mcount_step {I : IT} {J : JT} {F : FT} {t : Nat} {tx : Nat → Nat} {tl : Nat} {ρ : SN} {n : Nat} {σ : SN} {rg : Nat → SN} {nx na : Nat} {γ : SN} {gn : Nat} {sl : Nat → SN} {sf : Nat → Bool} {sd : Int64} {y : Int32} (hF : Fok F) (hC : MR I J tx tl ρ n σ rg nx na γ gn sl sf sd) (hO : OKS t tx tl ρ n σ rg nx na γ gn sl sf) (ht : t + 100 ≤ 1000) (i : Nat) (hi0 : i ≤ n) (xf : Nat) (xw : Nat) (hxf : xf = bitsN (enN ρ σ) i) (hxw : xw = sumN (σ 0) i)
    (ih0 : ∀ i', i < n → i' = i + 1 → ∀ (xf : Nat) (xw : Nat), (xf = bitsN (enN ρ σ) i') → (xw = sumN (σ 0) i') → Wp none 164 (PN (a_count ρ n σ tl na gn y, (tx, tl, ρ, n, σ, rg, nx, na, γ, gn, sl, sf, sd)) I J F) 7 [some (vR 173), some (vI y), some (vI (nI xf)), some (vI (nI xw)), some (vI (nI i'))] [] KK I J F) : Wp none 164 (PN (a_count ρ n σ tl na gn y, (tx, tl, ρ, n, σ, rg, nx, na, γ, gn, sl, sf, sd)) I J F) 7 [some (vR 173), some (vI y), some (vI (nI xf)), some (vI (nI xw)), some (vI (nI i))] [] KK I J F := by
  have hC0 := hC
  obtain ⟨hTx, hRo, hNo, hAc, hGa, hSl, hsd⟩ := hC
  obtain ⟨ht40, hx256, hρ, hok, hrg, hnx, hna, hgo, hsl, hz, hzr, hzs, hn6⟩ := hO
  have hd64 := hok.2.2.2.2.2
  have hgn6 := hGa.1
  refine wp_iload (pc := 7) d_164_7 rfl ?_
  refine wp_aload_n (pc := 9) (i := 0) d_164_9 rfl rfl ?_
  refine wp_gI (pc := 10) d_164_10 fl_10_53 rfl ft_9_5 hRo.2.1 ?_
  refine wp_icmpN_ge (pc := 13) (tgt := 53) d_164_13 (by decide) (by omega) (by omega) (fun zq13 => ?_) (fun zq13 => ?_)
  · refine wp_iload_n (pc := 53) (i := 1) d_164_53 rfl rfl ?_
    by_cases hz10 : inR y 10 = true
    · obtain ⟨jw, hjw, hxw⟩ := inR_t hz10 (by decide)
      subst hxw
      rcases lt10 hjw with rfl | rfl | rfl | rfl | rfl | rfl | rfl | rfl | rfl | rfl
      · refine wp_tabIn (pc := 54) (tgt := 108) d_164_54 (by decide) (by decide) rfl (by decide) ?_
        refine wp_aload_n (pc := 108) (i := 0) d_164_108 rfl rfl ?_
        refine wp_gI (pc := 109) d_164_109 fl_10_63 rfl ft_9_9 hTx.1 ?_
        exact wp_iret (pc := 112) d_164_112 (Or.inl rfl) (PN.q (by unfold a_count; rw [if_pos hz10]; rfl) hC0 ⟨fun _ _ => rfl, rfl⟩)
      · refine wp_tabIn (pc := 54) (tgt := 113) d_164_54 (by decide) (by decide) rfl (by decide) ?_
        refine wp_aload_n (pc := 113) (i := 0) d_164_113 rfl rfl ?_
        refine wp_gI (pc := 114) d_164_114 fl_10_53 rfl ft_9_5 hRo.2.1 ?_
        exact wp_iret (pc := 117) d_164_117 (Or.inl rfl) (PN.q (by unfold a_count; rw [if_pos hz10]; rfl) hC0 ⟨fun _ _ => rfl, rfl⟩)
      · refine wp_tabIn (pc := 54) (tgt := 118) d_164_54 (by decide) (by decide) rfl (by decide) ?_
        refine wp_aload_n (pc := 118) (i := 0) d_164_118 rfl rfl ?_
        refine wp_gI (pc := 119) d_164_119 fl_10_93 rfl ft_9_7 hNo.2.1 ?_
        exact wp_iret (pc := 122) d_164_122 (Or.inl rfl) (PN.q (by unfold a_count; rw [if_pos hz10]; rfl) hC0 ⟨fun _ _ => rfl, rfl⟩)
      · refine wp_tabIn (pc := 54) (tgt := 123) d_164_54 (by decide) (by decide) rfl (by decide) ?_
        refine wp_aload_n (pc := 123) (i := 0) d_164_123 rfl rfl ?_
        refine wp_gA (pc := 124) d_164_124 fl_10_19 rfl ft_9_4 (F_173_4 hF) ?_
        refine wp_bpN (pc := 127) (m := 24) d_164_127 (by decide) ?_
        refine wp_aL (pc := 129) (j := 24) d_164_129 rfl rfl (by omega) (by decide) hNo.1.2.1 ?_
        exact wp_iret (pc := 130) d_164_130 (Or.inl rfl) (PN.q (by unfold a_count; rw [if_pos hz10]; rfl) hC0 ⟨fun _ _ => rfl, rfl⟩)
      · refine wp_tabIn (pc := 54) (tgt := 131) d_164_54 (by decide) (by decide) rfl (by decide) ?_
        refine wp_aload_n (pc := 131) (i := 0) d_164_131 rfl rfl ?_
        refine wp_gA (pc := 132) d_164_132 fl_10_19 rfl ft_9_4 (F_173_4 hF) ?_
        refine wp_bpN (pc := 135) (m := 25) d_164_135 (by decide) ?_
        refine wp_aL (pc := 137) (j := 25) d_164_137 rfl rfl (by omega) (by decide) hNo.1.2.2 ?_
        exact wp_iret (pc := 138) d_164_138 (Or.inl rfl) (PN.q (by unfold a_count; rw [if_pos hz10]; rfl) hC0 ⟨fun _ _ => rfl, rfl⟩)
      · refine wp_tabIn (pc := 54) (tgt := 139) d_164_54 (by decide) (by decide) rfl (by decide) ?_
        refine wp_iload_n (pc := 139) (i := 2) d_164_139 rfl rfl ?_
        exact wp_iret (pc := 140) d_164_140 (Or.inl rfl) (PN.q (by unfold a_count; rw [if_pos hz10, hxf, show i = n by omega]; rfl) hC0 ⟨fun _ _ => rfl, rfl⟩)
      · refine wp_tabIn (pc := 54) (tgt := 141) d_164_54 (by decide) (by decide) rfl (by decide) ?_
        refine wp_aload_n (pc := 141) (i := 0) d_164_141 rfl rfl ?_
        refine wp_gI (pc := 142) d_164_142 fl_10_90 rfl ft_9_6 hNo.2.2 ?_
        exact wp_iret (pc := 145) d_164_145 (Or.inl rfl) (PN.q (by unfold a_count; rw [if_pos hz10]; rfl) hC0 ⟨fun _ _ => rfl, rfl⟩)
      · refine wp_tabIn (pc := 54) (tgt := 146) d_164_54 (by decide) (by decide) rfl (by decide) ?_
        refine wp_aload_n (pc := 146) (i := 0) d_164_146 rfl rfl ?_
        refine wp_gI (pc := 147) d_164_147 fl_10_96 rfl ft_9_12 hAc.2.1 ?_
        exact wp_iret (pc := 150) d_164_150 (Or.inl rfl) (PN.q (by unfold a_count; rw [if_pos hz10]; rfl) hC0 ⟨fun _ _ => rfl, rfl⟩)
      · refine wp_tabIn (pc := 54) (tgt := 151) d_164_54 (by decide) (by decide) rfl (by decide) ?_
        refine wp_aload_n (pc := 151) (i := 0) d_164_151 rfl rfl ?_
        refine wp_gI (pc := 152) d_164_152 fl_10_151 rfl ft_9_19 hGa.2.1 ?_
        exact wp_iret (pc := 155) d_164_155 (Or.inl rfl) (PN.q (by unfold a_count; rw [if_pos hz10]; rfl) hC0 ⟨fun _ _ => rfl, rfl⟩)
      · refine wp_tabIn (pc := 54) (tgt := 156) d_164_54 (by decide) (by decide) rfl (by decide) ?_
        refine wp_iload_n (pc := 156) (i := 3) d_164_156 rfl rfl ?_
        have hsz := sum_zb (f := σ 0) hz (6 - n) (by omega)
        rw [show n + (6 - n) = 6 by omega] at hsz
        exact wp_iret (pc := 157) d_164_157 (Or.inl rfl) (PN.q (by unfold a_count; rw [if_pos hz10, hxw, show i = n by omega, ← hsz]; rfl) hC0 ⟨fun _ _ => rfl, rfl⟩)
    · have hz11 : inR y 10 = false := by rcases hcs : inR y 10 with _ | _; rfl; exact absurd hcs hz10
      refine wp_tabOut (pc := 54) (tgt := 158) d_164_54 (inR_f hz11 (by decide)) (by decide) ?_
      refine wp_bipush (pc := 158) (v := (-2)) d_164_158 (by decide) ?_
      exact wp_iret (pc := 160) d_164_160 (Or.inl rfl) (PN.q (by unfold a_count; rw [if_neg hz10]) hC0 ⟨fun _ _ => rfl, rfl⟩)
  · refine wp_iload_n (pc := 16) (i := 2) d_164_16 rfl rfl ?_
    refine wp_aload_n (pc := 17) (i := 0) d_164_17 rfl rfl ?_
    refine wp_icN (pc := 18) (m := 0) d_164_18 (by decide) ?_
    refine wp_iload (pc := 19) d_164_19 rfl ?_
    refine wp_callV2p (pc := 21) d_164_21 lk_10_105 (by decide) rfl (Nat.le_of_ble_eq_true rfl) rfl rfl (m_hasEnough hF hRo (f := 0) hNo.1 (by decide) zq13 hρ (hok.g (by omega) i (by omega))) ?_
    refine wp_ifB_eq (pc := 24) (tgt := 34) d_164_24 (by decide) (fun zq24 => ?_) (fun zq24 => ?_)
    · refine wp_icN (pc := 34) (m := 0) d_164_34 (by decide) ?_
      refine wp_ior (pc := 35) d_164_35 ?_
      rw [or0_c]
      refine wq_istore_n (pc := 36) (L2 := [_, _, _, _, _]) (i := 2) d_164_36 rfl (Nat.le_of_ble_eq_true rfl) rfl rfl ?_
      refine wp_iload_n (pc := 37) (i := 3) d_164_37 rfl rfl ?_
      refine wp_aload_n (pc := 38) (i := 0) d_164_38 rfl rfl ?_
      refine wp_gA (pc := 39) d_164_39 fl_10_19 rfl ft_9_4 (F_173_4 hF) ?_
      refine wp_iload (pc := 42) d_164_42 rfl ?_
      refine wp_aL (pc := 44) (j := i) d_164_44 rfl rfl (by omega) (by decide) (mW00 hNo.1 (show i < 6 by omega)) ?_
      refine wp_iaddN (pc := 45) d_164_45 ?_
      refine wq_istore_n (pc := 46) (L2 := [_, _, _, _, _]) (i := 3) d_164_46 rfl (Nat.le_of_ble_eq_true rfl) rfl rfl ?_
      refine wq_iincN (pc := 47) (L2 := [_, _, _, _, _]) d_164_47 rfl (b := 1) (by decide) rfl rfl ?_
      refine wp_goto (pc := 50) (tgt := 7) d_164_50 (by decide) ?_
      refine ih0 (i + 1) zq13 rfl _ _ ?_ (by rw [hxw]; rfl)
      rw [hxf]
      show _ = bitsN (enN ρ σ) i + (if enN ρ σ i then 2 ^ i else 0)
      rw [show enN ρ σ i = false from zq24]; rfl
    · refine wp_icN (pc := 27) (m := 1) d_164_27 (by decide) ?_
      refine wp_iload (pc := 28) d_164_28 rfl ?_
      refine wp_ishl (pc := 30) d_164_30 ?_
      rw [bit_c i (by omega)]
      refine wp_goto (pc := 31) (tgt := 35) d_164_31 (by decide) ?_
      refine wp_ior (pc := 35) d_164_35 ?_
      rw [or_c i (by omega) xf (by rw [hxf]; exact bitsN_lt _ _)]
      refine wq_istore_n (pc := 36) (L2 := [_, _, _, _, _]) (i := 2) d_164_36 rfl (Nat.le_of_ble_eq_true rfl) rfl rfl ?_
      refine wp_iload_n (pc := 37) (i := 3) d_164_37 rfl rfl ?_
      refine wp_aload_n (pc := 38) (i := 0) d_164_38 rfl rfl ?_
      refine wp_gA (pc := 39) d_164_39 fl_10_19 rfl ft_9_4 (F_173_4 hF) ?_
      refine wp_iload (pc := 42) d_164_42 rfl ?_
      refine wp_aL (pc := 44) (j := i) d_164_44 rfl rfl (by omega) (by decide) (mW00 hNo.1 (show i < 6 by omega)) ?_
      refine wp_iaddN (pc := 45) d_164_45 ?_
      refine wq_istore_n (pc := 46) (L2 := [_, _, _, _, _]) (i := 3) d_164_46 rfl (Nat.le_of_ble_eq_true rfl) rfl rfl ?_
      refine wq_iincN (pc := 47) (L2 := [_, _, _, _, _]) d_164_47 rfl (b := 1) (by decide) rfl rfl ?_
      refine wp_goto (pc := 50) (tgt := 7) d_164_50 (by decide) ?_
      refine ih0 (i + 1) zq13 rfl _ _ ?_ (by rw [hxw]; rfl)
      rw [hxf]
      show _ = bitsN (enN ρ σ) i + (if enN ρ σ i then 2 ^ i else 0)
      rw [show enN ρ σ i = true from zq24]; rfl
theorem mcount_loop {I : IT} {J : JT} {F : FT} {t : Nat} {tx : Nat → Nat} {tl : Nat} {ρ : SN} {n : Nat} {σ : SN} {rg : Nat → SN} {nx na : Nat} {γ : SN} {gn : Nat} {sl : Nat → SN} {sf : Nat → Bool} {sd : Int64} {y : Int32} (hF : Fok F) (hC : MR I J tx tl ρ n σ rg nx na γ gn sl sf sd) (hO : OKS t tx tl ρ n σ rg nx na γ gn sl sf) (ht : t + 100 ≤ 1000) : ∀ (d i : Nat), i + d = n → ∀ (xf : Nat) (xw : Nat), (xf = bitsN (enN ρ σ) i) → (xw = sumN (σ 0) i) → Wp none 164 (PN (a_count ρ n σ tl na gn y, (tx, tl, ρ, n, σ, rg, nx, na, γ, gn, sl, sf, sd)) I J F) 7 [some (vR 173), some (vI y), some (vI (nI xf)), some (vI (nI xw)), some (vI (nI i))] [] KK I J F := by
  intro d
  induction d with
  | zero =>
    intro i hid xf xw hxf hxw
    exact mcount_step hF hC hO ht i (by omega) xf xw hxf hxw (fun i' hlt => absurd hlt (by omega))
  | succ d ih =>
    intro i hid xf xw hxf hxw
    exact mcount_step hF hC hO ht i (by omega) xf xw hxf hxw (fun i' hlt he => ih i' (by omega))

set_option maxRecDepth 4000 in
theorem m_gcount {I : IT} {J : JT} {F : FT} {t : Nat} {tx : Nat → Nat} {tl : Nat} {ρ : SN} {n : Nat} {σ : SN} {rg : Nat → SN} {nx na : Nat} {γ : SN} {gn : Nat} {sl : Nat → SN} {sf : Nat → Bool} {sd : Int64} {y : Int32} (hF : Fok F) (hC : MR I J tx tl ρ n σ rg nx na γ gn sl sf sd) (hO : OKS t tx tl ρ n σ rg nx na γ gn sl sf) (ht : t + 100 ≤ 1000) : Sp 164 [vR 173, vI y] KK I J F (PN (a_count ρ n σ tl na gn y, (tx, tl, ρ, n, σ, rg, nx, na, γ, gn, sl, sf, sd)) I J F) := by
  refine Sp.mk2 (Nat.le_of_ble_eq_true rfl) (L2 := [_, _, _, _, _]) rfl ?_
  refine wp_icN (pc := 0) (m := 0) d_164_0 (by decide) ?_
  refine wq_istore_n (pc := 1) (L2 := [_, _, _, _, _]) (i := 2) d_164_1 rfl (Nat.le_of_ble_eq_true rfl) rfl rfl ?_
  refine wp_icN (pc := 2) (m := 0) d_164_2 (by decide) ?_
  refine wq_istore_n (pc := 3) (L2 := [_, _, _, _, _]) (i := 3) d_164_3 rfl (Nat.le_of_ble_eq_true rfl) rfl rfl ?_
  refine wp_icN (pc := 4) (m := 0) d_164_4 (by decide) ?_
  refine wq_istore (pc := 5) (L2 := [_, _, _, _, _]) d_164_5 (Nat.le_of_ble_eq_true rfl) rfl rfl ?_
  exact mcount_loop hF hC hO ht n 0 (by omega) 0 0 rfl rfl
theorem ssh (x : BitVec 64) (k : Nat) (hk : k ≤ 56) : x.sshiftRight k &&& 255#64 = x >>> k &&& 255#64 := by
  apply BitVec.eq_of_getLsbD_eq
  intro i hi
  rw [BitVec.getLsbD_and, BitVec.getLsbD_and, BitVec.getLsbD_sshiftRight, BitVec.getLsbD_ushiftRight]
  by_cases h8 : i < 8
  · rw [if_pos (by omega)]
    simp [show ¬ 64 ≤ i by omega]
  · have h255 : (255#64).getLsbD i = false := by
      rw [BitVec.getLsbD_ofNat, Nat.testBit_lt_two_pow (Nat.lt_of_lt_of_le (show 255 < 2 ^ 8 by decide) (Nat.pow_le_pow_right (by decide) (by omega))), Bool.and_false]
    rw [h255, Bool.and_false, Bool.and_false]
theorem sh8 : ∀ m, m < 8 → (((nI (8 * m)).toInt64 &&& 63).toBitVec.smod 64).toNat = 8 * m := by decide +kernel
theorem bym (v : Int64) {m : Nat} (hm : m < 8) : ((v >>> ((nI (8 * m)).toInt64 &&& 63)) &&& lN 255).toInt32 = nI (byN v m) := by
  have h1 : (v >>> ((nI (8 * m)).toInt64 &&& 63)) &&& lN 255 = lN (byN v m) := by
    apply Int64.toBitVec_inj.mp
    rw [Int64.toBitVec_and, Int64.toBitVec_shiftRight, BitVec.sshiftRight_eq', sh8 m hm]
    rw [show (lN 255).toBitVec = 255#64 from rfl, ssh _ _ (by omega)]
    apply BitVec.eq_of_toNat_eq
    rw [BitVec.toNat_and, BitVec.toNat_ushiftRight, Nat.shiftRight_eq_div_pow]
    rw [show (255#64).toNat = 2 ^ 8 - 1 from rfl, Nat.and_two_pow_sub_one_eq_mod]
    show _ = (BitVec.ofNat 64 (byN v m)).toNat
    rw [BitVec.toNat_ofNat, Nat.mod_eq_of_lt (Nat.lt_trans (byN_lt v m) (by decide))]
    rfl
  rw [h1, lN_i]
set_option maxRecDepth 4000 in
theorem mwrite_loop {Po : RT → Prop} {I0 : IT} {J : JT} {F : FT} {tx : Nat → Nat} {tl k : Nat} {v : Int64} {x1 : Int32} (hF : Fok F) (hk8 : k ≤ 8) (h40 : tl + k ≤ 40) (hk : ∀ I : IT, I 173 9 = nI (tl + k) → (∀ j, j < tl + k → I 178 j = nI (apN tx tl k v j)) → (∀ q, q ≠ 9 → I 173 q = I0 173 q) → (∀ a, a ≠ 173 → a ≠ 178 → I a = I0 a) → Wp none 121 Po 76 [some (vR 173), some (vI x1), some (vL v), none, some (vI (nI 0 + (-1)))] [] KK I J F) : ∀ (c : Nat) (I : IT), c ≤ k → I 173 9 = nI (tl + (k - c)) → (∀ j, j < tl + (k - c) → I 178 j = nI (apN tx tl k v j)) → (∀ q, q ≠ 9 → I 173 q = I0 173 q) → (∀ a, a ≠ 173 → a ≠ 178 → I a = I0 a) → Wp none 121 Po 34 [some (vR 173), some (vI x1), some (vL v), none, some (vI (nI c + (-1)))] [] KK I J F := by
  intro c
  induction c with
  | zero =>
    intro I hck hl hin hq9 hoff
    refine wp_iload (pc := 34) d_121_34 rfl ?_
    refine wp_if_lt (pc := 36) (tgt := 76) d_121_36 (by decide) (fun _ => ?_) (fun h => absurd (show nI 0 + (-1) < 0 by decide) h)
    exact hk I hl hin hq9 hoff
  | succ c ih =>
    intro I hck hl hin hq9 hoff
    rw [pk_m1]
    refine wp_iload (pc := 34) d_121_34 rfl ?_
    refine wp_ifN_lt (pc := 36) (tgt := 76) d_121_36 (by decide) (by omega) ?_
    refine wp_aload_n (pc := 39) (i := 0) d_121_39 rfl rfl ?_
    refine wp_gA (pc := 40) d_121_40 fl_10_22 rfl ft_9_8 (F_173_8 hF) ?_
    refine wp_aload_n (pc := 43) (i := 0) d_121_43 rfl rfl ?_
    refine wp_gI (pc := 44) d_121_44 fl_10_63 rfl ft_9_9 hl ?_
    refine wp_lload_n (pc := 47) (i := 2) d_121_47 rfl rfl ?_
    refine wp_bpN (pc := 48) (m := 8) d_121_48 (by decide) ?_
    refine wp_iload (pc := 50) d_121_50 rfl ?_
    refine wp_imulN (pc := 52) d_121_52 ?_
    refine wp_lshr (pc := 53) d_121_53 ?_
    refine wr_ldc2M (pc := 54) (m := 255) d_121_54 cs_10_66 (by decide) ?_
    refine wp_land (pc := 57) d_121_57 ?_
    refine wp_l2i (pc := 58) d_121_58 ?_
    rw [bym v (show c < 8 by omega)]
    refine wp_aS (pc := 59) (j := (tl + (k - (c + 1)))) d_121_59 rfl rfl (by omega) (by decide) (fun Iq59 uq59 => ?_)
    refine wp_aload_n (pc := 60) (i := 0) d_121_60 rfl rfl ?_
    refine wp_dup (pc := 61) d_121_61 rfl ?_
    refine wp_gI (pc := 62) d_121_62 fl_10_63 rfl ft_9_9 ((uq59.off (by decide)).trans hl) ?_
    refine wp_icN (pc := 65) (m := 1) d_121_65 (by decide) ?_
    refine wp_iaddN (pc := 66) d_121_66 ?_
    refine wp_pI (pc := 67) d_121_67 fl_10_63 rfl ft_9_9 rfl (fun Iq67 uq67 => ?_)
    refine wp_iinc (pc := 70) d_121_70 rfl (show nI c + (-1) = nI c + (-1) from rfl) rfl ?_
    refine wp_goto (pc := 73) (tgt := 34) d_121_73 (by decide) ?_
    refine ih Iq67 (by omega) (by rw [uq67.at, show tl + (k - (c + 1)) + 1 = tl + (k - c) by omega]) (fun j hj => ?_) (fun q hq => (uq67.ne hq).trans ((uq59.off (by decide)).trans (hq9 q hq))) (fun a h2 h3 => (uq67.2 a h2).trans ((uq59.2 a h3).trans (hoff a h2 h3)))
    by_cases e : j = tl + (k - (c + 1))
    · rw [e, uq67.off (by decide), uq59.at]
      unfold apN
      rw [if_neg (by omega), show k - 1 - (tl + (k - (c + 1)) - tl) = c by omega]
    · rw [uq67.off (by decide), uq59.ne e]; exact hin j (by omega)
set_option maxRecDepth 4000 in
theorem m_gwrite {I : IT} {J : JT} {F : FT} {t : Nat} {tx : Nat → Nat} {tl : Nat} {ρ : SN} {n : Nat} {σ : SN} {rg : Nat → SN} {nx na : Nat} {γ : SN} {gn : Nat} {sl : Nat → SN} {sf : Nat → Bool} {sd : Int64} (hF : Fok F) (hC : MR I J tx tl ρ n σ rg nx na γ gn sl sf sd) (hO : OKS t tx tl ρ n σ rg nx na γ gn sl sf) (ht : t + 100 ≤ 1000) {x : Int32} {v : Int64} : Sp 121 [vR 173, vI x, vL v] KK I J F (PN (q_write tx tl ρ n σ rg nx na γ gn sl sf sd x v) I J F) := by
  have hC0 := hC
  obtain ⟨hTx, hRo, hNo, hAc, hGa, hSl, hsd⟩ := hC
  obtain ⟨ht40, hx256, hρ, hok, hrg, hnx, hna, hgo, hsl, hz, hzr, hzs, hn6⟩ := hO
  have hd64 := hok.2.2.2.2.2
  have hgn6 := hGa.1
  refine Sp.mk2 (Nat.le_of_ble_eq_true rfl) (L2 := [_, _, _, _, _]) rfl ?_
  refine wp_iload_n (pc := 0) (i := 1) d_121_0 rfl rfl ?_
  refine wp_i2l (pc := 1) d_121_1 ?_
  refine wp_lconst (pc := 2) (v := lN 1) d_121_2 (by decide) ?_
  refine wr_ldc2M (pc := 3) (m := 8) d_121_3 cs_10_57 (by decide) ?_
  refine wp_callS3p (pc := 6) d_121_6 lk_10_59 (by decide) rfl (Nat.le_of_ble_eq_true rfl) (c_inN x 1 8 (by decide) (by decide)) ?_
  refine wp_ifB_ne (pc := 9) (tgt := 15) d_121_9 (by decide) (fun zq9 => ?_) (fun zq9 => ?_)
  · obtain ⟨jk, h0jk, h1jk, hxjk⟩ := inB_t zq9 (by decide) (by decide)
    subst hxjk
    have hcjk : (nI jk).toNatClampNeg = jk := nI_clamp (by omega)
    refine wp_aload_n (pc := 15) (i := 0) d_121_15 rfl rfl ?_
    refine wp_gI (pc := 16) d_121_16 fl_10_63 rfl ft_9_9 hTx.1 ?_
    refine wp_iload_n (pc := 19) (i := 1) d_121_19 rfl rfl ?_
    refine wp_iaddN (pc := 20) d_121_20 ?_
    refine wp_bpN (pc := 21) (m := 40) d_121_21 (by decide) ?_
    refine wp_icmpN_le (pc := 23) (tgt := 29) d_121_23 (by decide) (by omega) (by decide) (fun zq23 => ?_) (fun zq23 => ?_)
    · refine wp_iload_n (pc := 29) (i := 1) d_121_29 rfl rfl ?_
      refine wp_icN (pc := 30) (m := 1) d_121_30 (by decide) ?_
      refine wp_isub (pc := 31) d_121_31 ?_
      rw [sub_m1]
      refine wq_istore (pc := 32) (L2 := [_, _, _, _, _]) d_121_32 (Nat.le_of_ble_eq_true rfl) rfl rfl ?_
      refine mwrite_loop (I0 := I) hF h1jk (by omega) (fun I3 hl hin hq9 hoff => ?_) jk I (Nat.le_refl jk) (by rw [Nat.sub_self]; exact hTx.1) (fun j hj => by rw [Nat.sub_self] at hj; unfold apN; rw [if_pos (by omega)]; exact hTx.2 j (by omega)) (fun _ _ => rfl) (fun _ _ _ => rfl)
      refine wp_aload_n (pc := 76) (i := 0) d_121_76 rfl rfl ?_
      refine wp_gI (pc := 77) d_121_77 fl_10_63 rfl ft_9_9 hl ?_
      exact wp_iret (pc := 80) d_121_80 (Or.inl rfl) (PN.mk (by unfold q_write; rw [if_pos zq9, hcjk, if_pos (show jk + tl ≤ 40 by omega)]) ⟨⟨hl, hin⟩, hRo.k (hq9 5 (by decide)) (by rw [hoff 176 (by decide) (by decide)]), ⟨by rw [hoff 177 (by decide) (by decide)]; exact hNo.1, (hq9 7 (by decide)).trans hNo.2.1, (hq9 6 (by decide)).trans hNo.2.2⟩, ⟨(hq9 13 (by decide)).trans hAc.1, (hq9 12 (by decide)).trans hAc.2.1, by rw [hoff 179 (by decide) (by decide)]; exact hAc.2.2⟩, ⟨hGa.1, (hq9 19 (by decide)).trans hGa.2.1, by rw [hoff 183 (by decide) (by decide), hoff 184 (by decide) (by decide), hoff 185 (by decide) (by decide)]; exact hGa.2.2⟩, ⟨by rw [hoff 187 (by decide) (by decide)]; exact hSl.1, by rw [hoff 186 (by decide) (by decide)]; exact hSl.2⟩, hsd⟩ ⟨fun a ha => hoff a (by omega) (by omega), rfl⟩)
    · refine wp_bipush (pc := 26) (v := (-4)) d_121_26 (by decide) ?_
      exact wp_iret (pc := 28) d_121_28 (Or.inl rfl) (PN.mk (by unfold q_write; rw [if_pos zq9, hcjk, if_neg (show ¬ jk + tl ≤ 40 by omega)]) hC0 ⟨fun _ _ => rfl, rfl⟩)
  · refine wp_bipush (pc := 12) (v := (-2)) d_121_12 (by decide) ?_
    exact wp_iret (pc := 14) d_121_14 (Or.inl rfl) (PN.mk (by unfold q_write; rw [if_neg (nT zq9)]) hC0 ⟨fun _ _ => rfl, rfl⟩)
