theorem mW0 {v : Nat → Int32} {σ : SN} (h : mW v 0 σ) {k j : Nat} (hk : k < 4) (hj : j < 6) : v (6 * k + j) = nI (σ k j) := by
  have h9 := h.1 k hk j hj
  rw [Nat.zero_add] at h9
  exact h9
theorem rfT_03 {ρ σ : SN} {j w : Nat} (h : w ≤ 3) : rfT ρ σ j w = nI (σ w j) := by
  rcases lt4 (show w < 4 by omega) with rfl | rfl | rfl | rfl <;> rfl
theorem rfT_69 {ρ σ : SN} {j w : Nat} (h : 6 ≤ w) (h2 : w ≤ 9) : rfT ρ σ j w = nI (ρ (w - 6) j) := by
  have : w = 6 ∨ w = 7 ∨ w = 8 ∨ w = 9 := by omega
  rcases this with rfl | rfl | rfl | rfl <;> rfl
theorem tbv {d j : Nat} : b2 (d.testBit j) = nI (d / 2 ^ j % 2) := by
  rw [Nat.testBit_eq_decide_div_mod_eq]
  have : d / 2 ^ j % 2 = 0 ∨ d / 2 ^ j % 2 = 1 := by omega
  rcases this with h | h
  · rw [h]; rfl
  · rw [h]; rfl
def dOr (d j : Nat) : Nat := if d.testBit j = true then d else d ^^^ 2 ^ j
def dAn (d j : Nat) : Nat := if d.testBit j = true then d ^^^ 2 ^ j else d
theorem dOr_c : ∀ d, d < 64 → ∀ j, j < 6 → nI d ||| nI (2 ^ j) = nI (dOr d j) := by decide +kernel
theorem dAn_c : ∀ d, d < 64 → ∀ j, j < 6 → nI d &&& (nI (2 ^ j) ^^^ (-1)) = nI (dAn d j) := by decide +kernel
theorem dOr_lt : ∀ d, d < 64 → ∀ j, j < 6 → dOr d j < 64 ∧ dAn d j < 64 ∧ d ^^^ 2 ^ j ≠ d := by decide +kernel
theorem mAc_rem {I0 I2 : IT} {rg : Nat → SN} {nx na : Nat} {σ : SN} (hAc0 : mAc I0 rg nx na) (hNo0 : mNo I0 σ) (hnx : nx < 12) (c1 : ∀ q, q < 26 → I2 179 (27 * nx + q) = I0 177 q) (c2 : I2 179 (27 * nx + 26) = nI (σ 4 6)) (c3 : ∀ q, (q < 27 * nx ∨ 27 * nx + 27 ≤ q) → I2 179 q = I0 179 q) (c4 : I2 173 13 = nI ((nx + 1) % 12)) (c5 : I2 173 12 = nI (min (na + 1) 12)) : mAc I2 (upf rg nx σ) ((nx + 1) % 12) (min (na + 1) 12) := by
  refine ⟨c4, c5, fun i hi => ?_⟩
  unfold upf
  by_cases e : i = nx
  · rw [if_pos e, e]
    exact ⟨hNo0.1.cp (fun q hq => by rw [Nat.zero_add]; exact c1 q hq), c2⟩
  · rw [if_neg e]
    exact ⟨(hAc0.2.2 i hi).1.k (fun q h1 h2 => c3 q (by omega)), (c3 _ (by omega)).trans (hAc0.2.2 i hi).2⟩
set_option maxRecDepth 4000 in
theorem keepAct_step {I0 : IT} {J : JT} {F : FT} {rg : Nat → SN} {nx na : Nat} {σ : SN} (hF : Fok F) (hAc0 : mAc I0 rg nx na) (hNo0 : mNo I0 σ) (hnx : nx < 12) (hna : na ≤ 12) (i : Nat) (hi0 : i ≤ 26) (I : IT) (hin : ∀ q, q < i → I 179 (27 * nx + q) = I0 177 q) (hlo : ∀ q, (q < 27 * nx ∨ 27 * nx + 26 ≤ q) → I 179 q = I0 179 q) (hoff : ∀ a, a ≠ 179 → I a = I0 a)
    (ih0 : ∀ i', i < 26 → i' = i + 1 → ∀ (I : IT), (∀ q, q < i' → I 179 (27 * nx + q) = I0 177 q) → (∀ q, (q < 27 * nx ∨ 27 * nx + 26 ≤ q) → I 179 q = I0 179 q) → (∀ a, a ≠ 179 → I a = I0 a) → Wp none 134 (fun R => ∃ I2, R = (none, KK, I2, J, F) ∧ mAc I2 (upf rg nx σ) ((nx + 1) % 12) (min (na + 1) 12) ∧ (∀ q, q ≠ 12 → q ≠ 13 → I2 173 q = I0 173 q) ∧ ∀ a, a ≠ 173 → a ≠ 179 → I2 a = I0 a) 2 [some (vR 173), some (vI (nI i'))] [] KK I J F) : Wp none 134 (fun R => ∃ I2, R = (none, KK, I2, J, F) ∧ mAc I2 (upf rg nx σ) ((nx + 1) % 12) (min (na + 1) 12) ∧ (∀ q, q ≠ 12 → q ≠ 13 → I2 173 q = I0 173 q) ∧ ∀ a, a ≠ 173 → a ≠ 179 → I2 a = I0 a) 2 [some (vR 173), some (vI (nI i))] [] KK I J F := by
  refine wp_iload_n (pc := 2) (i := 1) d_134_2 rfl rfl ?_
  refine wp_bpN (pc := 3) (m := 26) d_134_3 (by decide) ?_
  refine wp_icmpN_ge (pc := 5) (tgt := 34) d_134_5 (by decide) (by omega) (by decide) (fun zq5 => ?_) (fun zq5 => ?_)
  · refine wp_aload_n (pc := 34) (i := 0) d_134_34 rfl rfl ?_
    refine wp_gA (pc := 35) d_134_35 fl_10_25 rfl ft_9_14 (F_173_14 hF) ?_
    refine wp_bpN (pc := 38) (m := 27) d_134_38 (by decide) ?_
    refine wp_aload_n (pc := 40) (i := 0) d_134_40 rfl rfl ?_
    refine wp_gI (pc := 41) d_134_41 fl_10_111 rfl ft_9_13 ((congrFun (hoff 173 (by decide)) 13).trans hAc0.1) ?_
    refine wp_imulN (pc := 44) d_134_44 ?_
    refine wp_bpN (pc := 45) (m := 26) d_134_45 (by decide) ?_
    refine wp_iaddN (pc := 47) d_134_47 ?_
    refine wp_aload_n (pc := 48) (i := 0) d_134_48 rfl rfl ?_
    refine wp_gI (pc := 49) d_134_49 fl_10_93 rfl ft_9_7 ((congrFun (hoff 173 (by decide)) 7).trans hNo0.2.1) ?_
    refine wp_aS (pc := 52) (j := ((27 * nx) + 26)) d_134_52 rfl rfl (by omega) (by decide) (fun Iq52 uq52 => ?_)
    refine wp_aload_n (pc := 53) (i := 0) d_134_53 rfl rfl ?_
    refine wp_aload_n (pc := 54) (i := 0) d_134_54 rfl rfl ?_
    refine wp_gI (pc := 55) d_134_55 fl_10_111 rfl ft_9_13 ((uq52.off (by decide)).trans ((congrFun (hoff 173 (by decide)) 13).trans hAc0.1)) ?_
    refine wp_icN (pc := 58) (m := 1) d_134_58 (by decide) ?_
    refine wp_iaddN (pc := 59) d_134_59 ?_
    refine wp_bpN (pc := 60) (m := 12) d_134_60 (by decide) ?_
    refine wp_iremN (pc := 62) d_134_62 (by omega) (by omega) (by decide) ?_
    refine wp_pI (pc := 63) d_134_63 fl_10_111 rfl ft_9_13 rfl (fun Iq63 uq63 => ?_)
    refine wp_aload_n (pc := 66) (i := 0) d_134_66 rfl rfl ?_
    refine wp_aload_n (pc := 67) (i := 0) d_134_67 rfl rfl ?_
    refine wp_gI (pc := 68) d_134_68 fl_10_96 rfl ft_9_12 ((uq63.ne (by decide)).trans ((uq52.off (by decide)).trans ((congrFun (hoff 173 (by decide)) 12).trans hAc0.2.1))) ?_
    refine wp_bpN (pc := 71) (m := 12) d_134_71 (by decide) ?_
    refine wp_icmpN_ge (pc := 73) (tgt := 85) d_134_73 (by decide) (by omega) (by decide) (fun zq73 => ?_) (fun zq73 => ?_)
    · refine wp_bpN (pc := 85) (m := 12) d_134_85 (by decide) ?_
      refine wp_pI (pc := 87) d_134_87 fl_10_96 rfl ft_9_12 rfl (fun Iq87 uq87 => ?_)
      refine wp_vret (pc := 90) d_134_90 rfl ⟨_, rfl, mAc_rem hAc0 hNo0 hnx (fun q hq => ?_) ?_ (fun q hq => ?_) ?_ ?_, fun q h1 h2 => ?_, fun a h1 h2 => ?_⟩
      · rw [uq87.off (by decide), uq63.off (by decide), uq52.ne (by omega)]; exact hin q (by omega)
      · rw [uq87.off (by decide), uq63.off (by decide)]; exact uq52.at
      · rw [uq87.off (by decide), uq63.off (by decide), uq52.ne (by omega)]; exact hlo q (by omega)
      · exact (uq87.ne (by decide)).trans uq63.at
      · exact uq87.at.trans (congrArg nI (by omega))
      · rw [uq87.ne h1, uq63.ne h2, uq52.off (by decide), hoff 173 (by decide)]
      · rw [uq87.2 a h1, uq63.2 a h1, uq52.2 a h2, hoff a h2]
    · refine wp_aload_n (pc := 76) (i := 0) d_134_76 rfl rfl ?_
      refine wp_gI (pc := 77) d_134_77 fl_10_96 rfl ft_9_12 ((uq63.ne (by decide)).trans ((uq52.off (by decide)).trans ((congrFun (hoff 173 (by decide)) 12).trans hAc0.2.1))) ?_
      refine wp_icN (pc := 80) (m := 1) d_134_80 (by decide) ?_
      refine wp_iaddN (pc := 81) d_134_81 ?_
      refine wp_goto (pc := 82) (tgt := 87) d_134_82 (by decide) ?_
      refine wp_pI (pc := 87) d_134_87 fl_10_96 rfl ft_9_12 rfl (fun Iq87 uq87 => ?_)
      refine wp_vret (pc := 90) d_134_90 rfl ⟨_, rfl, mAc_rem hAc0 hNo0 hnx (fun q hq => ?_) ?_ (fun q hq => ?_) ?_ ?_, fun q h1 h2 => ?_, fun a h1 h2 => ?_⟩
      · rw [uq87.off (by decide), uq63.off (by decide), uq52.ne (by omega)]; exact hin q (by omega)
      · rw [uq87.off (by decide), uq63.off (by decide)]; exact uq52.at
      · rw [uq87.off (by decide), uq63.off (by decide), uq52.ne (by omega)]; exact hlo q (by omega)
      · exact (uq87.ne (by decide)).trans uq63.at
      · exact uq87.at.trans (congrArg nI (by omega))
      · rw [uq87.ne h1, uq63.ne h2, uq52.off (by decide), hoff 173 (by decide)]
      · rw [uq87.2 a h1, uq63.2 a h1, uq52.2 a h2, hoff a h2]
  · refine wp_aload_n (pc := 8) (i := 0) d_134_8 rfl rfl ?_
    refine wp_gA (pc := 9) d_134_9 fl_10_25 rfl ft_9_14 (F_173_14 hF) ?_
    refine wp_bpN (pc := 12) (m := 27) d_134_12 (by decide) ?_
    refine wp_aload_n (pc := 14) (i := 0) d_134_14 rfl rfl ?_
    refine wp_gI (pc := 15) d_134_15 fl_10_111 rfl ft_9_13 ((congrFun (hoff 173 (by decide)) 13).trans hAc0.1) ?_
    refine wp_imulN (pc := 18) d_134_18 ?_
    refine wp_iload_n (pc := 19) (i := 1) d_134_19 rfl rfl ?_
    refine wp_iaddN (pc := 20) d_134_20 ?_
    refine wp_aload_n (pc := 21) (i := 0) d_134_21 rfl rfl ?_
    refine wp_gA (pc := 22) d_134_22 fl_10_19 rfl ft_9_4 (F_173_4 hF) ?_
    refine wp_iload_n (pc := 25) (i := 1) d_134_25 rfl rfl ?_
    refine wp_aL (pc := 26) (j := i) d_134_26 rfl rfl (by omega) (by decide) rfl ?_
    refine wp_aS (pc := 27) (j := ((27 * nx) + i)) d_134_27 rfl rfl (by omega) (by decide) (fun Iq27 uq27 => ?_)
    refine wq_iincN (pc := 28) (L2 := [_, _]) d_134_28 rfl (b := 1) (by decide) rfl rfl ?_
    refine wp_goto (pc := 31) (tgt := 2) d_134_31 (by decide) ?_
    refine ih0 (i + 1) zq5 rfl _ (fun q hq => ?_) (fun q hq => (uq27.ne (by omega)).trans (hlo q hq)) (fun a ha => (uq27.2 a ha).trans (hoff a ha))
    by_cases e : q = i
    · subst e; exact uq27.at.trans (by rw [hoff 177 (by decide)])
    · exact (uq27.ne (by omega)).trans (hin q (by omega))
theorem keepAct_loop {I0 : IT} {J : JT} {F : FT} {rg : Nat → SN} {nx na : Nat} {σ : SN} (hF : Fok F) (hAc0 : mAc I0 rg nx na) (hNo0 : mNo I0 σ) (hnx : nx < 12) (hna : na ≤ 12) : ∀ (d i : Nat), i + d = 26 → ∀ (I : IT), (∀ q, q < i → I 179 (27 * nx + q) = I0 177 q) → (∀ q, (q < 27 * nx ∨ 27 * nx + 26 ≤ q) → I 179 q = I0 179 q) → (∀ a, a ≠ 179 → I a = I0 a) → Wp none 134 (fun R => ∃ I2, R = (none, KK, I2, J, F) ∧ mAc I2 (upf rg nx σ) ((nx + 1) % 12) (min (na + 1) 12) ∧ (∀ q, q ≠ 12 → q ≠ 13 → I2 173 q = I0 173 q) ∧ ∀ a, a ≠ 173 → a ≠ 179 → I2 a = I0 a) 2 [some (vR 173), some (vI (nI i))] [] KK I J F := by
  intro d
  induction d with
  | zero =>
    intro i hid I hin hlo hoff
    exact keepAct_step hF hAc0 hNo0 hnx hna i (by omega) I hin hlo hoff (fun i' hlt => absurd hlt (by omega))
  | succ d ih =>
    intro i hid I hin hlo hoff
    exact keepAct_step hF hAc0 hNo0 hnx hna i (by omega) I hin hlo hoff (fun i' hlt he => ih i' (by omega))

set_option maxRecDepth 4000 in
theorem m_keepAct {I0 : IT} {J : JT} {F : FT} {rg : Nat → SN} {nx na : Nat} {σ : SN} (hF : Fok F) (hAc0 : mAc I0 rg nx na) (hNo0 : mNo I0 σ) (hnx : nx < 12) (hna : na ≤ 12) : Sp 134 [vR 173] KK I0 J F (fun R => ∃ I2, R = (none, KK, I2, J, F) ∧ mAc I2 (upf rg nx σ) ((nx + 1) % 12) (min (na + 1) 12) ∧ (∀ q, q ≠ 12 → q ≠ 13 → I2 173 q = I0 173 q) ∧ ∀ a, a ≠ 173 → a ≠ 179 → I2 a = I0 a) := by
  refine Sp.mk2 (Nat.le_of_ble_eq_true rfl) (L2 := [_, _]) rfl ?_
  refine wp_icN (pc := 0) (m := 0) d_134_0 (by decide) ?_
  refine wq_istore_n (pc := 1) (L2 := [_, _]) (i := 1) d_134_1 rfl (Nat.le_of_ble_eq_true rfl) rfl rfl ?_
  exact keepAct_loop hF hAc0 hNo0 hnx hna 26 0 (by omega) I0 (fun q hq => absurd hq (Nat.not_lt_zero q)) (fun _ _ => rfl) (fun _ _ => rfl)
theorem mW_take {v v2 : Nat → Int32} {σ : SN} {j g : Nat} (hj : j < 6) (h : mW v 0 σ) (e0 : v2 j = nI (σ 0 j - g)) (e1 : v2 (6 + j) = nI (σ 1 j - alg (σ 1 j) g (σ 0 j))) (eo : ∀ q, q ≠ j → q ≠ 6 + j → v2 q = v q) : mW v2 0 (tkN σ j g) := by
  refine ⟨fun k hk j2 hj2 => ?_, ?_, ?_⟩
  · unfold tkN
    by_cases c1 : k = 1 ∧ j2 = j
    · rw [c1.1, c1.2, s2_eq]; exact (congrArg v2 (by omega)).trans e1
    · by_cases c0 : k = 0 ∧ j2 = j
      · rw [c0.1, c0.2, s2_nk (by decide), s2_eq]; exact (congrArg v2 (by omega)).trans e0
      · have h9 : s2 (s2 σ 0 j (σ 0 j - g)) 1 j (σ 1 j - alg (σ 1 j) g (σ 0 j)) k j2 = σ k j2 := by unfold s2; rw [if_neg c1, if_neg c0]
        rw [h9, eo _ (by omega) (by omega)]; exact h.1 k hk j2 hj2
  · unfold tkN; rw [s2_nk (by decide), s2_nk (by decide), eo _ (by omega) (by omega)]; exact h.2.1
  · unfold tkN; rw [s2_nk (by decide), s2_nk (by decide), eo _ (by omega) (by omega)]; exact h.2.2
theorem tk4 {σ : SN} {j g q : Nat} : tkN σ j g 4 q = σ 4 q := by unfold tkN; rw [s2_nk (by decide), s2_nk (by decide)]
theorem mW_s1 {v v2 : Nat → Int32} {σ : SN} {j x : Nat} (hj : j < 6) (h : mW v 0 σ) (e1 : v2 (6 + j) = nI x) (eo : ∀ q, q ≠ 6 + j → v2 q = v q) : mW v2 0 (s2 σ 1 j x) := by
  refine ⟨fun k hk j2 hj2 => ?_, ?_, ?_⟩
  · by_cases c1 : k = 1 ∧ j2 = j
    · rw [c1.1, c1.2, s2_eq]; exact (congrArg v2 (by omega)).trans e1
    · have h9 : s2 σ 1 j x k j2 = σ k j2 := by unfold s2; rw [if_neg c1]
      rw [h9, eo _ (by omega)]; exact h.1 k hk j2 hj2
  · rw [s2_nk (by decide), eo _ (by omega)]; exact h.2.1
  · rw [s2_nk (by decide), eo _ (by omega)]; exact h.2.2
