set_option maxRecDepth 4000 in
theorem c_at {I : IT} {J : JT} {F : FT} {s n i : Nat} (hF : Fok F) (hS : isS s n) (hi : i < n) : Sp 55 [vR s, vI (nI i)] KK I J F (fun R => R = (some (vR (s + 8 + 5 * i)), KK, I, J, F)) := by
  have hn31 : n < 2 ^ 31 := by rcases hS with ⟨-, h⟩ | ⟨-, h⟩ | ⟨-, h⟩ <;> omega
  refine Sp.mk2 (Nat.le_of_ble_eq_true rfl) (L2 := [_, _, _]) rfl ?_
  refine wp_iload_n (pc := 0) (i := 1) d_55_0 rfl rfl ?_
  refine wp_ifN_lt (pc := 1) (tgt := 13) d_55_1 (by decide) (by omega) ?_
  refine wp_iload_n (pc := 4) (i := 1) d_55_4 rfl rfl ?_
  refine wp_aload_n (pc := 5) (i := 0) d_55_5 rfl rfl ?_
  refine wp_gA (pc := 6) d_55_6 fl_6_22 (kS hS).1 ft_5_0 (fS hF hS).1 ?_
  refine wp_alen (pc := 9) d_55_9 (kS hS).2.1 (by decide) ?_
  refine wp_icmpN_lt (pc := 10) (tgt := 18) d_55_10 (by decide) (by omega) (by omega) (fun zq10 => ?_) (fun zq10 => ?_)
  · refine wp_aload_n (pc := 18) (i := 0) d_55_18 rfl rfl ?_
    refine wp_gA (pc := 19) d_55_19 fl_6_22 (kS hS).1 ft_5_0 (fS hF hS).1 ?_
    refine wp_iload_n (pc := 22) (i := 1) d_55_22 rfl rfl ?_
    refine wp_rL (pc := 23) d_55_23 (kS hS).2.1 rfl hi hn31 (fSp hF hS hi).1 ?_
    refine wq_astore_n (pc := 24) (L2 := [_, _, _]) (i := 2) d_55_24 rfl (Nat.le_of_ble_eq_true rfl) rfl rfl ?_
    refine wp_aload_n (pc := 25) (i := 2) d_55_25 rfl rfl ?_
    refine wp_ifnonnull (pc := 26) (tgt := 36) d_55_26 (by decide) ?_
    refine wp_aload_n (pc := 36) (i := 2) d_55_36 rfl rfl ?_
    exact wp_aret (pc := 37) d_55_37 (Or.inl rfl) rfl
  · refine wp_aload_n (pc := 13) (i := 0) d_55_13 rfl rfl ?_
    refine wp_gA (pc := 14) d_55_14 fl_6_10 (kS hS).1 ft_5_2 (fS hF hS).2.2.1 ?_
    exact absurd zq10 (by omega)
set_option maxRecDepth 4000 in
theorem c_put {I : IT} {J : JT} {F : FT} {s n i v : Nat} {τ : SN} (hF : Fok F) (hS : isS s n) (hi : i < n) (hv : isW v) (hne : s + 8 + 5 * i ≠ v) (hV : atW I v τ) : Sp 54 [vR s, vI (nI i), vR v] KK I J F (fun R => ∃ I2, R = (none, KK, I2, J, F) ∧ ∃ Im, atW Im (s + 8 + 5 * i) τ ∧ offW (s + 8 + 5 * i) I Im ∧ Up Im I2 (s + 7) i (nI 1)) := by
  have hn31 : n < 2 ^ 31 := by rcases hS with ⟨-, h⟩ | ⟨-, h⟩ | ⟨-, h⟩ <;> omega
  have hx : isW (s + 8 + 5 * i) := (fSp hF hS hi).2
  refine Sp.mk2 (Nat.le_of_ble_eq_true rfl) (L2 := [_, _, _]) rfl ?_
  refine wp_aload_n (pc := 0) (i := 0) d_54_0 rfl rfl ?_
  refine wp_iload_n (pc := 1) (i := 1) d_54_1 rfl rfl ?_
  refine wp_callV1p (pc := 2) d_54_2 lk_6_30 (by decide) rfl (Nat.le_of_ble_eq_true rfl) (kS hS).1 rfl (c_at hF hS hi) ?_
  refine wp_aload_n (pc := 5) (i := 2) d_54_5 rfl rfl ?_
  refine wp_callV1v (pc := 6) d_54_6 lk_6_34 (by decide) rfl (Nat.le_of_ble_eq_true rfl) (kW hx) rfl (c_become hF hx hv hne hV) (fun Iq6 hq6 => ?_)
  refine wp_iload_n (pc := 9) (i := 1) d_54_9 rfl rfl ?_
  refine wp_ifN_lt (pc := 10) (tgt := 29) d_54_10 (by decide) (by omega) ?_
  refine wp_iload_n (pc := 13) (i := 1) d_54_13 rfl rfl ?_
  refine wp_aload_n (pc := 14) (i := 0) d_54_14 rfl rfl ?_
  refine wp_gA (pc := 15) d_54_15 fl_6_26 (kS hS).1 ft_5_1 (fS hF hS).2.1 ?_
  refine wp_alen (pc := 18) d_54_18 (kS hS).2.2 (by decide) ?_
  refine wp_icmpN_ge (pc := 19) (tgt := 29) d_54_19 (by decide) (by omega) (by omega) (fun zq19 => ?_) (fun zq19 => ?_)
  · exact absurd zq19 (by omega)
  · refine wp_aload_n (pc := 22) (i := 0) d_54_22 rfl rfl ?_
    refine wp_gA (pc := 23) d_54_23 fl_6_26 (kS hS).1 ft_5_1 (fS hF hS).2.1 ?_
    refine wp_iload_n (pc := 26) (i := 1) d_54_26 rfl rfl ?_
    refine wp_icN (pc := 27) (m := 1) d_54_27 (by decide) ?_
    refine wp_zS (pc := 28) (j := i) d_54_28 (kS hS).2.2 rfl hi hn31 (by decide) (fun Iq28 uq28 => ?_)
    exact wp_vret (pc := 29) d_54_29 rfl ⟨_, rfl, _, hq6.1, hq6.2, uq28⟩
set_option maxRecDepth 4000 in
theorem c_isFilled {I : IT} {J : JT} {F : FT} {s n i : Nat} {p : Bool} (hF : Fok F) (hS : isS s n) (hi : i < n) (hp : I (s + 7) i = b2 p) : Sp 56 [vR s, vI (nI i)] KK I J F (fun R => R = (some (vI (b2 p)), KK, I, J, F)) := by
  have hn31 : n < 2 ^ 31 := by rcases hS with ⟨-, h⟩ | ⟨-, h⟩ | ⟨-, h⟩ <;> omega
  refine Sp.mk2 (Nat.le_of_ble_eq_true rfl) (L2 := [_, _]) rfl ?_
  refine wp_iload_n (pc := 0) (i := 1) d_56_0 rfl rfl ?_
  refine wp_ifN_lt (pc := 1) (tgt := 26) d_56_1 (by decide) (by omega) ?_
  refine wp_iload_n (pc := 4) (i := 1) d_56_4 rfl rfl ?_
  refine wp_aload_n (pc := 5) (i := 0) d_56_5 rfl rfl ?_
  refine wp_gA (pc := 6) d_56_6 fl_6_26 (kS hS).1 ft_5_1 (fS hF hS).2.1 ?_
  refine wp_alen (pc := 9) d_56_9 (kS hS).2.2 (by decide) ?_
  refine wp_icmpN_ge (pc := 10) (tgt := 26) d_56_10 (by decide) (by omega) (by omega) (fun zq10 => ?_) (fun zq10 => ?_)
  · refine wp_icN (pc := 26) (m := 0) d_56_26 (by decide) ?_
    exact absurd zq10 (by omega)
  · refine wp_aload_n (pc := 13) (i := 0) d_56_13 rfl rfl ?_
    refine wp_gA (pc := 14) d_56_14 fl_6_26 (kS hS).1 ft_5_1 (fS hF hS).2.1 ?_
    refine wp_iload_n (pc := 17) (i := 1) d_56_17 rfl rfl ?_
    refine wp_zL (pc := 18) (j := i) d_56_18 (kS hS).2.2 rfl hi hn31 hp ?_
    refine wp_ifB_eq (pc := 19) (tgt := 26) d_56_19 (by decide) (fun zq19 => ?_) (fun zq19 => ?_)
    · refine wp_icN (pc := 26) (m := 0) d_56_26 (by decide) ?_
      exact wp_iret (pc := 27) d_56_27 (Or.inr ⟨rfl, by decide⟩) (by rw [zq19]; rfl)
    · refine wp_icN (pc := 22) (m := 1) d_56_22 (by decide) ?_
      refine wp_goto (pc := 23) (tgt := 27) d_56_23 (by decide) ?_
      exact wp_iret (pc := 27) d_56_27 (Or.inr ⟨rfl, by decide⟩) (by rw [zq19]; rfl)
set_option maxRecDepth 4000 in
theorem empty_step {I0 : IT} {J : JT} {F : FT} {s n : Nat} (hF : Fok F) (hS : isS s n) (hn31 : n < 2 ^ 31) (i : Nat) (hi0 : i ≤ n) (I : IT) (hin : ∀ j, j < i → I (s + 7) j = nI 0) (hoff : ∀ a, a ≠ s + 7 → I a = I0 a)
    (ih0 : ∀ i', i < n → i' = i + 1 → ∀ (I : IT), (∀ j, j < i' → I (s + 7) j = nI 0) → (∀ a, a ≠ s + 7 → I a = I0 a) → Wp none 53 (fun R => ∃ I2, R = (none, KK, I2, J, F) ∧ (∀ j, j < n → I2 (s + 7) j = nI 0) ∧ ∀ a, a ≠ s + 7 → I2 a = I0 a) 2 [some (vR s), some (vI (nI i'))] [] KK I J F) : Wp none 53 (fun R => ∃ I2, R = (none, KK, I2, J, F) ∧ (∀ j, j < n → I2 (s + 7) j = nI 0) ∧ ∀ a, a ≠ s + 7 → I2 a = I0 a) 2 [some (vR s), some (vI (nI i))] [] KK I J F := by
  refine wp_iload_n (pc := 2) (i := 1) d_53_2 rfl rfl ?_
  refine wp_aload_n (pc := 3) (i := 0) d_53_3 rfl rfl ?_
  refine wp_gA (pc := 4) d_53_4 fl_6_26 (kS hS).1 ft_5_1 (fS hF hS).2.1 ?_
  refine wp_alen (pc := 7) d_53_7 (kS hS).2.2 (by decide) ?_
  refine wp_icmpN_ge (pc := 8) (tgt := 24) d_53_8 (by decide) (by omega) hn31 (fun zq8 => ?_) (fun zq8 => ?_)
  · exact wp_vret (pc := 24) d_53_24 rfl ⟨_, rfl, fun j hj => hin j (by omega), hoff⟩
  · refine wp_aload_n (pc := 11) (i := 0) d_53_11 rfl rfl ?_
    refine wp_gA (pc := 12) d_53_12 fl_6_26 (kS hS).1 ft_5_1 (fS hF hS).2.1 ?_
    refine wp_iload_n (pc := 15) (i := 1) d_53_15 rfl rfl ?_
    refine wp_icN (pc := 16) (m := 0) d_53_16 (by decide) ?_
    refine wp_zS (pc := 17) (j := i) d_53_17 (kS hS).2.2 rfl zq8 hn31 (by decide) (fun Iq17 uq17 => ?_)
    refine wq_iincN (pc := 18) (L2 := [_, _]) d_53_18 rfl (b := 1) (by decide) rfl rfl ?_
    refine wp_goto (pc := 21) (tgt := 2) d_53_21 (by decide) ?_
    refine ih0 (i + 1) zq8 rfl _ (fun j hj => ?_) (fun a ha => (uq17.2 a ha).trans (hoff a ha))
    by_cases e : j = i
    · subst e; exact uq17.at
    · rw [uq17.ne e]; exact hin j (by omega)
theorem empty_loop {I0 : IT} {J : JT} {F : FT} {s n : Nat} (hF : Fok F) (hS : isS s n) (hn31 : n < 2 ^ 31) : ∀ (d i : Nat), i + d = n → ∀ (I : IT), (∀ j, j < i → I (s + 7) j = nI 0) → (∀ a, a ≠ s + 7 → I a = I0 a) → Wp none 53 (fun R => ∃ I2, R = (none, KK, I2, J, F) ∧ (∀ j, j < n → I2 (s + 7) j = nI 0) ∧ ∀ a, a ≠ s + 7 → I2 a = I0 a) 2 [some (vR s), some (vI (nI i))] [] KK I J F := by
  intro d
  induction d with
  | zero =>
    intro i hid I hin hoff
    exact empty_step hF hS hn31 i (by omega) I hin hoff (fun i' hlt => absurd hlt (by omega))
  | succ d ih =>
    intro i hid I hin hoff
    exact empty_step hF hS hn31 i (by omega) I hin hoff (fun i' hlt he => ih i' (by omega))

set_option maxRecDepth 4000 in
theorem c_empty {I0 : IT} {J : JT} {F : FT} {s n : Nat} (hF : Fok F) (hS : isS s n) : Sp 53 [vR s] KK I0 J F (fun R => ∃ I2, R = (none, KK, I2, J, F) ∧ (∀ j, j < n → I2 (s + 7) j = nI 0) ∧ ∀ a, a ≠ s + 7 → I2 a = I0 a) := by
  have hn31 : n < 2 ^ 31 := by rcases hS with ⟨-, h⟩ | ⟨-, h⟩ | ⟨-, h⟩ <;> omega
  refine Sp.mk2 (Nat.le_of_ble_eq_true rfl) (L2 := [_, _]) rfl ?_
  refine wp_icN (pc := 0) (m := 0) d_53_0 (by decide) ?_
  refine wq_istore_n (pc := 1) (L2 := [_, _]) (i := 1) d_53_1 rfl (Nat.le_of_ble_eq_true rfl) rfl rfl ?_
  exact empty_loop hF hS hn31 n 0 (by omega) I0 (fun j hj => absurd hj (by omega)) (fun _ _ => rfl)
set_option maxRecDepth 4000 in
theorem c_Anumber {I : IT} {J : JT} {F : FT} {v : Nat} (hv : I 23 2 = nI v) : Sp 4 [vR 23] KK I J F (fun R => R = (some (vI (nI v)), KK, I, J, F)) := by
  refine Sp.mk2 (Nat.le_of_ble_eq_true rfl) (L2 := [_]) rfl ?_
  refine wp_aload_n (pc := 0) (i := 0) d_4_0 rfl rfl ?_
  refine wp_gI (pc := 1) d_4_1 fl_1_24 rfl ft_0_2 hv ?_
  exact wp_iret (pc := 4) d_4_4 (Or.inl rfl) rfl
set_option maxRecDepth 4000 in
theorem c_forgetAll {I : IT} {J : JT} {F : FT} : Sp 2 [vR 23] KK I J F (fun R => ∃ I2, R = (none, KK, I2, J, F) ∧ Up I I2 23 2 (nI 0)) := by
  refine Sp.mk2 (Nat.le_of_ble_eq_true rfl) (L2 := [_]) rfl ?_
  refine wp_aload_n (pc := 0) (i := 0) d_2_0 rfl rfl ?_
  refine wp_icN (pc := 1) (m := 0) d_2_1 (by decide) ?_
  refine wp_pI (pc := 2) d_2_2 fl_1_24 rfl ft_0_2 rfl (fun Iq2 uq2 => ?_)
  exact wp_vret (pc := 5) d_2_5 rfl ⟨_, rfl, uq2⟩
set_option maxRecDepth 4000 in
theorem c_remember {I : IT} {J : JT} {F : FT} {v nx na : Nat} {σ : SN} (hF : Fok F) (hv : isW v) (hv32 : v < 32) (hV : atW I v σ) (h1 : I 23 1 = nI nx) (h2 : I 23 2 = nI na) (hnx : nx < 12) (hna : na ≤ 12) : Sp 3 [vR 23, vR v] KK I J F (fun R => ∃ I2, R = (none, KK, I2, J, F) ∧ atW I2 (24 + 8 + 5 * nx) σ ∧ I2 23 1 = nI ((nx + 1) % 12) ∧ I2 23 2 = nI (min (na + 1) 12) ∧ ∀ a, a ≠ 23 → a ≠ 31 → (a < 24 + 8 + 5 * nx ∨ 24 + 8 + 5 * nx + 4 < a) → I2 a = I a) := by
  have hS : isS 24 12 := Or.inl ⟨rfl, rfl⟩
  refine Sp.mk2 (Nat.le_of_ble_eq_true rfl) (L2 := [_, _]) rfl ?_
  refine wp_aload_n (pc := 0) (i := 0) d_3_0 rfl rfl ?_
  refine wp_gA (pc := 1) d_3_1 fl_1_14 rfl ft_0_0 (F_23_0 hF) ?_
  refine wp_aload_n (pc := 4) (i := 0) d_3_4 rfl rfl ?_
  refine wp_gI (pc := 5) d_3_5 fl_1_20 rfl ft_0_1 h1 ?_
  refine wp_aload_n (pc := 8) (i := 1) d_3_8 rfl rfl ?_
  refine wp_callV2v (pc := 9) d_3_9 lk_1_27 (by decide) rfl (Nat.le_of_ble_eq_true rfl) (kS hS).1 rfl (c_put hF hS hnx hv (by omega) hV) (fun Iq9 hq9 => ?_)
  obtain ⟨Im9, hA9, ho9, hu9⟩ := hq9
  have h91 : Iq9 23 1 = nI nx := by rw [hu9.off (by omega), ho9 23 (by omega)]; exact h1
  have h92 : Iq9 23 2 = nI na := by rw [hu9.off (by omega), ho9 23 (by omega)]; exact h2
  refine wp_aload_n (pc := 12) (i := 0) d_3_12 rfl rfl ?_
  refine wp_aload_n (pc := 13) (i := 0) d_3_13 rfl rfl ?_
  refine wp_gI (pc := 14) d_3_14 fl_1_20 rfl ft_0_1 h91 ?_
  refine wp_bpN (pc := 17) (m := 11) d_3_17 (by decide) ?_
  refine wp_icmpN_ne (pc := 19) (tgt := 26) d_3_19 (by decide) (by omega) (by decide) (fun zq19 => ?_) (fun zq19 => ?_)
  · refine wp_aload_n (pc := 26) (i := 0) d_3_26 rfl rfl ?_
    refine wp_gI (pc := 27) d_3_27 fl_1_20 rfl ft_0_1 h91 ?_
    refine wp_icN (pc := 30) (m := 1) d_3_30 (by decide) ?_
    refine wp_iaddN (pc := 31) d_3_31 ?_
    refine wp_pI (pc := 32) d_3_32 fl_1_20 rfl ft_0_1 rfl (fun Iq32 uq32 => ?_)
    refine wp_aload_n (pc := 35) (i := 0) d_3_35 rfl rfl ?_
    refine wp_aload_n (pc := 36) (i := 0) d_3_36 rfl rfl ?_
    refine wp_gI (pc := 37) d_3_37 fl_1_24 rfl ft_0_2 ((uq32.ne (by decide)).trans h92) ?_
    refine wp_icN (pc := 40) (m := 1) d_3_40 (by decide) ?_
    refine wp_iaddN (pc := 41) d_3_41 ?_
    refine wp_bpN (pc := 42) (m := 12) d_3_42 (by decide) ?_
    refine wq_mminN (pc := 44) d_3_44 mm_1_31 (Nat.le_of_ble_eq_true rfl) (by omega) (by decide) ?_
    refine wp_pI (pc := 47) d_3_47 fl_1_24 rfl ft_0_2 rfl (fun Iq47 uq47 => ?_)
    refine wp_vret (pc := 50) d_3_50 rfl ⟨_, rfl, ?_, ?_, uq47.at, ?_⟩
    · refine ⟨fun k hk j hj => ?_, fun q g1 g2 => ?_⟩
      · rw [uq47.off (by omega), uq32.off (by omega), hu9.off (by omega)]; exact hA9.1 k hk j hj
      · rw [uq47.off (by omega), uq32.off (by omega), hu9.off (by omega)]; exact hA9.2 q g1 g2
    · rw [uq47.ne (by decide), uq32.at]
      exact congrArg nI (by omega)
    · intro a h1 h2 h3
      rw [uq47.2 a h1, uq32.2 a h1, hu9.2 a (by omega), ho9 a h3]
  · refine wp_icN (pc := 22) (m := 0) d_3_22 (by decide) ?_
    refine wp_goto (pc := 23) (tgt := 32) d_3_23 (by decide) ?_
    refine wp_pI (pc := 32) d_3_32 fl_1_20 rfl ft_0_1 rfl (fun Iq32 uq32 => ?_)
    refine wp_aload_n (pc := 35) (i := 0) d_3_35 rfl rfl ?_
    refine wp_aload_n (pc := 36) (i := 0) d_3_36 rfl rfl ?_
    refine wp_gI (pc := 37) d_3_37 fl_1_24 rfl ft_0_2 ((uq32.ne (by decide)).trans h92) ?_
    refine wp_icN (pc := 40) (m := 1) d_3_40 (by decide) ?_
    refine wp_iaddN (pc := 41) d_3_41 ?_
    refine wp_bpN (pc := 42) (m := 12) d_3_42 (by decide) ?_
    refine wq_mminN (pc := 44) d_3_44 mm_1_31 (Nat.le_of_ble_eq_true rfl) (by omega) (by decide) ?_
    refine wp_pI (pc := 47) d_3_47 fl_1_24 rfl ft_0_2 rfl (fun Iq47 uq47 => ?_)
    refine wp_vret (pc := 50) d_3_50 rfl ⟨_, rfl, ?_, ?_, uq47.at, ?_⟩
    · refine ⟨fun k hk j hj => ?_, fun q g1 g2 => ?_⟩
      · rw [uq47.off (by omega), uq32.off (by omega), hu9.off (by omega)]; exact hA9.1 k hk j hj
      · rw [uq47.off (by omega), uq32.off (by omega), hu9.off (by omega)]; exact hA9.2 q g1 g2
    · rw [uq47.ne (by decide), uq32.at]
      exact congrArg nI (by omega)
    · intro a h1 h2 h3
      rw [uq47.2 a h1, uq32.2 a h1, hu9.2 a (by omega), ho9 a h3]
set_option maxRecDepth 4000 in
theorem c_takeBack {I : IT} {J : JT} {F : FT} {v nx na : Nat} {τ : SN} (hF : Fok F) (hv : isW v) (hv32 : v + 4 < 23) (hV : atW I (24 + 8 + 5 * ((nx + 11) % 12)) τ) (h1 : I 23 1 = nI nx) (h2 : I 23 2 = nI na) (hnx : nx < 12) (hna : 1 ≤ na) (hna2 : na ≤ 12) : Sp 5 [vR 23, vR v] KK I J F (fun R => ∃ I2, R = (none, KK, I2, J, F) ∧ atW I2 v τ ∧ I2 23 1 = nI ((nx + 11) % 12) ∧ I2 23 2 = nI (na - 1) ∧ ∀ a, a ≠ 23 → (a < v ∨ v + 4 < a) → I2 a = I a) := by
  have hS : isS 24 12 := Or.inl ⟨rfl, rfl⟩
  have hy : isW (24 + 8 + 5 * ((nx + 11) % 12)) := (fSp hF hS (by omega)).2
  refine Sp.mk2 (Nat.le_of_ble_eq_true rfl) (L2 := [_, _]) rfl ?_
  refine wp_aload_n (pc := 0) (i := 0) d_5_0 rfl rfl ?_
  refine wp_gI (pc := 1) d_5_1 fl_1_24 rfl ft_0_2 h2 ?_
  refine wp_icN (pc := 4) (m := 1) d_5_4 (by decide) ?_
  refine wp_icmpN_ge (pc := 5) (tgt := 9) d_5_5 (by decide) (by omega) (by decide) (fun zq5 => ?_) (fun zq5 => ?_)
  · refine wp_aload_n (pc := 9) (i := 0) d_5_9 rfl rfl ?_
    refine wp_aload_n (pc := 10) (i := 0) d_5_10 rfl rfl ?_
    refine wp_gI (pc := 11) d_5_11 fl_1_20 rfl ft_0_1 h1 ?_
    refine wp_ifN_ne (pc := 14) (tgt := 22) d_5_14 (by decide) (by omega) (fun zq14 => ?_) (fun zq14 => ?_)
    · refine wp_aload_n (pc := 22) (i := 0) d_5_22 rfl rfl ?_
      refine wp_gI (pc := 23) d_5_23 fl_1_20 rfl ft_0_1 h1 ?_
      refine wp_icN (pc := 26) (m := 1) d_5_26 (by decide) ?_
      refine wp_isubN (pc := 27) d_5_27 (by omega) ?_
      refine wp_pI (pc := 28) d_5_28 fl_1_20 rfl ft_0_1 rfl (fun Iq28 uq28 => ?_)
      have hnxt : Iq28 23 1 = nI ((nx + 11) % 12) := uq28.at.trans (congrArg nI (by omega))
      refine wp_aload_n (pc := 31) (i := 0) d_5_31 rfl rfl ?_
      refine wp_dup (pc := 32) d_5_32 rfl ?_
      refine wp_gI (pc := 33) d_5_33 fl_1_24 rfl ft_0_2 ((uq28.ne (by decide)).trans h2) ?_
      refine wp_icN (pc := 36) (m := 1) d_5_36 (by decide) ?_
      refine wp_isubN (pc := 37) d_5_37 (by omega) ?_
      refine wp_pI (pc := 38) d_5_38 fl_1_24 rfl ft_0_2 rfl (fun Iq38 uq38 => ?_)
      have hR38 : atW Iq38 (24 + 8 + 5 * ((nx + 11) % 12)) τ := by
        refine ⟨fun k hk j hj => ?_, fun q g1 g2 => ?_⟩
        · rw [uq38.off (by omega), uq28.off (by omega)]; exact hV.1 k hk j hj
        · rw [uq38.off (by omega), uq28.off (by omega)]; exact hV.2 q g1 g2
      refine wp_aload_n (pc := 41) (i := 1) d_5_41 rfl rfl ?_
      refine wp_aload_n (pc := 42) (i := 0) d_5_42 rfl rfl ?_
      refine wp_gA (pc := 43) d_5_43 fl_1_14 rfl ft_0_0 (F_23_0 hF) ?_
      refine wp_aload_n (pc := 46) (i := 0) d_5_46 rfl rfl ?_
      refine wp_gI (pc := 47) d_5_47 fl_1_20 rfl ft_0_1 ((uq38.ne (by decide)).trans hnxt) ?_
      refine wp_callV1p (pc := 50) d_5_50 lk_1_37 (by decide) rfl (Nat.le_of_ble_eq_true rfl) (kS hS).1 rfl (c_at hF hS (by omega)) ?_
      refine wp_callV1v (pc := 53) d_5_53 lk_1_41 (by decide) rfl (Nat.le_of_ble_eq_true rfl) (kW hv) rfl (c_become hF hv hy (by omega) hR38) (fun Iq53 hq53 => ?_)
      refine wp_vret (pc := 56) d_5_56 rfl ⟨_, rfl, hq53.1, ?_, ?_, ?_⟩
      · rw [hq53.2 23 (by omega), uq38.ne (by decide)]; exact hnxt
      · rw [hq53.2 23 (by omega)]; exact uq38.at
      · intro a h3 h4
        rw [hq53.2 a h4, uq38.2 a h3, uq28.2 a h3]
    · refine wp_bpN (pc := 17) (m := 11) d_5_17 (by decide) ?_
      refine wp_goto (pc := 19) (tgt := 28) d_5_19 (by decide) ?_
      refine wp_pI (pc := 28) d_5_28 fl_1_20 rfl ft_0_1 rfl (fun Iq28 uq28 => ?_)
      have hnxt : Iq28 23 1 = nI ((nx + 11) % 12) := uq28.at.trans (congrArg nI (by omega))
      refine wp_aload_n (pc := 31) (i := 0) d_5_31 rfl rfl ?_
      refine wp_dup (pc := 32) d_5_32 rfl ?_
      refine wp_gI (pc := 33) d_5_33 fl_1_24 rfl ft_0_2 ((uq28.ne (by decide)).trans h2) ?_
      refine wp_icN (pc := 36) (m := 1) d_5_36 (by decide) ?_
      refine wp_isubN (pc := 37) d_5_37 (by omega) ?_
      refine wp_pI (pc := 38) d_5_38 fl_1_24 rfl ft_0_2 rfl (fun Iq38 uq38 => ?_)
      have hR38 : atW Iq38 (24 + 8 + 5 * ((nx + 11) % 12)) τ := by
        refine ⟨fun k hk j hj => ?_, fun q g1 g2 => ?_⟩
        · rw [uq38.off (by omega), uq28.off (by omega)]; exact hV.1 k hk j hj
        · rw [uq38.off (by omega), uq28.off (by omega)]; exact hV.2 q g1 g2
      refine wp_aload_n (pc := 41) (i := 1) d_5_41 rfl rfl ?_
      refine wp_aload_n (pc := 42) (i := 0) d_5_42 rfl rfl ?_
      refine wp_gA (pc := 43) d_5_43 fl_1_14 rfl ft_0_0 (F_23_0 hF) ?_
      refine wp_aload_n (pc := 46) (i := 0) d_5_46 rfl rfl ?_
      refine wp_gI (pc := 47) d_5_47 fl_1_20 rfl ft_0_1 ((uq38.ne (by decide)).trans hnxt) ?_
      refine wp_callV1p (pc := 50) d_5_50 lk_1_37 (by decide) rfl (Nat.le_of_ble_eq_true rfl) (kS hS).1 rfl (c_at hF hS (by omega)) ?_
      refine wp_callV1v (pc := 53) d_5_53 lk_1_41 (by decide) rfl (Nat.le_of_ble_eq_true rfl) (kW hv) rfl (c_become hF hv hy (by omega) hR38) (fun Iq53 hq53 => ?_)
      refine wp_vret (pc := 56) d_5_56 rfl ⟨_, rfl, hq53.1, ?_, ?_, ?_⟩
      · rw [hq53.2 23 (by omega), uq38.ne (by decide)]; exact hnxt
      · rw [hq53.2 23 (by omega)]; exact uq38.at
      · intro a h3 h4
        rw [hq53.2 a h4, uq38.2 a h3, uq28.2 a h3]
  · exact absurd zq5 (by omega)
set_option maxRecDepth 4000 in
theorem c_Tlength {I : IT} {J : JT} {F : FT} {v : Nat} (hv : I 2 1 = nI v) : Sp 61 [vR 2] KK I J F (fun R => R = (some (vI (nI v)), KK, I, J, F)) := by
  refine Sp.mk2 (Nat.le_of_ble_eq_true rfl) (L2 := [_]) rfl ?_
  refine wp_aload_n (pc := 0) (i := 0) d_61_0 rfl rfl ?_
  refine wp_gI (pc := 1) d_61_1 fl_7_15 rfl ft_6_1 hv ?_
  exact wp_iret (pc := 4) d_61_4 (Or.inl rfl) rfl
set_option maxRecDepth 4000 in
theorem c_Tclear {I : IT} {J : JT} {F : FT} : Sp 62 [vR 2] KK I J F (fun R => ∃ I2, R = (none, KK, I2, J, F) ∧ Up I I2 2 1 (nI 0)) := by
  refine Sp.mk2 (Nat.le_of_ble_eq_true rfl) (L2 := [_]) rfl ?_
  refine wp_aload_n (pc := 0) (i := 0) d_62_0 rfl rfl ?_
  refine wp_icN (pc := 1) (m := 0) d_62_1 (by decide) ?_
  refine wp_pI (pc := 2) d_62_2 fl_7_15 rfl ft_6_1 rfl (fun Iq2 uq2 => ?_)
  exact wp_vret (pc := 5) d_62_5 rfl ⟨_, rfl, uq2⟩
set_option maxRecDepth 4000 in
theorem c_hasRoomFor {I : IT} {J : JT} {F : FT} {v k : Nat} (hv : I 2 1 = nI v) (hv40 : v ≤ 40) (hk : k ≤ 8) : Sp 58 [vR 2, vI (nI k)] KK I J F (fun R => R = (some (vI (b2 (decide (k + v ≤ 40)))), KK, I, J, F)) := by
  refine Sp.mk2 (Nat.le_of_ble_eq_true rfl) (L2 := [_, _]) rfl ?_
  refine wp_iload_n (pc := 0) (i := 1) d_58_0 rfl rfl ?_
  refine wp_bpN (pc := 1) (m := 40) d_58_1 (by decide) ?_
  refine wp_aload_n (pc := 3) (i := 0) d_58_3 rfl rfl ?_
  refine wp_gI (pc := 4) d_58_4 fl_7_15 rfl ft_6_1 hv ?_
  refine wp_isubN (pc := 7) d_58_7 (by omega) ?_
  refine wp_icmpN_gt (pc := 8) (tgt := 15) d_58_8 (by decide) (by omega) (by omega) (fun zq8 => ?_) (fun zq8 => ?_)
  · refine wp_icN (pc := 15) (m := 0) d_58_15 (by decide) ?_
    refine wp_iret (pc := 16) d_58_16 (Or.inr ⟨rfl, by decide⟩) ?_
    rw [show decide (k + v ≤ 40) = false from decide_eq_false (by omega)]; rfl
  · refine wp_icN (pc := 11) (m := 1) d_58_11 (by decide) ?_
    refine wp_goto (pc := 12) (tgt := 16) d_58_12 (by decide) ?_
    refine wp_iret (pc := 16) d_58_16 (Or.inr ⟨rfl, by decide⟩) ?_
    rw [show decide (k + v ≤ 40) = true from decide_eq_true (by omega)]; rfl
set_option maxRecDepth 4000 in
theorem c_Tat {I : IT} {J : JT} {F : FT} {t i : Nat} (hF : Fok F) (hi : i < 40) (hv : I 3 i = nI t) : Sp 63 [vR 2, vI (nI i)] KK I J F (fun R => R = (some (vI (nI t)), KK, I, J, F)) := by
  refine Sp.mk2 (Nat.le_of_ble_eq_true rfl) (L2 := [_, _]) rfl ?_
  refine wp_iload_n (pc := 0) (i := 1) d_63_0 rfl rfl ?_
  refine wp_ifN_lt (pc := 1) (tgt := 22) d_63_1 (by decide) (by omega) ?_
  refine wp_iload_n (pc := 4) (i := 1) d_63_4 rfl rfl ?_
  refine wp_aload_n (pc := 5) (i := 0) d_63_5 rfl rfl ?_
  refine wp_gA (pc := 6) d_63_6 fl_7_9 rfl ft_6_0 (F_2_0 hF) ?_
  refine wp_alen (pc := 9) d_63_9 rfl (by decide) ?_
  refine wp_icmpN_ge (pc := 10) (tgt := 22) d_63_10 (by decide) (by omega) (by decide) (fun zq10 => ?_) (fun zq10 => ?_)
  · refine wp_icN (pc := 22) (m := 0) d_63_22 (by decide) ?_
    exact absurd zq10 (by omega)
  · refine wp_aload_n (pc := 13) (i := 0) d_63_13 rfl rfl ?_
    refine wp_gA (pc := 14) d_63_14 fl_7_9 rfl ft_6_0 (F_2_0 hF) ?_
    refine wp_iload_n (pc := 17) (i := 1) d_63_17 rfl rfl ?_
    refine wp_aL (pc := 18) (j := i) d_63_18 rfl rfl hi (by decide) hv ?_
    refine wp_goto (pc := 19) (tgt := 23) d_63_19 (by decide) ?_
    exact wp_iret (pc := 23) d_63_23 (Or.inl rfl) rfl
set_option maxRecDepth 4000 in
theorem c_appendByte {I : IT} {J : JT} {F : FT} {v t : Nat} (hF : Fok F) (hv : I 2 1 = nI v) (hv40 : v < 40) : Sp 60 [vR 2, vI (nI t)] KK I J F (fun R => ∃ I2, R = (none, KK, I2, J, F) ∧ I2 2 1 = nI (v + 1) ∧ I2 3 v = nI t ∧ (∀ j, j ≠ v → I2 3 j = I 3 j) ∧ ∀ a, a ≠ 2 → a ≠ 3 → I2 a = I a) := by
  refine Sp.mk2 (Nat.le_of_ble_eq_true rfl) (L2 := [_, _]) rfl ?_
  refine wp_aload_n (pc := 0) (i := 0) d_60_0 rfl rfl ?_
  refine wp_gI (pc := 1) d_60_1 fl_7_15 rfl ft_6_1 hv ?_
  refine wp_ifN_lt (pc := 4) (tgt := 19) d_60_4 (by decide) (by omega) ?_
  refine wp_aload_n (pc := 7) (i := 0) d_60_7 rfl rfl ?_
  refine wp_gI (pc := 8) d_60_8 fl_7_15 rfl ft_6_1 hv ?_
  refine wp_aload_n (pc := 11) (i := 0) d_60_11 rfl rfl ?_
  refine wp_gA (pc := 12) d_60_12 fl_7_9 rfl ft_6_0 (F_2_0 hF) ?_
  refine wp_alen (pc := 15) d_60_15 rfl (by decide) ?_
  refine wp_icmpN_lt (pc := 16) (tgt := 20) d_60_16 (by decide) (by omega) (by decide) (fun zq16 => ?_) (fun zq16 => ?_)
  · refine wp_aload_n (pc := 20) (i := 0) d_60_20 rfl rfl ?_
    refine wp_gA (pc := 21) d_60_21 fl_7_9 rfl ft_6_0 (F_2_0 hF) ?_
    refine wp_aload_n (pc := 24) (i := 0) d_60_24 rfl rfl ?_
    refine wp_gI (pc := 25) d_60_25 fl_7_15 rfl ft_6_1 hv ?_
    refine wp_iload_n (pc := 28) (i := 1) d_60_28 rfl rfl ?_
    refine wp_aS (pc := 29) (j := v) d_60_29 rfl rfl hv40 (by decide) (fun Iq29 uq29 => ?_)
    refine wp_aload_n (pc := 30) (i := 0) d_60_30 rfl rfl ?_
    refine wp_dup (pc := 31) d_60_31 rfl ?_
    refine wp_gI (pc := 32) d_60_32 fl_7_15 rfl ft_6_1 ((uq29.off (by decide)).trans hv) ?_
    refine wp_icN (pc := 35) (m := 1) d_60_35 (by decide) ?_
    refine wp_iaddN (pc := 36) d_60_36 ?_
    refine wp_pI (pc := 37) d_60_37 fl_7_15 rfl ft_6_1 rfl (fun Iq37 uq37 => ?_)
    exact wp_vret (pc := 40) d_60_40 rfl ⟨_, rfl, uq37.at, (uq37.off (by decide)).trans uq29.at, fun j hj => (uq37.off (by decide)).trans (uq29.ne hj), fun a h2 h3 => (uq37.2 a h2).trans (uq29.2 a h3)⟩
  · exact absurd zq16 (by omega)
