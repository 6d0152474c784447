set_option maxRecDepth 4000 in
theorem become_step {I0 : IT} {J : JT} {F : FT} {w v : Nat} {τ : SN} (hF : Fok F) (hw : isW w) (hv : isW v) (hne : w ≠ v) (i : Nat) (hi0 : i ≤ 6) (I : IT) (hV : atW I v τ) (hin : ∀ k, k < 4 → ∀ j, j < i → I (w + 1 + k) j = nI (τ k j)) (hoff : offW w I0 I)
    (ih0 : ∀ i', i < 6 → i' = i + 1 → ∀ (I : IT), (atW I v τ) → (∀ k, k < 4 → ∀ j, j < i' → I (w + 1 + k) j = nI (τ k j)) → (offW w I0 I) → Wp none 74 (fun R => ∃ I2, R = (none, KK, I2, J, F) ∧ atW I2 w τ ∧ offW w I0 I2) 2 [some (vR w), some (vR v), some (vI (nI i'))] [] KK I J F) : Wp none 74 (fun R => ∃ I2, R = (none, KK, I2, J, F) ∧ atW I2 w τ ∧ offW w I0 I2) 2 [some (vR w), some (vR v), some (vI (nI i))] [] KK I J F := by
  refine wp_iload_n (pc := 2) (i := 2) d_74_2 rfl rfl ?_
  refine wp_bpN (pc := 3) (m := 6) d_74_3 (by decide) ?_
  refine wp_icmpN_ge (pc := 5) (tgt := 62) d_74_5 (by decide) (by omega) (by decide) (fun zq5 => ?_) (fun zq5 => ?_)
  · refine wp_aload_n (pc := 62) (i := 0) d_74_62 rfl rfl ?_
    refine wp_aload_n (pc := 63) (i := 1) d_74_63 rfl rfl ?_
    refine wp_gI (pc := 64) d_74_64 fl_8_24 (kW hv) ft_7_4 (hV.2 4 (by decide) (by decide)) ?_
    refine wp_pI (pc := 67) d_74_67 fl_8_24 (kW hw) ft_7_4 rfl (fun Iq67 uq67 => ?_)
    have hV67 := atW_off hv hw (Ne.symm hne) hV (offW_fld uq67)
    refine wp_aload_n (pc := 70) (i := 0) d_74_70 rfl rfl ?_
    refine wp_aload_n (pc := 71) (i := 1) d_74_71 rfl rfl ?_
    refine wp_gI (pc := 72) d_74_72 fl_8_28 (kW hv) ft_7_5 (hV67.2 5 (by decide) (by decide)) ?_
    refine wp_pI (pc := 75) d_74_75 fl_8_28 (kW hw) ft_7_5 rfl (fun Iq75 uq75 => ?_)
    have hV75 := atW_off hv hw (Ne.symm hne) hV67 (offW_fld uq75)
    refine wp_aload_n (pc := 78) (i := 0) d_74_78 rfl rfl ?_
    refine wp_aload_n (pc := 79) (i := 1) d_74_79 rfl rfl ?_
    refine wp_gI (pc := 80) d_74_80 fl_8_31 (kW hv) ft_7_6 (hV75.2 6 (by decide) (by decide)) ?_
    refine wp_pI (pc := 83) d_74_83 fl_8_31 (kW hw) ft_7_6 rfl (fun Iq83 uq83 => ?_)
    have hV83 := atW_off hv hw (Ne.symm hne) hV75 (offW_fld uq83)
    refine wp_aload_n (pc := 86) (i := 0) d_74_86 rfl rfl ?_
    refine wp_aload_n (pc := 87) (i := 1) d_74_87 rfl rfl ?_
    refine wp_gI (pc := 88) d_74_88 fl_8_34 (kW hv) ft_7_7 (hV83.2 7 (by decide) (by decide)) ?_
    refine wp_pI (pc := 91) d_74_91 fl_8_34 (kW hw) ft_7_7 rfl (fun Iq91 uq91 => ?_)
    have hV91 := atW_off hv hw (Ne.symm hne) hV83 (offW_fld uq91)
    have hi6 : i = 6 := by omega
    subst hi6
    refine wp_vret (pc := 94) d_74_94 rfl ⟨_, rfl, ⟨fun k hk j hj => ?_, fun q g1 g2 => ?_⟩, hoff.tr (((offW_fld uq67).tr (offW_fld uq75)).tr ((offW_fld uq83).tr (offW_fld uq91)))⟩
    · rw [uq91.off (by omega), uq83.off (by omega), uq75.off (by omega), uq67.off (by omega)]; exact hin k hk j hj
    · have hq : q = 4 ∨ q = 5 ∨ q = 6 ∨ q = 7 := by omega
      rcases hq with rfl | rfl | rfl | rfl
      · rw [uq91.ne (by decide), uq83.ne (by decide), uq75.ne (by decide)]; exact uq67.at
      · rw [uq91.ne (by decide), uq83.ne (by decide)]; exact uq75.at
      · rw [uq91.ne (by decide)]; exact uq83.at
      · exact uq91.at
  · have hi6 : i < 6 := zq5
    refine wp_aload_n (pc := 8) (i := 0) d_74_8 rfl rfl ?_
    refine wp_gA (pc := 9) d_74_9 fl_8_9 (kW hw) ft_7_0 (fW hF hw (k := 0) (by decide)) ?_
    refine wp_iload_n (pc := 12) (i := 2) d_74_12 rfl rfl ?_
    refine wp_aload_n (pc := 13) (i := 1) d_74_13 rfl rfl ?_
    refine wp_gA (pc := 14) d_74_14 fl_8_9 (kW hv) ft_7_0 (fW hF hv (k := 0) (by decide)) ?_
    refine wp_iload_n (pc := 17) (i := 2) d_74_17 rfl rfl ?_
    refine wp_aL (pc := 18) (j := i) d_74_18 (kWa hv (k := 0) (by decide)) rfl hi6 (by decide) (hV.1 0 (by decide) _ hi6) ?_
    refine wp_aS (pc := 19) (j := i) d_74_19 (kWa hw (k := 0) (by decide)) rfl hi6 (by decide) (fun Iq19 uq19 => ?_)
    have hV19 := atW_off hv hw (Ne.symm hne) hV (offW_arr (k := 0) uq19 (by decide))
    refine wp_aload_n (pc := 20) (i := 0) d_74_20 rfl rfl ?_
    refine wp_gA (pc := 21) d_74_21 fl_8_15 (kW hw) ft_7_1 (fW hF hw (k := 1) (by decide)) ?_
    refine wp_iload_n (pc := 24) (i := 2) d_74_24 rfl rfl ?_
    refine wp_aload_n (pc := 25) (i := 1) d_74_25 rfl rfl ?_
    refine wp_gA (pc := 26) d_74_26 fl_8_15 (kW hv) ft_7_1 (fW hF hv (k := 1) (by decide)) ?_
    refine wp_iload_n (pc := 29) (i := 2) d_74_29 rfl rfl ?_
    refine wp_aL (pc := 30) (j := i) d_74_30 (kWa hv (k := 1) (by decide)) rfl hi6 (by decide) (hV19.1 1 (by decide) _ hi6) ?_
    refine wp_aS (pc := 31) (j := i) d_74_31 (kWa hw (k := 1) (by decide)) rfl hi6 (by decide) (fun Iq31 uq31 => ?_)
    have hV31 := atW_off hv hw (Ne.symm hne) hV19 (offW_arr (k := 1) uq31 (by decide))
    refine wp_aload_n (pc := 32) (i := 0) d_74_32 rfl rfl ?_
    refine wp_gA (pc := 33) d_74_33 fl_8_18 (kW hw) ft_7_2 (fW hF hw (k := 2) (by decide)) ?_
    refine wp_iload_n (pc := 36) (i := 2) d_74_36 rfl rfl ?_
    refine wp_aload_n (pc := 37) (i := 1) d_74_37 rfl rfl ?_
    refine wp_gA (pc := 38) d_74_38 fl_8_18 (kW hv) ft_7_2 (fW hF hv (k := 2) (by decide)) ?_
    refine wp_iload_n (pc := 41) (i := 2) d_74_41 rfl rfl ?_
    refine wp_aL (pc := 42) (j := i) d_74_42 (kWa hv (k := 2) (by decide)) rfl hi6 (by decide) (hV31.1 2 (by decide) _ hi6) ?_
    refine wp_aS (pc := 43) (j := i) d_74_43 (kWa hw (k := 2) (by decide)) rfl hi6 (by decide) (fun Iq43 uq43 => ?_)
    have hV43 := atW_off hv hw (Ne.symm hne) hV31 (offW_arr (k := 2) uq43 (by decide))
    refine wp_aload_n (pc := 44) (i := 0) d_74_44 rfl rfl ?_
    refine wp_gA (pc := 45) d_74_45 fl_8_21 (kW hw) ft_7_3 (fW hF hw (k := 3) (by decide)) ?_
    refine wp_iload_n (pc := 48) (i := 2) d_74_48 rfl rfl ?_
    refine wp_aload_n (pc := 49) (i := 1) d_74_49 rfl rfl ?_
    refine wp_gA (pc := 50) d_74_50 fl_8_21 (kW hv) ft_7_3 (fW hF hv (k := 3) (by decide)) ?_
    refine wp_iload_n (pc := 53) (i := 2) d_74_53 rfl rfl ?_
    refine wp_aL (pc := 54) (j := i) d_74_54 (kWa hv (k := 3) (by decide)) rfl hi6 (by decide) (hV43.1 3 (by decide) _ hi6) ?_
    refine wp_aS (pc := 55) (j := i) d_74_55 (kWa hw (k := 3) (by decide)) rfl hi6 (by decide) (fun Iq55 uq55 => ?_)
    have hV55 := atW_off hv hw (Ne.symm hne) hV43 (offW_arr (k := 3) uq55 (by decide))
    refine wq_iincN (pc := 56) (L2 := [_, _, _]) d_74_56 rfl (b := 1) (by decide) rfl rfl ?_
    refine wp_goto (pc := 59) (tgt := 2) d_74_59 (by decide) ?_
    refine ih0 (i + 1) zq5 rfl _ hV55 (fun k hk j hj => ?_) (((hoff.tr (offW_arr (k := 0) uq19 (by decide))).tr (offW_arr (k := 1) uq31 (by decide))).tr ((offW_arr (k := 2) uq43 (by decide)).tr (offW_arr (k := 3) uq55 (by decide))))
    by_cases e : j = i
    · subst e
      have hk4 : k = 0 ∨ k = 1 ∨ k = 2 ∨ k = 3 := by omega
      rcases hk4 with rfl | rfl | rfl | rfl
      · rw [uq55.off (by omega), uq43.off (by omega), uq31.off (by omega)]; exact uq19.at
      · rw [uq55.off (by omega), uq43.off (by omega)]; exact uq31.at
      · rw [uq55.off (by omega)]; exact uq43.at
      · exact uq55.at
    · have hji : j < i := by omega
      have hk4 : k = 0 ∨ k = 1 ∨ k = 2 ∨ k = 3 := by omega
      rcases hk4 with rfl | rfl | rfl | rfl
      · rw [uq55.off (by omega), uq43.off (by omega), uq31.off (by omega), uq19.ne e]; exact hin 0 (by decide) j hji
      · rw [uq55.off (by omega), uq43.off (by omega), uq31.ne e, uq19.off (by omega)]; exact hin 1 (by decide) j hji
      · rw [uq55.off (by omega), uq43.ne e, uq31.off (by omega), uq19.off (by omega)]; exact hin 2 (by decide) j hji
      · rw [uq55.ne e, uq43.off (by omega), uq31.off (by omega), uq19.off (by omega)]; exact hin 3 (by decide) j hji
theorem become_loop {I0 : IT} {J : JT} {F : FT} {w v : Nat} {τ : SN} (hF : Fok F) (hw : isW w) (hv : isW v) (hne : w ≠ v) : ∀ (d i : Nat), i + d = 6 → ∀ (I : IT), (atW I v τ) → (∀ k, k < 4 → ∀ j, j < i → I (w + 1 + k) j = nI (τ k j)) → (offW w I0 I) → Wp none 74 (fun R => ∃ I2, R = (none, KK, I2, J, F) ∧ atW I2 w τ ∧ offW w I0 I2) 2 [some (vR w), some (vR v), some (vI (nI i))] [] KK I J F := by
  intro d
  induction d with
  | zero =>
    intro i hid I hV hin hoff
    exact become_step hF hw hv hne i (by omega) I hV hin hoff (fun i' hlt => absurd hlt (by omega))
  | succ d ih =>
    intro i hid I hV hin hoff
    exact become_step hF hw hv hne i (by omega) I hV hin hoff (fun i' hlt he => ih i' (by omega))

set_option maxRecDepth 4000 in
theorem c_become {I0 : IT} {J : JT} {F : FT} {w v : Nat} {τ : SN} (hF : Fok F) (hw : isW w) (hv : isW v) (hne : w ≠ v) (hV : atW I0 v τ) : Sp 74 [vR w, vR v] KK I0 J F (fun R => ∃ I2, R = (none, KK, I2, J, F) ∧ atW I2 w τ ∧ offW w I0 I2) := by
  refine Sp.mk2 (Nat.le_of_ble_eq_true rfl) (L2 := [_, _, _]) rfl ?_
  refine wp_icN (pc := 0) (m := 0) d_74_0 (by decide) ?_
  refine wq_istore_n (pc := 1) (L2 := [_, _, _]) (i := 2) d_74_1 rfl (Nat.le_of_ble_eq_true rfl) rfl rfl ?_
  exact become_loop hF hw hv hne 6 0 (by omega) I0 hV (fun k hk j hj => absurd hj (by omega)) offW.rf
/-- the numbers at first -/
def beginN (ρ : SN) (n : Nat) : SN := fun k j => if k = 0 then (if j < n then ρ 4 j else 0) else 0
set_option maxRecDepth 4000 in
theorem beginOn_step {I0 : IT} {J : JT} {F : FT} {w r n : Nat} {ρ : SN} (hF : Fok F) (hw : isW w) (hr : isR r) (i : Nat) (hi0 : i ≤ 6) (I : IT) (hR : atR I r ρ n) (hin : ∀ k, k < 4 → ∀ j, j < i → I (w + 1 + k) j = nI (beginN ρ n k j)) (hoff : offW w I0 I)
    (ih0 : ∀ i', i < 6 → i' = i + 1 → ∀ (I : IT), (atR I r ρ n) → (∀ k, k < 4 → ∀ j, j < i' → I (w + 1 + k) j = nI (beginN ρ n k j)) → (offW w I0 I) → Wp none 65 (fun R => ∃ I2, R = (none, KK, I2, J, F) ∧ atW I2 w (beginN ρ n) ∧ offW w I0 I2) 2 [some (vR w), some (vR r), some (vI (nI i'))] [] KK I J F) : Wp none 65 (fun R => ∃ I2, R = (none, KK, I2, J, F) ∧ atW I2 w (beginN ρ n) ∧ offW w I0 I2) 2 [some (vR w), some (vR r), some (vI (nI i))] [] KK I J F := by
  refine wp_iload_n (pc := 2) (i := 2) d_65_2 rfl rfl ?_
  refine wp_bpN (pc := 3) (m := 6) d_65_3 (by decide) ?_
  refine wp_icmpN_ge (pc := 5) (tgt := 46) d_65_5 (by decide) (by omega) (by decide) (fun zq5 => ?_) (fun zq5 => ?_)
  · refine wp_aload_n (pc := 46) (i := 0) d_65_46 rfl rfl ?_
    refine wp_icN (pc := 47) (m := 0) d_65_47 (by decide) ?_
    refine wp_pI (pc := 48) d_65_48 fl_8_24 (kW hw) ft_7_4 rfl (fun Iq48 uq48 => ?_)
    refine wp_aload_n (pc := 51) (i := 0) d_65_51 rfl rfl ?_
    refine wp_icN (pc := 52) (m := 0) d_65_52 (by decide) ?_
    refine wp_pI (pc := 53) d_65_53 fl_8_28 (kW hw) ft_7_5 rfl (fun Iq53 uq53 => ?_)
    refine wp_aload_n (pc := 56) (i := 0) d_65_56 rfl rfl ?_
    refine wp_icN (pc := 57) (m := 0) d_65_57 (by decide) ?_
    refine wp_pI (pc := 58) d_65_58 fl_8_31 (kW hw) ft_7_6 rfl (fun Iq58 uq58 => ?_)
    refine wp_aload_n (pc := 61) (i := 0) d_65_61 rfl rfl ?_
    refine wp_icN (pc := 62) (m := 0) d_65_62 (by decide) ?_
    refine wp_pI (pc := 63) d_65_63 fl_8_34 (kW hw) ft_7_7 rfl (fun Iq63 uq63 => ?_)
    have hi6 : i = 6 := by omega
    subst hi6
    refine wp_vret (pc := 66) d_65_66 rfl ⟨_, rfl, ⟨fun k hk j hj => ?_, fun q g1 g2 => ?_⟩, hoff.tr (((offW_fld uq48).tr (offW_fld uq53)).tr ((offW_fld uq58).tr (offW_fld uq63)))⟩
    · rw [uq63.off (by omega), uq58.off (by omega), uq53.off (by omega), uq48.off (by omega)]; exact hin k hk j hj
    · have hq : q = 4 ∨ q = 5 ∨ q = 6 ∨ q = 7 := by omega
      rcases hq with rfl | rfl | rfl | rfl
      · rw [uq63.ne (by decide), uq58.ne (by decide), uq53.ne (by decide)]; exact uq48.at
      · rw [uq63.ne (by decide), uq58.ne (by decide)]; exact uq53.at
      · rw [uq63.ne (by decide)]; exact uq58.at
      · exact uq63.at
  · have hi6 : i < 6 := zq5
    refine wp_aload_n (pc := 8) (i := 0) d_65_8 rfl rfl ?_
    refine wp_gA (pc := 9) d_65_9 fl_8_9 (kW hw) ft_7_0 (fW hF hw (k := 0) (by decide)) ?_
    refine wp_iload_n (pc := 12) (i := 2) d_65_12 rfl rfl ?_
    refine wp_aload_n (pc := 13) (i := 1) d_65_13 rfl rfl ?_
    refine wp_iload_n (pc := 14) (i := 2) d_65_14 rfl rfl ?_
    refine wp_callV1p (pc := 15) d_65_15 lk_8_60 (by decide) rfl (Nat.le_of_ble_eq_true rfl) (kR hr) rfl (c_atFirstOn hF hr hR hi6) ?_
    refine wp_aS (pc := 18) (j := i) d_65_18 (kWa hw (k := 0) (by decide)) rfl hi6 (by decide) (fun Iq18 uq18 => ?_)
    refine wp_aload_n (pc := 19) (i := 0) d_65_19 rfl rfl ?_
    refine wp_gA (pc := 20) d_65_20 fl_8_15 (kW hw) ft_7_1 (fW hF hw (k := 1) (by decide)) ?_
    refine wp_iload_n (pc := 23) (i := 2) d_65_23 rfl rfl ?_
    refine wp_icN (pc := 24) (m := 0) d_65_24 (by decide) ?_
    refine wp_aS (pc := 25) (j := i) d_65_25 (kWa hw (k := 1) (by decide)) rfl hi6 (by decide) (fun Iq25 uq25 => ?_)
    refine wp_aload_n (pc := 26) (i := 0) d_65_26 rfl rfl ?_
    refine wp_gA (pc := 27) d_65_27 fl_8_18 (kW hw) ft_7_2 (fW hF hw (k := 2) (by decide)) ?_
    refine wp_iload_n (pc := 30) (i := 2) d_65_30 rfl rfl ?_
    refine wp_icN (pc := 31) (m := 0) d_65_31 (by decide) ?_
    refine wp_aS (pc := 32) (j := i) d_65_32 (kWa hw (k := 2) (by decide)) rfl hi6 (by decide) (fun Iq32 uq32 => ?_)
    refine wp_aload_n (pc := 33) (i := 0) d_65_33 rfl rfl ?_
    refine wp_gA (pc := 34) d_65_34 fl_8_21 (kW hw) ft_7_3 (fW hF hw (k := 3) (by decide)) ?_
    refine wp_iload_n (pc := 37) (i := 2) d_65_37 rfl rfl ?_
    refine wp_icN (pc := 38) (m := 0) d_65_38 (by decide) ?_
    refine wp_aS (pc := 39) (j := i) d_65_39 (kWa hw (k := 3) (by decide)) rfl hi6 (by decide) (fun Iq39 uq39 => ?_)
    refine wq_iincN (pc := 40) (L2 := [_, _, _]) d_65_40 rfl (b := 1) (by decide) rfl rfl ?_
    refine wp_goto (pc := 43) (tgt := 2) d_65_43 (by decide) ?_
    have ho39 := ((offW_arr (k := 0) uq18 (by decide)).tr (offW_arr (k := 1) uq25 (by decide))).tr ((offW_arr (k := 2) uq32 (by decide)).tr (offW_arr (k := 3) uq39 (by decide)))
    refine ih0 (i + 1) zq5 rfl _ (atR_off hr hw hR ho39) (fun k hk j hj => ?_) (hoff.tr ho39)
    by_cases e : j = i
    · subst e
      have hk4 : k = 0 ∨ k = 1 ∨ k = 2 ∨ k = 3 := by omega
      rcases hk4 with rfl | rfl | rfl | rfl
      · rw [uq39.off (by omega), uq32.off (by omega), uq25.off (by omega)]; exact uq18.at
      · rw [uq39.off (by omega), uq32.off (by omega)]; exact uq25.at
      · rw [uq39.off (by omega)]; exact uq32.at
      · exact uq39.at
    · have hji : j < i := by omega
      have hk4 : k = 0 ∨ k = 1 ∨ k = 2 ∨ k = 3 := by omega
      rcases hk4 with rfl | rfl | rfl | rfl
      · rw [uq39.off (by omega), uq32.off (by omega), uq25.off (by omega), uq18.ne e]; exact hin 0 (by decide) j hji
      · rw [uq39.off (by omega), uq32.off (by omega), uq25.ne e, uq18.off (by omega)]; exact hin 1 (by decide) j hji
      · rw [uq39.off (by omega), uq32.ne e, uq25.off (by omega), uq18.off (by omega)]; exact hin 2 (by decide) j hji
      · rw [uq39.ne e, uq32.off (by omega), uq25.off (by omega), uq18.off (by omega)]; exact hin 3 (by decide) j hji
theorem beginOn_loop {I0 : IT} {J : JT} {F : FT} {w r n : Nat} {ρ : SN} (hF : Fok F) (hw : isW w) (hr : isR r) : ∀ (d i : Nat), i + d = 6 → ∀ (I : IT), (atR I r ρ n) → (∀ k, k < 4 → ∀ j, j < i → I (w + 1 + k) j = nI (beginN ρ n k j)) → (offW w I0 I) → Wp none 65 (fun R => ∃ I2, R = (none, KK, I2, J, F) ∧ atW I2 w (beginN ρ n) ∧ offW w I0 I2) 2 [some (vR w), some (vR r), some (vI (nI i))] [] KK I J F := by
  intro d
  induction d with
  | zero =>
    intro i hid I hR hin hoff
    exact beginOn_step hF hw hr i (by omega) I hR hin hoff (fun i' hlt => absurd hlt (by omega))
  | succ d ih =>
    intro i hid I hR hin hoff
    exact beginOn_step hF hw hr i (by omega) I hR hin hoff (fun i' hlt he => ih i' (by omega))

set_option maxRecDepth 4000 in
theorem c_beginOn {I0 : IT} {J : JT} {F : FT} {w r n : Nat} {ρ : SN} (hF : Fok F) (hw : isW w) (hr : isR r) (hR : atR I0 r ρ n) : Sp 65 [vR w, vR r] KK I0 J F (fun R => ∃ I2, R = (none, KK, I2, J, F) ∧ atW I2 w (beginN ρ n) ∧ offW w I0 I2) := by
  refine Sp.mk2 (Nat.le_of_ble_eq_true rfl) (L2 := [_, _, _]) rfl ?_
  refine wp_icN (pc := 0) (m := 0) d_65_0 (by decide) ?_
  refine wq_istore_n (pc := 1) (L2 := [_, _, _]) (i := 2) d_65_1 rfl (Nat.le_of_ble_eq_true rfl) rfl rfl ?_
  exact beginOn_loop hF hw hr 6 0 (by omega) I0 hR (fun k hk j hj => absurd hj (by omega)) offW.rf
set_option maxRecDepth 4000 in
theorem c_isContent {I : IT} {J : JT} {F : FT} {w r n j : Nat} {ρ σ : SN} (hF : Fok F) (hw : isW w) (hr : isR r) (hA : atW I w σ) (hR : atR I r ρ n) (hj : j < n) (hρ : ρ 2 j ≤ 9) (hb : σ 2 j < 2 ^ 31) : Sp 71 [vR w, vR r, vI (nI j)] KK I J F (fun R => R = (some (vI (b2 (decide (ρ 2 j ≤ σ 2 j)))), KK, I, J, F)) := by
  have hj6 : j < 6 := by have := hR.1; omega
  refine Sp.mk2 (Nat.le_of_ble_eq_true rfl) (L2 := [_, _, _]) rfl ?_
  refine wp_aload_n (pc := 0) (i := 0) d_71_0 rfl rfl ?_
  refine wp_iload_n (pc := 1) (i := 2) d_71_1 rfl rfl ?_
  refine wp_callV1p (pc := 2) d_71_2 lk_8_41 (by decide) rfl (Nat.le_of_ble_eq_true rfl) (kW hw) rfl (c_gotBy hF hw hj6 (hA.1 2 (by decide) j hj6)) ?_
  refine wp_aload_n (pc := 5) (i := 1) d_71_5 rfl rfl ?_
  refine wp_iload_n (pc := 6) (i := 2) d_71_6 rfl rfl ?_
  refine wp_callV1p (pc := 7) d_71_7 lk_8_45 (by decide) rfl (Nat.le_of_ble_eq_true rfl) (kR hr) rfl (c_wantOf hF hr hR hj) ?_
  refine wp_icmpN_lt (pc := 10) (tgt := 17) d_71_10 (by decide) hb (by omega) (fun zq10 => ?_) (fun zq10 => ?_)
  · refine wp_icN (pc := 17) (m := 0) d_71_17 (by decide) ?_
    refine wp_iret (pc := 18) d_71_18 (Or.inr ⟨rfl, by decide⟩) ?_
    rw [show decide (ρ 2 j ≤ σ 2 j) = false from decide_eq_false (by omega)]; rfl
  · refine wp_icN (pc := 13) (m := 1) d_71_13 (by decide) ?_
    refine wp_goto (pc := 14) (tgt := 18) d_71_14 (by decide) ?_
    refine wp_iret (pc := 18) d_71_18 (Or.inr ⟨rfl, by decide⟩) ?_
    rw [show decide (ρ 2 j ≤ σ 2 j) = true from decide_eq_true (by omega)]; rfl
/-- a set as bits, up to n -/
def bitsN (p : Nat → Bool) : Nat → Nat
  | 0 => 0
  | n + 1 => bitsN p n + if p n then 2 ^ n else 0
theorem bitsN_lt (p : Nat → Bool) : ∀ n, bitsN p n < 2 ^ n
  | 0 => Nat.zero_lt_one
  | n + 1 => by
    have := bitsN_lt p n
    have h2 : 2 ^ (n + 1) = 2 ^ n + 2 ^ n := by rw [Nat.pow_succ]; omega
    unfold bitsN
    split <;> omega
theorem or_c : ∀ i, i < 6 → ∀ x, x < 2 ^ i → nI x ||| nI (2 ^ i) = nI (x + 2 ^ i) := by decide +kernel
/-- who has enough -/
def enN (ρ σ : SN) (j : Nat) : Bool := decide (ρ 2 j ≤ σ 2 j)
set_option maxRecDepth 4000 in
theorem contentBits_step {I : IT} {J : JT} {F : FT} {w r n : Nat} {ρ σ : SN} (hF : Fok F) (hw : isW w) (hr : isR r) (hA : atW I w σ) (hR : atR I r ρ n) (hn6 : n ≤ 6) (hρ : ∀ k j, ρ k j ≤ 9) (hb : ∀ j, j < 6 → σ 2 j < 2 ^ 31) (i : Nat) (hi0 : i ≤ n) (x : Nat) (hx : x = bitsN (enN ρ σ) i)
    (ih0 : ∀ i', i < n → i' = i + 1 → ∀ (x : Nat), (x = bitsN (enN ρ σ) i') → Wp none 82 (fun R => R = (some (vI (nI (bitsN (enN ρ σ) n))), KK, I, J, F)) 4 [some (vR w), some (vR r), some (vI (nI x)), some (vI (nI i'))] [] KK I J F) : Wp none 82 (fun R => R = (some (vI (nI (bitsN (enN ρ σ) n))), KK, I, J, F)) 4 [some (vR w), some (vR r), some (vI (nI x)), some (vI (nI i))] [] KK I J F := by
  refine wp_aload_n (pc := 4) (i := 1) d_82_4 rfl rfl ?_
  refine wp_iload_n (pc := 5) (i := 3) d_82_5 rfl rfl ?_
  refine wp_callV1p (pc := 6) d_82_6 lk_8_50 (by decide) rfl (Nat.le_of_ble_eq_true rfl) (kR hr) rfl (c_has hr hR (nI i)) ?_
  refine wp_ifB_eq (pc := 9) (tgt := 40) d_82_9 (by decide) (fun zq9 => ?_) (fun zq9 => ?_)
  · refine wp_iload_n (pc := 40) (i := 2) d_82_40 rfl rfl ?_
    exact wp_iret (pc := 41) d_82_41 (Or.inl rfl) (by rw [hx, show i = n by rw [inR_nI (by omega)] at zq9; have := of_decide_eq_false zq9; omega])
  · have hin : i < n := by rw [inR_nI (by omega)] at zq9; exact of_decide_eq_true zq9
    have hi6 : i < 6 := by omega
    refine wp_iload_n (pc := 12) (i := 3) d_82_12 rfl rfl ?_
    refine wp_bpN (pc := 13) (m := 6) d_82_13 (by decide) ?_
    refine wp_icmpN_ge (pc := 15) (tgt := 40) d_82_15 (by decide) (by omega) (by decide) (fun zq15 => ?_) (fun zq15 => ?_)
    · refine wp_iload_n (pc := 40) (i := 2) d_82_40 rfl rfl ?_
      exact absurd zq15 (by omega)
    · refine wp_aload_n (pc := 18) (i := 0) d_82_18 rfl rfl ?_
      refine wp_aload_n (pc := 19) (i := 1) d_82_19 rfl rfl ?_
      refine wp_iload_n (pc := 20) (i := 3) d_82_20 rfl rfl ?_
      refine wp_callV2p (pc := 21) d_82_21 lk_8_53 (by decide) rfl (Nat.le_of_ble_eq_true rfl) (kW hw) rfl (c_isContent hF hw hr hA hR hin (hρ 2 i) (hb i hi6)) ?_
      refine wp_ifB_eq (pc := 24) (tgt := 34) d_82_24 (by decide) (fun zq24 => ?_) (fun zq24 => ?_)
      · refine wq_iincN (pc := 34) (L2 := [_, _, _, _]) d_82_34 rfl (b := 1) (by decide) rfl rfl ?_
        refine wp_goto (pc := 37) (tgt := 4) d_82_37 (by decide) ?_
        exact ih0 (i + 1) hin rfl _ (by rw [hx]; show _ = bitsN (enN ρ σ) i + (if enN ρ σ i then 2 ^ i else 0); rw [if_neg (by unfold enN; rw [zq24]; decide)]; try rw [Nat.add_zero])
      · refine wp_iload_n (pc := 27) (i := 2) d_82_27 rfl rfl ?_
        refine wp_iload_n (pc := 28) (i := 3) d_82_28 rfl rfl ?_
        refine wp_callSN1p (pc := 29) d_82_29 lk_8_57 (by decide) rfl (Nat.le_of_ble_eq_true rfl) (c_bit (by omega)) ?_
        refine wp_ior (pc := 32) d_82_32 ?_
        rw [or_c i hi6 _ (by rw [hx]; exact bitsN_lt _ _)]
        refine wq_istore_n (pc := 33) (L2 := [_, _, _, _]) (i := 2) d_82_33 rfl (Nat.le_of_ble_eq_true rfl) rfl rfl ?_
        refine wq_iincN (pc := 34) (L2 := [_, _, _, _]) d_82_34 rfl (b := 1) (by decide) rfl rfl ?_
        refine wp_goto (pc := 37) (tgt := 4) d_82_37 (by decide) ?_
        exact ih0 (i + 1) hin rfl _ (by rw [hx]; show _ = bitsN (enN ρ σ) i + (if enN ρ σ i then 2 ^ i else 0); rw [if_pos (by unfold enN; rw [zq24])]; try rw [Nat.add_zero])
theorem contentBits_loop {I : IT} {J : JT} {F : FT} {w r n : Nat} {ρ σ : SN} (hF : Fok F) (hw : isW w) (hr : isR r) (hA : atW I w σ) (hR : atR I r ρ n) (hn6 : n ≤ 6) (hρ : ∀ k j, ρ k j ≤ 9) (hb : ∀ j, j < 6 → σ 2 j < 2 ^ 31) : ∀ (d i : Nat), i + d = n → ∀ (x : Nat), (x = bitsN (enN ρ σ) i) → Wp none 82 (fun R => R = (some (vI (nI (bitsN (enN ρ σ) n))), KK, I, J, F)) 4 [some (vR w), some (vR r), some (vI (nI x)), some (vI (nI i))] [] KK I J F := by
  intro d
  induction d with
  | zero =>
    intro i hid x hx
    exact contentBits_step hF hw hr hA hR hn6 hρ hb i (by omega) x hx (fun i' hlt => absurd hlt (by omega))
  | succ d ih =>
    intro i hid x hx
    exact contentBits_step hF hw hr hA hR hn6 hρ hb i (by omega) x hx (fun i' hlt he => ih i' (by omega))

set_option maxRecDepth 4000 in
theorem c_contentBits {I : IT} {J : JT} {F : FT} {w r n : Nat} {ρ σ : SN} (hF : Fok F) (hw : isW w) (hr : isR r) (hA : atW I w σ) (hR : atR I r ρ n) (hρ : ∀ k j, ρ k j ≤ 9) (hb : ∀ j, j < 6 → σ 2 j < 2 ^ 31) : Sp 82 [vR w, vR r] KK I J F (fun R => R = (some (vI (nI (bitsN (enN ρ σ) n))), KK, I, J, F)) := by
  refine Sp.mk2 (Nat.le_of_ble_eq_true rfl) (L2 := [_, _, _, _]) rfl ?_
  refine wp_icN (pc := 0) (m := 0) d_82_0 (by decide) ?_
  refine wq_istore_n (pc := 1) (L2 := [_, _, _, _]) (i := 2) d_82_1 rfl (Nat.le_of_ble_eq_true rfl) rfl rfl ?_
  refine wp_icN (pc := 2) (m := 0) d_82_2 (by decide) ?_
  refine wq_istore_n (pc := 3) (L2 := [_, _, _, _]) (i := 3) d_82_3 rfl (Nat.le_of_ble_eq_true rfl) rfl rfl ?_
  exact contentBits_loop hF hw hr hA hR hR.1 hρ hb n 0 (by omega) 0 rfl
def sumN (f : Nat → Nat) : Nat → Nat
  | 0 => 0
  | n + 1 => sumN f n + f n
set_option maxRecDepth 4000 in
theorem waterOnAll_step {I : IT} {J : JT} {F : FT} {w : Nat} {σ : SN} (hF : Fok F) (hw : isW w) (hA : atW I w σ) (i : Nat) (hi0 : i ≤ 6) (x : Nat) (hx : x = sumN (σ 0) i)
    (ih0 : ∀ i', i < 6 → i' = i + 1 → ∀ (x : Nat), (x = sumN (σ 0) i') → Wp none 84 (fun R => R = (some (vI (nI (sumN (σ 0) 6))), KK, I, J, F)) 4 [some (vR w), some (vI (nI x)), some (vI (nI i'))] [] KK I J F) : Wp none 84 (fun R => R = (some (vI (nI (sumN (σ 0) 6))), KK, I, J, F)) 4 [some (vR w), some (vI (nI x)), some (vI (nI i))] [] KK I J F := by
  refine wp_iload_n (pc := 4) (i := 2) d_84_4 rfl rfl ?_
  refine wp_bpN (pc := 5) (m := 6) d_84_5 (by decide) ?_
  refine wp_icmpN_ge (pc := 7) (tgt := 25) d_84_7 (by decide) (by omega) (by decide) (fun zq7 => ?_) (fun zq7 => ?_)
  · refine wp_iload_n (pc := 25) (i := 1) d_84_25 rfl rfl ?_
    exact wp_iret (pc := 26) d_84_26 (Or.inl rfl) (by rw [hx, show i = 6 by omega])
  · refine wp_iload_n (pc := 10) (i := 1) d_84_10 rfl rfl ?_
    refine wp_aload_n (pc := 11) (i := 0) d_84_11 rfl rfl ?_
    refine wp_gA (pc := 12) d_84_12 fl_8_9 (kW hw) ft_7_0 (fW hF hw (k := 0) (by decide)) ?_
    refine wp_iload_n (pc := 15) (i := 2) d_84_15 rfl rfl ?_
    refine wp_aL (pc := 16) (j := i) d_84_16 (kWa hw (k := 0) (by decide)) rfl zq7 (by decide) (hA.1 0 (by decide) _ zq7) ?_
    refine wp_iaddN (pc := 17) d_84_17 ?_
    refine wq_istore_n (pc := 18) (L2 := [_, _, _]) (i := 1) d_84_18 rfl (Nat.le_of_ble_eq_true rfl) rfl rfl ?_
    refine wq_iincN (pc := 19) (L2 := [_, _, _]) d_84_19 rfl (b := 1) (by decide) rfl rfl ?_
    refine wp_goto (pc := 22) (tgt := 4) d_84_22 (by decide) ?_
    exact ih0 (i + 1) zq7 rfl _ (by rw [hx]; rfl)
theorem waterOnAll_loop {I : IT} {J : JT} {F : FT} {w : Nat} {σ : SN} (hF : Fok F) (hw : isW w) (hA : atW I w σ) : ∀ (d i : Nat), i + d = 6 → ∀ (x : Nat), (x = sumN (σ 0) i) → Wp none 84 (fun R => R = (some (vI (nI (sumN (σ 0) 6))), KK, I, J, F)) 4 [some (vR w), some (vI (nI x)), some (vI (nI i))] [] KK I J F := by
  intro d
  induction d with
  | zero =>
    intro i hid x hx
    exact waterOnAll_step hF hw hA i (by omega) x hx (fun i' hlt => absurd hlt (by omega))
  | succ d ih =>
    intro i hid x hx
    exact waterOnAll_step hF hw hA i (by omega) x hx (fun i' hlt he => ih i' (by omega))

set_option maxRecDepth 4000 in
theorem c_waterOnAll {I : IT} {J : JT} {F : FT} {w : Nat} {σ : SN} (hF : Fok F) (hw : isW w) (hA : atW I w σ) : Sp 84 [vR w] KK I J F (fun R => R = (some (vI (nI (sumN (σ 0) 6))), KK, I, J, F)) := by
  refine Sp.mk2 (Nat.le_of_ble_eq_true rfl) (L2 := [_, _, _]) rfl ?_
  refine wp_icN (pc := 0) (m := 0) d_84_0 (by decide) ?_
  refine wq_istore_n (pc := 1) (L2 := [_, _, _]) (i := 1) d_84_1 rfl (Nat.le_of_ble_eq_true rfl) rfl rfl ?_
  refine wp_icN (pc := 2) (m := 0) d_84_2 (by decide) ?_
  refine wq_istore_n (pc := 3) (L2 := [_, _, _]) (i := 2) d_84_3 rfl (Nat.le_of_ble_eq_true rfl) rfl rfl ?_
  exact waterOnAll_loop hF hw hA 6 0 (by omega) 0 rfl
