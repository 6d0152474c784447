def offR (r : Nat) (I I2 : IT) : Prop := ∀ a, (a < r ∨ r + 5 < a) → I2 a = I a
theorem offR.rf {r : Nat} {I : IT} : offR r I I := fun _ _ => rfl
theorem offR.tr {r : Nat} {I I2 I3 : IT} (h : offR r I I2) (h2 : offR r I2 I3) : offR r I I3 := fun a ha => (h2 a ha).trans (h a ha)
theorem offR_up {I I2 : IT} {r k j : Nat} {x : Int32} (u : Up I I2 (r + 1 + k) j x) (hk : k < 5) : offR r I I2 := fun a ha => u.2 a (by omega)
theorem offR_fld {I I2 : IT} {r q : Nat} {x : Int32} (u : Up I I2 r q x) : offR r I I2 := fun a ha => u.2 a (by omega)
theorem atR_keep {I I2 : IT} {r n : Nat} {ρ : SN} (h : atR I r ρ n) (ho : ∀ a, r ≤ a → a ≤ r + 5 → I2 a = I a) : atR I2 r ρ n :=
  ⟨h.1, by rw [ho r (by omega) (by omega)]; exact h.2.1, fun k hk j hj => by rw [ho (r + 1 + k) (by omega) (by omega)]; exact h.2.2 k hk j hj⟩
def addN (ρ : SN) (n a b c d : Nat) : SN := fun k j => if j = n then (if k = 0 then a else if k = 1 then b else if k = 2 then c else if k = 3 then d else 0) else ρ k j
def dryP (ρ : SN) (j : Nat) : Bool := decide (ρ 4 j = 0)
def dryI (ρ : SN) (n : Nat) (x : Int32) : Bool := inR x n && dryP ρ x.toNatClampNeg
theorem bitsN_z {p : Nat → Bool} : ∀ {n : Nat}, (∀ j, j < n → p j = false) → bitsN p n = 0
  | 0, _ => rfl
  | n + 1, h => by
    unfold bitsN
    rw [bitsN_z (fun j hj => h j (by omega)), h n (by omega)]
    rfl
theorem bitsN_p {p : Nat → Bool} : ∀ {n i : Nat}, i < n → p i = true → 0 < bitsN p n
  | 0, i, h, _ => absurd h (by omega)
  | n + 1, i, h, hp => by
    unfold bitsN
    by_cases e : i = n
    · subst e
      rw [hp]
      have := Nat.two_pow_pos i
      simp only [if_true]
      omega
    · have := bitsN_p (p := p) (n := n) (i := i) (by omega) hp
      omega
set_option maxRecDepth 4000 in
theorem c_Rclear {I : IT} {J : JT} {F : FT} {r : Nat} (hr : isR r) : Sp 38 [vR r] KK I J F (fun R => ∃ I2, R = (none, KK, I2, J, F) ∧ Up I I2 r 5 (nI 0)) := by
  refine Sp.mk2 (Nat.le_of_ble_eq_true rfl) (L2 := [_]) rfl ?_
  refine wp_aload_n (pc := 0) (i := 0) d_38_0 rfl rfl ?_
  refine wp_icN (pc := 1) (m := 0) d_38_1 (by decide) ?_
  refine wp_pI (pc := 2) d_38_2 fl_5_27 (kR hr) ft_4_5 rfl (fun Iq2 uq2 => ?_)
  exact wp_vret (pc := 5) d_38_5 rfl ⟨_, rfl, uq2⟩
set_option maxRecDepth 4000 in
theorem c_hasRoom {I : IT} {J : JT} {F : FT} {r n : Nat} {ρ : SN} (hr : isR r) (hR : atR I r ρ n) : Sp 43 [vR r] KK I J F (fun R => R = (some (vI (b2 (decide (n < 6)))), KK, I, J, F)) := by
  have hn6 := hR.1
  refine Sp.mk2 (Nat.le_of_ble_eq_true rfl) (L2 := [_]) rfl ?_
  refine wp_aload_n (pc := 0) (i := 0) d_43_0 rfl rfl ?_
  refine wp_gI (pc := 1) d_43_1 fl_5_27 (kR hr) ft_4_5 hR.2.1 ?_
  refine wp_bpN (pc := 4) (m := 6) d_43_4 (by decide) ?_
  refine wp_icmpN_ge (pc := 6) (tgt := 13) d_43_6 (by decide) (by omega) (by decide) (fun zq6 => ?_) (fun zq6 => ?_)
  · refine wp_icN (pc := 13) (m := 0) d_43_13 (by decide) ?_
    refine wp_iret (pc := 14) d_43_14 (Or.inr ⟨rfl, by decide⟩) ?_
    rw [show decide (n < 6) = false from decide_eq_false (by omega)]; rfl
  · refine wp_icN (pc := 9) (m := 1) d_43_9 (by decide) ?_
    refine wp_goto (pc := 10) (tgt := 14) d_43_10 (by decide) ?_
    refine wp_iret (pc := 14) d_43_14 (Or.inr ⟨rfl, by decide⟩) ?_
    rw [show decide (n < 6) = true from decide_eq_true (by omega)]; rfl
set_option maxRecDepth 4000 in
theorem c_add {I : IT} {J : JT} {F : FT} {r n a b c d : Nat} {ρ : SN} (hF : Fok F) (hr : isR r) (hR : atR I r ρ n) (hn : n < 6) : Sp 39 [vR r, vI (nI a), vI (nI b), vI (nI c), vI (nI d)] KK I J F (fun R => ∃ I2, R = (none, KK, I2, J, F) ∧ atR I2 r (addN ρ n a b c d) (n + 1) ∧ offR r I I2) := by
  refine Sp.mk2 (Nat.le_of_ble_eq_true rfl) (L2 := [_, _, _, _, _]) rfl ?_
  refine wp_aload_n (pc := 0) (i := 0) d_39_0 rfl rfl ?_
  refine wp_gI (pc := 1) d_39_1 fl_5_27 (kR hr) ft_4_5 hR.2.1 ?_
  refine wp_ifN_lt (pc := 4) (tgt := 16) d_39_4 (by decide) (by omega) ?_
  refine wp_aload_n (pc := 7) (i := 0) d_39_7 rfl rfl ?_
  refine wp_gI (pc := 8) d_39_8 fl_5_27 (kR hr) ft_4_5 hR.2.1 ?_
  refine wp_bpN (pc := 11) (m := 6) d_39_11 (by decide) ?_
  refine wp_icmpN_lt (pc := 13) (tgt := 17) d_39_13 (by decide) (by omega) (by decide) (fun zq13 => ?_) (fun zq13 => ?_)
  · refine wp_aload_n (pc := 17) (i := 0) d_39_17 rfl rfl ?_
    refine wp_gA (pc := 18) d_39_18 fl_5_9 (kR hr) ft_4_0 (fR hF hr (k := 0) (by decide)) ?_
    refine wp_aload_n (pc := 21) (i := 0) d_39_21 rfl rfl ?_
    refine wp_gI (pc := 22) d_39_22 fl_5_27 (kR hr) ft_4_5 hR.2.1 ?_
    refine wp_iload_n (pc := 25) (i := 1) d_39_25 rfl rfl ?_
    refine wp_aS (pc := 26) (j := n) d_39_26 (kRa hr (k := 0) (by decide)) rfl hn (by decide) (fun Iq26 uq26 => ?_)
    refine wp_aload_n (pc := 27) (i := 0) d_39_27 rfl rfl ?_
    refine wp_gA (pc := 28) d_39_28 fl_5_15 (kR hr) ft_4_1 (fR hF hr (k := 1) (by decide)) ?_
    refine wp_aload_n (pc := 31) (i := 0) d_39_31 rfl rfl ?_
    refine wp_gI (pc := 32) d_39_32 fl_5_27 (kR hr) ft_4_5 ((uq26.off (by omega)).trans hR.2.1) ?_
    refine wp_iload_n (pc := 35) (i := 2) d_39_35 rfl rfl ?_
    refine wp_aS (pc := 36) (j := n) d_39_36 (kRa hr (k := 1) (by decide)) rfl hn (by decide) (fun Iq36 uq36 => ?_)
    refine wp_aload_n (pc := 37) (i := 0) d_39_37 rfl rfl ?_
    refine wp_gA (pc := 38) d_39_38 fl_5_18 (kR hr) ft_4_2 (fR hF hr (k := 2) (by decide)) ?_
    refine wp_aload_n (pc := 41) (i := 0) d_39_41 rfl rfl ?_
    refine wp_gI (pc := 42) d_39_42 fl_5_27 (kR hr) ft_4_5 ((uq36.off (by omega)).trans ((uq26.off (by omega)).trans hR.2.1)) ?_
    refine wp_iload_n (pc := 45) (i := 3) d_39_45 rfl rfl ?_
    refine wp_aS (pc := 46) (j := n) d_39_46 (kRa hr (k := 2) (by decide)) rfl hn (by decide) (fun Iq46 uq46 => ?_)
    refine wp_aload_n (pc := 47) (i := 0) d_39_47 rfl rfl ?_
    refine wp_gA (pc := 48) d_39_48 fl_5_21 (kR hr) ft_4_3 (fR hF hr (k := 3) (by decide)) ?_
    refine wp_aload_n (pc := 51) (i := 0) d_39_51 rfl rfl ?_
    refine wp_gI (pc := 52) d_39_52 fl_5_27 (kR hr) ft_4_5 ((uq46.off (by omega)).trans ((uq36.off (by omega)).trans ((uq26.off (by omega)).trans hR.2.1))) ?_
    refine wp_iload (pc := 55) d_39_55 rfl ?_
    refine wp_aS (pc := 57) (j := n) d_39_57 (kRa hr (k := 3) (by decide)) rfl hn (by decide) (fun Iq57 uq57 => ?_)
    refine wp_aload_n (pc := 58) (i := 0) d_39_58 rfl rfl ?_
    refine wp_gA (pc := 59) d_39_59 fl_5_24 (kR hr) ft_4_4 (fR hF hr (k := 4) (by decide)) ?_
    refine wp_aload_n (pc := 62) (i := 0) d_39_62 rfl rfl ?_
    refine wp_gI (pc := 63) d_39_63 fl_5_27 (kR hr) ft_4_5 ((uq57.off (by omega)).trans ((uq46.off (by omega)).trans ((uq36.off (by omega)).trans ((uq26.off (by omega)).trans hR.2.1)))) ?_
    refine wp_icN (pc := 66) (m := 0) d_39_66 (by decide) ?_
    refine wp_aS (pc := 67) (j := n) d_39_67 (kRa hr (k := 4) (by decide)) rfl hn (by decide) (fun Iq67 uq67 => ?_)
    refine wp_aload_n (pc := 68) (i := 0) d_39_68 rfl rfl ?_
    refine wp_dup (pc := 69) d_39_69 rfl ?_
    refine wp_gI (pc := 70) d_39_70 fl_5_27 (kR hr) ft_4_5 ((uq67.off (by omega)).trans ((uq57.off (by omega)).trans ((uq46.off (by omega)).trans ((uq36.off (by omega)).trans ((uq26.off (by omega)).trans hR.2.1))))) ?_
    refine wp_icN (pc := 73) (m := 1) d_39_73 (by decide) ?_
    refine wp_iaddN (pc := 74) d_39_74 ?_
    refine wp_pI (pc := 75) d_39_75 fl_5_27 (kR hr) ft_4_5 rfl (fun Iq75 uq75 => ?_)
    refine wp_vret (pc := 78) d_39_78 rfl ⟨_, rfl, ⟨by omega, uq75.at, fun k hk j hj => ?_⟩, ((((offR_up (k := 0) uq26 (by decide)).tr (offR_up (k := 1) uq36 (by decide))).tr ((offR_up (k := 2) uq46 (by decide)).tr (offR_up (k := 3) uq57 (by decide)))).tr (offR_up (k := 4) uq67 (by decide))).tr (offR_fld uq75)⟩
    rw [uq75.off (by omega)]
    unfold addN
    have hk5 : k = 0 ∨ k = 1 ∨ k = 2 ∨ k = 3 ∨ k = 4 := by omega
    by_cases e : j = n
    · subst e; rcases hk5 with rfl | rfl | rfl | rfl | rfl
      · rw [uq67.off (by omega), uq57.off (by omega), uq46.off (by omega), uq36.off (by omega)]; rw [if_pos rfl]; exact uq26.at
      · rw [uq67.off (by omega), uq57.off (by omega), uq46.off (by omega)]; rw [if_pos rfl]; exact uq36.at
      · rw [uq67.off (by omega), uq57.off (by omega)]; rw [if_pos rfl]; exact uq46.at
      · rw [uq67.off (by omega)]; rw [if_pos rfl]; exact uq57.at
      · rw [if_pos rfl]; exact uq67.at
    · have hjn : j < n := by omega
      rcases hk5 with rfl | rfl | rfl | rfl | rfl
      · rw [uq67.off (by omega), uq57.off (by omega), uq46.off (by omega), uq36.off (by omega), uq26.ne e, if_neg e]; exact hR.2.2 0 (by decide) j hjn
      · rw [uq67.off (by omega), uq57.off (by omega), uq46.off (by omega), uq36.ne e, uq26.off (by omega), if_neg e]; exact hR.2.2 1 (by decide) j hjn
      · rw [uq67.off (by omega), uq57.off (by omega), uq46.ne e, uq36.off (by omega), uq26.off (by omega), if_neg e]; exact hR.2.2 2 (by decide) j hjn
      · rw [uq67.off (by omega), uq57.ne e, uq46.off (by omega), uq36.off (by omega), uq26.off (by omega), if_neg e]; exact hR.2.2 3 (by decide) j hjn
      · rw [uq67.ne e, uq57.off (by omega), uq46.off (by omega), uq36.off (by omega), uq26.off (by omega), if_neg e]; exact hR.2.2 4 (by decide) j hjn
  · exact absurd zq13 (by omega)
set_option maxRecDepth 4000 in
theorem c_hasDry {I : IT} {J : JT} {F : FT} {r n : Nat} {ρ : SN} (hF : Fok F) (hr : isR r) (hR : atR I r ρ n) (hρ : ∀ j, ρ 4 j < 2 ^ 31) (x : Int32) : Sp 40 [vR r, vI x] KK I J F (fun R => R = (some (vI (b2 (dryI ρ n x))), KK, I, J, F)) := by
  have hn6 := hR.1
  refine Sp.mk2 (Nat.le_of_ble_eq_true rfl) (L2 := [_, _]) rfl ?_
  refine wp_aload_n (pc := 0) (i := 0) d_40_0 rfl rfl ?_
  refine wp_iload_n (pc := 1) (i := 1) d_40_1 rfl rfl ?_
  refine wp_callV1p (pc := 2) d_40_2 lk_5_31 (by decide) rfl (Nat.le_of_ble_eq_true rfl) (kR hr) rfl (c_has hr hR x) ?_
  refine wp_ifB_eq (pc := 5) (tgt := 21) d_40_5 (by decide) (fun zq5 => ?_) (fun zq5 => ?_)
  · refine wp_icN (pc := 21) (m := 0) d_40_21 (by decide) ?_
    refine wp_iret (pc := 22) d_40_22 (Or.inr ⟨rfl, by decide⟩) ?_
    unfold dryI dryP
    rw [zq5]; rfl
  · obtain ⟨j, hj, hxj⟩ := inR_t zq5 (by omega)
    subst hxj
    have hcl : (nI j).toNatClampNeg = j := nI_clamp (by omega)
    refine wp_aload_n (pc := 8) (i := 0) d_40_8 rfl rfl ?_
    refine wp_gA (pc := 9) d_40_9 fl_5_24 (kR hr) ft_4_4 (fR hF hr (k := 4) (by decide)) ?_
    refine wp_iload_n (pc := 12) (i := 1) d_40_12 rfl rfl ?_
    refine wp_aL (pc := 13) (j := j) d_40_13 (kRa hr (k := 4) (by decide)) rfl (by omega) (by decide) (hR.2.2 4 (by decide) j hj) ?_
    refine wp_ifN_ne (pc := 14) (tgt := 21) d_40_14 (by decide) (hρ j) (fun zq14 => ?_) (fun zq14 => ?_)
    · refine wp_icN (pc := 21) (m := 0) d_40_21 (by decide) ?_
      refine wp_iret (pc := 22) d_40_22 (Or.inr ⟨rfl, by decide⟩) ?_
      unfold dryI dryP
      rw [zq5, hcl, decide_eq_false zq14]; rfl
    · refine wp_icN (pc := 17) (m := 1) d_40_17 (by decide) ?_
      refine wp_goto (pc := 18) (tgt := 22) d_40_18 (by decide) ?_
      refine wp_iret (pc := 22) d_40_22 (Or.inr ⟨rfl, by decide⟩) ?_
      unfold dryI dryP
      rw [zq5, hcl, decide_eq_true zq14]; rfl
set_option maxRecDepth 4000 in
theorem hasAnyDry_step {I : IT} {J : JT} {F : FT} {r n : Nat} {ρ : SN} (hF : Fok F) (hr : isR r) (hR : atR I r ρ n) (hn6 : n ≤ 6) (hρ : ∀ j, ρ 4 j < 2 ^ 31) (i : Nat) (hi0 : i ≤ n)  (hz : ∀ j, j < i → dryP ρ j = false)
    (ih0 : ∀ i', i < n → i' = i + 1 → (∀ j, j < i' → dryP ρ j = false) → Wp none 44 (fun R => R = (some (vI (b2 (decide (0 < bitsN (dryP ρ) n)))), KK, I, J, F)) 2 [some (vR r), some (vI (nI i'))] [] KK I J F) : Wp none 44 (fun R => R = (some (vI (b2 (decide (0 < bitsN (dryP ρ) n)))), KK, I, J, F)) 2 [some (vR r), some (vI (nI i))] [] KK I J F := by
  refine wp_iload_n (pc := 2) (i := 1) d_44_2 rfl rfl ?_
  refine wp_aload_n (pc := 3) (i := 0) d_44_3 rfl rfl ?_
  refine wp_gI (pc := 4) d_44_4 fl_5_27 (kR hr) ft_4_5 hR.2.1 ?_
  refine wp_icmpN_ge (pc := 7) (tgt := 26) d_44_7 (by decide) (by omega) (by omega) (fun zq7 => ?_) (fun zq7 => ?_)
  · refine wp_icN (pc := 26) (m := 0) d_44_26 (by decide) ?_
    exact wp_iret (pc := 27) d_44_27 (Or.inr ⟨rfl, by decide⟩) (by rw [decide_eq_false (by rw [bitsN_z (fun j hj => hz j (by omega))]; decide)]; rfl)
  · have hdi : dryI ρ n (nI i) = dryP ρ i := by unfold dryI; rw [inR_nI (by omega), decide_eq_true zq7, nI_clamp (by omega)]; rfl
    refine wp_aload_n (pc := 10) (i := 0) d_44_10 rfl rfl ?_
    refine wp_iload_n (pc := 11) (i := 1) d_44_11 rfl rfl ?_
    refine wp_callV1p (pc := 12) d_44_12 lk_5_35 (by decide) rfl (Nat.le_of_ble_eq_true rfl) (kR hr) rfl (c_hasDry hF hr hR hρ (nI i)) ?_
    refine wp_ifB_eq (pc := 15) (tgt := 20) d_44_15 (by decide) (fun zq15 => ?_) (fun zq15 => ?_)
    · refine wq_iincN (pc := 20) (L2 := [_, _]) d_44_20 rfl (b := 1) (by decide) rfl rfl ?_
      refine wp_goto (pc := 23) (tgt := 2) d_44_23 (by decide) ?_
      exact ih0 (i + 1) zq7 rfl (fun j hj => (Nat.lt_succ_iff_lt_or_eq.mp hj).elim (hz j) (fun e => by rw [e]; rw [hdi] at zq15; exact zq15))
    · refine wp_icN (pc := 18) (m := 1) d_44_18 (by decide) ?_
      exact wp_iret (pc := 19) d_44_19 (Or.inr ⟨rfl, by decide⟩) (by rw [decide_eq_true (bitsN_p zq7 (by rw [hdi] at zq15; exact zq15))]; rfl)
theorem hasAnyDry_loop {I : IT} {J : JT} {F : FT} {r n : Nat} {ρ : SN} (hF : Fok F) (hr : isR r) (hR : atR I r ρ n) (hn6 : n ≤ 6) (hρ : ∀ j, ρ 4 j < 2 ^ 31) : ∀ (d i : Nat), i + d = n → (∀ j, j < i → dryP ρ j = false) → Wp none 44 (fun R => R = (some (vI (b2 (decide (0 < bitsN (dryP ρ) n)))), KK, I, J, F)) 2 [some (vR r), some (vI (nI i))] [] KK I J F := by
  intro d
  induction d with
  | zero =>
    intro i hid  hz
    exact hasAnyDry_step hF hr hR hn6 hρ i (by omega)  hz (fun i' hlt => absurd hlt (by omega))
  | succ d ih =>
    intro i hid  hz
    exact hasAnyDry_step hF hr hR hn6 hρ i (by omega)  hz (fun i' hlt he => ih i' (by omega))

set_option maxRecDepth 4000 in
theorem c_hasAnyDry {I : IT} {J : JT} {F : FT} {r n : Nat} {ρ : SN} (hF : Fok F) (hr : isR r) (hR : atR I r ρ n) (hρ : ∀ j, ρ 4 j < 2 ^ 31) : Sp 44 [vR r] KK I J F (fun R => R = (some (vI (b2 (decide (0 < bitsN (dryP ρ) n)))), KK, I, J, F)) := by
  refine Sp.mk2 (Nat.le_of_ble_eq_true rfl) (L2 := [_, _]) rfl ?_
  refine wp_icN (pc := 0) (m := 0) d_44_0 (by decide) ?_
  refine wq_istore_n (pc := 1) (L2 := [_, _]) (i := 1) d_44_1 rfl (Nat.le_of_ble_eq_true rfl) rfl rfl ?_
  exact hasAnyDry_loop hF hr hR hR.1 hρ n 0 (by omega) (fun j hj => absurd hj (by omega))
set_option maxRecDepth 4000 in
theorem c_tellWater {I : IT} {J : JT} {F : FT} {r n j v : Nat} {ρ : SN} (hF : Fok F) (hr : isR r) (hR : atR I r ρ n) (hj : j < n) : Sp 42 [vR r, vI (nI j), vI (nI v)] KK I J F (fun R => ∃ I2, R = (none, KK, I2, J, F) ∧ atR I2 r (s2 ρ 4 j v) n ∧ offR r I I2) := by
  have hj6 : j < 6 := by have := hR.1; omega
  have hin : inR (nI j) n = true := by rw [inR_nI (by omega)]; exact decide_eq_true hj
  refine Sp.mk2 (Nat.le_of_ble_eq_true rfl) (L2 := [_, _, _]) rfl ?_
  refine wp_aload_n (pc := 0) (i := 0) d_42_0 rfl rfl ?_
  refine wp_iload_n (pc := 1) (i := 1) d_42_1 rfl rfl ?_
  refine wp_callV1p (pc := 2) d_42_2 lk_5_31 (by decide) rfl (Nat.le_of_ble_eq_true rfl) (kR hr) rfl (c_has hr hR (nI j)) ?_
  refine wp_ifB_eq (pc := 5) (tgt := 15) d_42_5 (by decide) (fun zq5 => ?_) (fun zq5 => ?_)
  · exact absurd (zq5.symm.trans hin) (by decide)
  · refine wp_aload_n (pc := 8) (i := 0) d_42_8 rfl rfl ?_
    refine wp_gA (pc := 9) d_42_9 fl_5_24 (kR hr) ft_4_4 (fR hF hr (k := 4) (by decide)) ?_
    refine wp_iload_n (pc := 12) (i := 1) d_42_12 rfl rfl ?_
    refine wp_iload_n (pc := 13) (i := 2) d_42_13 rfl rfl ?_
    refine wp_aS (pc := 14) (j := j) d_42_14 (kRa hr (k := 4) (by decide)) rfl hj6 (by decide) (fun Iq14 uq14 => ?_)
    refine wp_vret (pc := 15) d_42_15 rfl ⟨_, rfl, ⟨hR.1, (uq14.off (by omega)).trans hR.2.1, fun k hk j2 hj2 => ?_⟩, offR_up (k := 4) uq14 (by decide)⟩
    by_cases e : k = 4
    · subst e
      by_cases e2 : j2 = j
      · subst e2; rw [s2_eq]; exact uq14.at
      · rw [s2_nj e2]; exact (uq14.ne e2).trans (hR.2.2 4 (by decide) j2 hj2)
    · rw [s2_nk e]; exact (uq14.off (by omega)).trans (hR.2.2 k hk j2 hj2)
theorem isR5 : isR 5 := Or.inl rfl
theorem isR12 : isR 12 := Or.inr rfl
set_option maxRecDepth 4000 in
theorem Rbecome_step {I0 : IT} {J : JT} {F : FT} {n : Nat} {ρ : SN} (hF : Fok F) (hn6 : n ≤ 6) (i : Nat) (hi0 : i ≤ n) (I : IT) (hR : atR I 5 ρ n) (hD : atR I 12 ρ i) (hoff : offR 12 I0 I)
    (ih0 : ∀ i', i < n → i' = i + 1 → ∀ (I : IT), (atR I 5 ρ n) → (atR I 12 ρ i') → (offR 12 I0 I) → Wp none 45 (fun R => ∃ I2, R = (none, KK, I2, J, F) ∧ atR I2 12 ρ n ∧ offR 12 I0 I2) 6 [some (vR 12), some (vR 5), some (vI (nI i'))] [] KK I J F) : Wp none 45 (fun R => ∃ I2, R = (none, KK, I2, J, F) ∧ atR I2 12 ρ n ∧ offR 12 I0 I2) 6 [some (vR 12), some (vR 5), some (vI (nI i))] [] KK I J F := by
  refine wp_aload_n (pc := 6) (i := 1) d_45_6 rfl rfl ?_
  refine wp_iload_n (pc := 7) (i := 2) d_45_7 rfl rfl ?_
  refine wp_callV1p (pc := 8) d_45_8 lk_5_31 (by decide) rfl (Nat.le_of_ble_eq_true rfl) (kR isR5) rfl (c_has isR5 hR (nI i)) ?_
  refine wp_ifB_eq (pc := 11) (tgt := 65) d_45_11 (by decide) (fun zq11 => ?_) (fun zq11 => ?_)
  · exact wp_vret (pc := 65) d_45_65 rfl ⟨_, rfl, (by rw [← show i = n by rw [inR_nI (by omega)] at zq11; have := of_decide_eq_false zq11; omega]; exact hD), hoff⟩
  · have hin : i < n := by rw [inR_nI (by omega)] at zq11; exact of_decide_eq_true zq11
    have hi6 : i < 6 := by omega
    refine wp_iload_n (pc := 14) (i := 2) d_45_14 rfl rfl ?_
    refine wp_bpN (pc := 15) (m := 6) d_45_15 (by decide) ?_
    refine wp_icmpN_ge (pc := 17) (tgt := 65) d_45_17 (by decide) (by omega) (by decide) (fun zq17 => ?_) (fun zq17 => ?_)
    · exact absurd zq17 (by omega)
    · refine wp_aload_n (pc := 20) (i := 0) d_45_20 rfl rfl ?_
      refine wp_aload_n (pc := 21) (i := 1) d_45_21 rfl rfl ?_
      refine wp_gA (pc := 22) d_45_22 fl_5_9 (kR isR5) ft_4_0 (fR hF isR5 (k := 0) (by decide)) ?_
      refine wp_iload_n (pc := 25) (i := 2) d_45_25 rfl rfl ?_
      refine wp_aL (pc := 26) (j := i) d_45_26 (kRa isR5 (k := 0) (by decide)) rfl hi6 (by decide) (hR.2.2 0 (by decide) i hin) ?_
      refine wp_aload_n (pc := 27) (i := 1) d_45_27 rfl rfl ?_
      refine wp_gA (pc := 28) d_45_28 fl_5_15 (kR isR5) ft_4_1 (fR hF isR5 (k := 1) (by decide)) ?_
      refine wp_iload_n (pc := 31) (i := 2) d_45_31 rfl rfl ?_
      refine wp_aL (pc := 32) (j := i) d_45_32 (kRa isR5 (k := 1) (by decide)) rfl hi6 (by decide) (hR.2.2 1 (by decide) i hin) ?_
      refine wp_aload_n (pc := 33) (i := 1) d_45_33 rfl rfl ?_
      refine wp_gA (pc := 34) d_45_34 fl_5_18 (kR isR5) ft_4_2 (fR hF isR5 (k := 2) (by decide)) ?_
      refine wp_iload_n (pc := 37) (i := 2) d_45_37 rfl rfl ?_
      refine wp_aL (pc := 38) (j := i) d_45_38 (kRa isR5 (k := 2) (by decide)) rfl hi6 (by decide) (hR.2.2 2 (by decide) i hin) ?_
      refine wp_aload_n (pc := 39) (i := 1) d_45_39 rfl rfl ?_
      refine wp_gA (pc := 40) d_45_40 fl_5_21 (kR isR5) ft_4_3 (fR hF isR5 (k := 3) (by decide)) ?_
      refine wp_iload_n (pc := 43) (i := 2) d_45_43 rfl rfl ?_
      refine wp_aL (pc := 44) (j := i) d_45_44 (kRa isR5 (k := 3) (by decide)) rfl hi6 (by decide) (hR.2.2 3 (by decide) i hin) ?_
      refine wp_callV4v (pc := 45) d_45_45 lk_5_41 (by decide) rfl (Nat.le_of_ble_eq_true rfl) (kR isR12) rfl (c_add hF isR12 hD hi6) (fun Iq45 hq45 => ?_)
      have hR45 := atR_keep hR (fun a h1 h2 => hq45.2 a (by omega))
      refine wp_aload_n (pc := 48) (i := 0) d_45_48 rfl rfl ?_
      refine wp_iload_n (pc := 49) (i := 2) d_45_49 rfl rfl ?_
      refine wp_aload_n (pc := 50) (i := 1) d_45_50 rfl rfl ?_
      refine wp_gA (pc := 51) d_45_51 fl_5_24 (kR isR5) ft_4_4 (fR hF isR5 (k := 4) (by decide)) ?_
      refine wp_iload_n (pc := 54) (i := 2) d_45_54 rfl rfl ?_
      refine wp_aL (pc := 55) (j := i) d_45_55 (kRa isR5 (k := 4) (by decide)) rfl hi6 (by decide) (hR45.2.2 4 (by decide) i hin) ?_
      refine wp_callV2v (pc := 56) d_45_56 lk_5_45 (by decide) rfl (Nat.le_of_ble_eq_true rfl) (kR isR12) rfl (c_tellWater hF isR12 hq45.1 (Nat.lt_succ_self i)) (fun Iq56 hq56 => ?_)
      refine wq_iincN (pc := 59) (L2 := [_, _, _]) d_45_59 rfl (b := 1) (by decide) rfl rfl ?_
      refine wp_goto (pc := 62) (tgt := 6) d_45_62 (by decide) ?_
      refine ih0 (i + 1) hin rfl _ (atR_keep hR45 (fun a h1 h2 => hq56.2 a (by omega))) ⟨hq56.1.1, hq56.1.2.1, fun k hk j hj => ?_⟩ ((hoff.tr hq45.2).tr hq56.2)
      rw [hq56.1.2.2 k hk j hj]
      refine congrArg nI ?_
      by_cases e : k = 4
      · subst e
        by_cases e2 : j = i
        · subst e2; exact s2_eq
        · rw [s2_nj e2]; unfold addN; rw [if_neg e2]
      · rw [s2_nk e]
        unfold addN
        by_cases e2 : j = i
        · subst e2
          rw [if_pos rfl]
          have hk4 : k = 0 ∨ k = 1 ∨ k = 2 ∨ k = 3 := by omega
          rcases hk4 with rfl | rfl | rfl | rfl <;> rfl
        · rw [if_neg e2]
theorem Rbecome_loop {I0 : IT} {J : JT} {F : FT} {n : Nat} {ρ : SN} (hF : Fok F) (hn6 : n ≤ 6) : ∀ (d i : Nat), i + d = n → ∀ (I : IT), (atR I 5 ρ n) → (atR I 12 ρ i) → (offR 12 I0 I) → Wp none 45 (fun R => ∃ I2, R = (none, KK, I2, J, F) ∧ atR I2 12 ρ n ∧ offR 12 I0 I2) 6 [some (vR 12), some (vR 5), some (vI (nI i))] [] KK I J F := by
  intro d
  induction d with
  | zero =>
    intro i hid I hR hD hoff
    exact Rbecome_step hF hn6 i (by omega) I hR hD hoff (fun i' hlt => absurd hlt (by omega))
  | succ d ih =>
    intro i hid I hR hD hoff
    exact Rbecome_step hF hn6 i (by omega) I hR hD hoff (fun i' hlt he => ih i' (by omega))

set_option maxRecDepth 4000 in
theorem c_Rbecome {I0 : IT} {J : JT} {F : FT} {n : Nat} {ρ : SN} (hF : Fok F) (hR : atR I0 5 ρ n) : Sp 45 [vR 12, vR 5] KK I0 J F (fun R => ∃ I2, R = (none, KK, I2, J, F) ∧ atR I2 12 ρ n ∧ offR 12 I0 I2) := by
  refine Sp.mk2 (Nat.le_of_ble_eq_true rfl) (L2 := [_, _, _]) rfl ?_
  refine wp_aload_n (pc := 0) (i := 0) d_45_0 rfl rfl ?_
  refine wp_callV0v (pc := 1) d_45_1 lk_5_38 (by decide) rfl (Nat.le_of_ble_eq_true rfl) (kR isR12) rfl (c_Rclear isR12) (fun Iq1 hq1 => ?_)
  refine wp_icN (pc := 4) (m := 0) d_45_4 (by decide) ?_
  refine wq_istore_n (pc := 5) (L2 := [_, _, _]) (i := 2) d_45_5 rfl (Nat.le_of_ble_eq_true rfl) rfl rfl ?_
  exact Rbecome_loop hF hR.1 n 0 (by omega) _ (atR_keep hR (fun a h1 h2 => hq1.2 a (by omega))) ⟨by omega, hq1.at, fun k hk j hj => absurd hj (by omega)⟩ (offR_fld hq1)
