/-- a reader's state: roofs told, the part that is open, how many bytes of it are read, its digits, whom water is told of -/
abbrev PS : Type := Nat × SN × Nat × Nat × (Nat → Nat) × Nat
def dgs (dg : Nat → Nat) (rd b : Nat) : Nat → Nat := fun j => if j = rd then b - 48 else dg j
/-- a byte at a place -/
def stepB (pl b n : Nat) (ρ : SN) (pt rd : Nat) (dg : Nat → Nat) (wt : Nat) : Option PS :=
  if pl = 0 then (if b = 71 then some (n, ρ, pt, rd, dg, wt) else none)
  else if pt = 82 then
    (if (if rd = 0 ∨ rd = 2 then 48 else 49) ≤ b ∧ b ≤ 57 then
      (if rd + 1 = 4 then some (n + 1, addN ρ n (dgs dg rd b 0) (dgs dg rd b 1) (dgs dg rd b 2) (dgs dg rd b 3), 0, 4, dgs dg rd b, wt)
       else some (n, ρ, 82, rd + 1, dgs dg rd b, wt))
     else none)
  else if pt = 87 then
    (if rd = 0 then (if 48 ≤ b ∧ b - 48 < n ∧ ρ 4 (b - 48) = 0 then some (n, ρ, 87, 1, dg, b - 48) else none)
     else (if 49 ≤ b ∧ b ≤ 57 then some (n, s2 ρ 4 wt (b - 48), 0, rd, dg, wt) else none))
  else (if (b = 82 ∧ n < 6) ∨ (b = 87 ∧ 0 < bitsN (dryP ρ) n) then some (n, ρ, b, 0, dg, wt) else none)
/-- the state is sound -/
abbrev okP (n : Nat) (ρ : SN) (pt rd : Nat) (dg : Nat → Nat) (wt : Nat) : Prop := n ≤ 6 ∧ (∀ k j, ρ k j ≤ 9) ∧ (pt = 0 ∨ (pt = 82 ∧ n < 6 ∧ rd < 4) ∨ (pt = 87 ∧ rd ≤ 1 ∧ (rd = 1 → wt < n))) ∧ ∀ j, dg j ≤ 9
abbrev okM (m : PS) : Prop := okP m.1 m.2.1 m.2.2.1 m.2.2.2.1 m.2.2.2.2.1 m.2.2.2.2.2
abbrev stepM (pl b : Nat) (m : PS) : Option PS := stepB pl b m.1 m.2.1 m.2.2.1 m.2.2.2.1 m.2.2.2.2.1 m.2.2.2.2.2
/-- the reader's cells hold it -/
abbrev atD (I : IT) (n : Nat) (ρ : SN) (pt rd : Nat) (dg : Nat → Nat) (wt : Nat) : Prop := atR I 5 ρ n ∧ I 4 2 = nI pt ∧ (pt ≠ 0 → I 4 3 = nI rd) ∧ (pt = 82 → ∀ j, j < rd → I 11 j = nI (dg j)) ∧ (pt = 87 → rd = 1 → I 4 4 = nI wt)
abbrev atM (I : IT) (m : PS) : Prop := atD I m.1 m.2.1 m.2.2.1 m.2.2.2.1 m.2.2.2.2.1 m.2.2.2.2.2
def offD (I I2 : IT) : Prop := ∀ a, (a < 4 ∨ 11 < a) → I2 a = I a
theorem offD.tr {I I2 I3 : IT} (h : offD I I2) (h2 : offD I2 I3) : offD I I3 := fun a ha => (h2 a ha).trans (h a ha)
theorem offD_up {I I2 : IT} {a q : Nat} {x : Int32} (u : Up I I2 a q x) (ha : a = 4 ∨ a = 11) : offD I I2 := fun b hb => u.2 b (by omega)
theorem offD_R {I I2 : IT} (h : offR 5 I I2) : offD I I2 := fun b hb => h b (by omega)
theorem digit0 : ∀ b, b < 256 → inB (nI b - nI 48) (nI 0) (nI 9) = decide (48 ≤ b ∧ b ≤ 57) := by decide +kernel
theorem digit1 : ∀ b, b < 256 → inB (nI b - nI 48) (nI 1) (nI 9) = decide (49 ≤ b ∧ b ≤ 57) := by decide +kernel
theorem addN_9 {ρ : SN} {n a b c d : Nat} (h : ∀ k j, ρ k j ≤ 9) (ha : a ≤ 9) (hb : b ≤ 9) (hc : c ≤ 9) (hd : d ≤ 9) : ∀ k j, addN ρ n a b c d k j ≤ 9 := by
  intro k j
  unfold addN
  by_cases e : j = n
  · rw [if_pos e]
    by_cases e0 : k = 0
    · rw [if_pos e0]; exact ha
    rw [if_neg e0]
    by_cases e1 : k = 1
    · rw [if_pos e1]; exact hb
    rw [if_neg e1]
    by_cases e2 : k = 2
    · rw [if_pos e2]; exact hc
    rw [if_neg e2]
    by_cases e3 : k = 3
    · rw [if_pos e3]; exact hd
    rw [if_neg e3]; omega
  · rw [if_neg e]; exact h k j
theorem s2_9 {ρ : SN} {k j v : Nat} (h : ∀ k j, ρ k j ≤ 9) (hv : v ≤ 9) : ∀ k2 j2, s2 ρ k j v k2 j2 ≤ 9 := by
  intro k2 j2
  unfold s2
  by_cases e : k2 = k ∧ j2 = j
  · rw [if_pos e]; exact hv
  · rw [if_neg e]; exact h _ _
theorem okP_step {pl b n pt rd wt : Nat} {ρ : SN} {dg : Nat → Nat} {mz : PS} (h : okP n ρ pt rd dg wt) (hs : stepB pl b n ρ pt rd dg wt = some mz) : okM mz := by
  obtain ⟨h1, h2, h3, h4⟩ := h
  unfold stepB at hs
  by_cases e0 : pl = 0
  · rw [if_pos e0] at hs
    by_cases e1 : b = 71
    · rw [if_pos e1] at hs; cases hs; exact ⟨h1, h2, h3, h4⟩
    · rw [if_neg e1] at hs; cases hs
  rw [if_neg e0] at hs
  have hdg : ∀ j, (b ≤ 57) → dgs dg rd b j ≤ 9 := fun j hb57 => by
    unfold dgs
    by_cases e : j = rd
    · rw [if_pos e]; omega
    · rw [if_neg e]; exact h4 j
  by_cases e2 : pt = 82
  · rw [if_pos e2] at hs
    by_cases e3 : (if rd = 0 ∨ rd = 2 then 48 else 49) ≤ b ∧ b ≤ 57
    · rw [if_pos e3] at hs
      by_cases e4 : rd + 1 = 4
      · rw [if_pos e4] at hs
        cases hs
        exact ⟨show n + 1 ≤ 6 by omega, addN_9 h2 (hdg _ e3.2) (hdg _ e3.2) (hdg _ e3.2) (hdg _ e3.2), Or.inl rfl, fun j => hdg j e3.2⟩
      · rw [if_neg e4] at hs
        cases hs
        exact ⟨h1, h2, Or.inr (Or.inl ⟨rfl, show n < 6 by omega, show rd + 1 < 4 by omega⟩), fun j => hdg j e3.2⟩
    · rw [if_neg e3] at hs; cases hs
  rw [if_neg e2] at hs
  by_cases e5 : pt = 87
  · rw [if_pos e5] at hs
    by_cases e6 : rd = 0
    · rw [if_pos e6] at hs
      by_cases e7 : 48 ≤ b ∧ b - 48 < n ∧ ρ 4 (b - 48) = 0
      · rw [if_pos e7] at hs
        cases hs
        exact ⟨h1, h2, Or.inr (Or.inr ⟨rfl, Nat.le_refl 1, fun _ => e7.2.1⟩), h4⟩
      · rw [if_neg e7] at hs; cases hs
    · rw [if_neg e6] at hs
      by_cases e8 : 49 ≤ b ∧ b ≤ 57
      · rw [if_pos e8] at hs
        cases hs
        exact ⟨h1, s2_9 h2 (by omega), Or.inl rfl, h4⟩
      · rw [if_neg e8] at hs; cases hs
  rw [if_neg e5] at hs
  by_cases e9 : (b = 82 ∧ n < 6) ∨ (b = 87 ∧ 0 < bitsN (dryP ρ) n)
  · rw [if_pos e9] at hs
    cases hs
    refine ⟨h1, h2, ?_, h4⟩
    rcases e9 with ⟨e, hn⟩ | ⟨e, -⟩
    · exact Or.inr (Or.inl ⟨e, hn, show 0 < 4 by decide⟩)
    · exact Or.inr (Or.inr ⟨e, show 0 ≤ 1 by decide, fun h9 => absurd (show (0 : Nat) = 1 from h9) (by decide)⟩)
  · rw [if_neg e9] at hs; cases hs
set_option maxRecDepth 4000 in
theorem c_takesInRoof {I : IT} {J : JT} {F : FT} {pl b n rd wt : Nat} {ρ : SN} {dg : Nat → Nat} (hF : Fok F) (hb : b < 256) (hpl : pl ≠ 0) (hok : okP n ρ 82 rd dg wt) (hD : atD I n ρ 82 rd dg wt) (hrd4 : rd < 4) (hn6 : n < 6) : Sp 33 [vR 4, vI (nI b - nI 48)] KK I J F (fun R => ∃ I2, R = (some (vI (b2 (stepB pl b n ρ 82 rd dg wt).isSome)), KK, I2, J, F) ∧ offD I I2 ∧ ∀ mz, stepB pl b n ρ 82 rd dg wt = some mz → atM I2 mz) := by
  refine Sp.mk2 (Nat.le_of_ble_eq_true rfl) (L2 := [_, _, _]) rfl ?_
  refine wp_aload_n (pc := 0) (i := 0) d_33_0 rfl rfl ?_
  refine wp_gI (pc := 1) d_33_1 fl_4_26 rfl ft_3_3 (hD.2.2.1 (by decide)) ?_
  refine wp_ifN_eq (pc := 4) (tgt := 15) d_33_4 (by decide) (by omega) (fun zq4 => ?_) (fun zq4 => ?_)
  · refine wp_icN (pc := 15) (m := 1) d_33_15 (by decide) ?_
    refine wp_goto (pc := 16) (tgt := 20) d_33_16 (by decide) ?_
    refine wq_istore_n (pc := 20) (L2 := [_, _, _]) (i := 2) d_33_20 rfl (Nat.le_of_ble_eq_true rfl) rfl rfl ?_
    refine wp_iload_n (pc := 21) (i := 1) d_33_21 rfl rfl ?_
    refine wp_iload_n (pc := 22) (i := 2) d_33_22 rfl rfl ?_
    refine wp_ifN_eq (pc := 23) (tgt := 30) d_33_23 (by decide) (by decide) (fun zq23 => ?_) (fun zq23 => ?_)
    · exact absurd zq23 (by decide)
    · refine wp_icN (pc := 26) (m := 0) d_33_26 (by decide) ?_
      refine wp_goto (pc := 27) (tgt := 31) d_33_27 (by decide) ?_
      refine wp_bpN (pc := 31) (m := 9) d_33_31 (by decide) ?_
      refine wp_callSN3p (pc := 33) d_33_33 lk_4_66 (by decide) rfl (Nat.le_of_ble_eq_true rfl) (c_isWithin (nI b - nI 48) (nI 0) (nI 9)) ?_
      refine wp_ifB_ne (pc := 36) (tgt := 41) d_33_36 (by decide) (fun zq36 => ?_) (fun zq36 => ?_)
      · have hbd : (if rd = 0 ∨ rd = 2 then 48 else 49) ≤ b ∧ b ≤ 57 := by rw [if_pos (by omega)]; rw [digit0 b hb] at zq36; exact of_decide_eq_true zq36
        have hb48 : 48 ≤ b := by have h9 := hbd.1; split at h9 <;> omega
        rw [pk_sub hb48]
        refine wp_aload_n (pc := 41) (i := 0) d_33_41 rfl rfl ?_
        refine wp_gI (pc := 42) d_33_42 fl_4_26 rfl ft_3_3 (hD.2.2.1 (by decide)) ?_
        refine wp_ifN_lt (pc := 45) (tgt := 70) d_33_45 (by decide) (by omega) ?_
        refine wp_aload_n (pc := 48) (i := 0) d_33_48 rfl rfl ?_
        refine wp_gI (pc := 49) d_33_49 fl_4_26 rfl ft_3_3 (hD.2.2.1 (by decide)) ?_
        refine wp_aload_n (pc := 52) (i := 0) d_33_52 rfl rfl ?_
        refine wp_gA (pc := 53) d_33_53 fl_4_18 rfl ft_3_1 (F_4_1 hF) ?_
        refine wp_alen (pc := 56) d_33_56 rfl (by decide) ?_
        refine wp_icmpN_ge (pc := 57) (tgt := 70) d_33_57 (by decide) (by omega) (by decide) (fun zq57 => ?_) (fun zq57 => ?_)
        · exact absurd zq57 (by omega)
        · refine wp_aload_n (pc := 60) (i := 0) d_33_60 rfl rfl ?_
          refine wp_gA (pc := 61) d_33_61 fl_4_18 rfl ft_3_1 (F_4_1 hF) ?_
          refine wp_aload_n (pc := 64) (i := 0) d_33_64 rfl rfl ?_
          refine wp_gI (pc := 65) d_33_65 fl_4_26 rfl ft_3_3 (hD.2.2.1 (by decide)) ?_
          refine wp_iload_n (pc := 68) (i := 1) d_33_68 rfl rfl ?_
          refine wp_aS (pc := 69) (j := rd) d_33_69 rfl rfl hrd4 (by decide) (fun Iq69 uq69 => ?_)
          refine wp_aload_n (pc := 70) (i := 0) d_33_70 rfl rfl ?_
          refine wp_dup (pc := 71) d_33_71 rfl ?_
          refine wp_gI (pc := 72) d_33_72 fl_4_26 rfl ft_3_3 ((uq69.off (by decide)).trans (hD.2.2.1 (by decide))) ?_
          refine wp_icN (pc := 75) (m := 1) d_33_75 (by decide) ?_
          refine wp_iaddN (pc := 76) d_33_76 ?_
          refine wp_pI (pc := 77) d_33_77 fl_4_26 rfl ft_3_3 rfl (fun Iq77 uq77 => ?_)
          refine wp_aload_n (pc := 80) (i := 0) d_33_80 rfl rfl ?_
          refine wp_gI (pc := 81) d_33_81 fl_4_26 rfl ft_3_3 uq77.at ?_
          refine wp_icN (pc := 84) (m := 4) d_33_84 (by decide) ?_
          refine wp_icmpN_ne (pc := 85) (tgt := 124) d_33_85 (by decide) (by omega) (by decide) (fun zq85 => ?_) (fun zq85 => ?_)
          · refine wp_icN (pc := 124) (m := 1) d_33_124 (by decide) ?_
            have hst : stepB pl b n ρ 82 rd dg wt = some (n, ρ, 82, rd + 1, dgs dg rd b, wt) := by
              unfold stepB
              rw [if_neg hpl, if_pos rfl, if_pos hbd, if_neg zq85]
            refine wp_iret (pc := 125) d_33_125 (Or.inr ⟨rfl, by decide⟩) ⟨_, by rw [hst]; rfl, (offD_up uq69 (Or.inr rfl)).tr (offD_up uq77 (Or.inl rfl)), fun mz h => ?_⟩
            rw [hst] at h
            cases h
            refine ⟨atR_keep hD.1 (fun a g1 g2 => by rw [uq77.2 a (by omega), uq69.2 a (by omega)]), (uq77.ne (by decide)).trans ((uq69.off (by decide)).trans hD.2.1), fun _ => uq77.at, fun _ j hj => ?_, fun h => absurd (show (82 : Nat) = 87 from h) (by decide)⟩
            rw [uq77.off (by decide)]
            have hj2 : j < rd + 1 := hj
            show Iq69 11 j = nI (dgs dg rd b j)
            unfold dgs
            by_cases e : j = rd
            · rw [if_pos e, e]; exact uq69.at
            · rw [if_neg e, uq69.ne e]; exact hD.2.2.2.1 rfl j (by omega)
          · have hrd3 : rd = 3 := by omega
            subst hrd3
            have hR77 : atR Iq77 5 ρ n := atR_keep hD.1 (fun a g1 g2 => by rw [uq77.2 a (by omega), uq69.2 a (by omega)])
            refine wp_aload_n (pc := 88) (i := 0) d_33_88 rfl rfl ?_
            refine wp_gA (pc := 89) d_33_89 fl_4_12 rfl ft_3_0 (F_4_0 hF) ?_
            refine wp_aload_n (pc := 92) (i := 0) d_33_92 rfl rfl ?_
            refine wp_gA (pc := 93) d_33_93 fl_4_18 rfl ft_3_1 (F_4_1 hF) ?_
            refine wp_icN (pc := 96) (m := 0) d_33_96 (by decide) ?_
            refine wp_aL (pc := 97) (j := 0) d_33_97 rfl rfl (by decide) (by decide) ((uq77.off (by decide)).trans ((uq69.ne (by decide)).trans (hD.2.2.2.1 rfl 0 (by decide)))) ?_
            refine wp_aload_n (pc := 98) (i := 0) d_33_98 rfl rfl ?_
            refine wp_gA (pc := 99) d_33_99 fl_4_18 rfl ft_3_1 (F_4_1 hF) ?_
            refine wp_icN (pc := 102) (m := 1) d_33_102 (by decide) ?_
            refine wp_aL (pc := 103) (j := 1) d_33_103 rfl rfl (by decide) (by decide) ((uq77.off (by decide)).trans ((uq69.ne (by decide)).trans (hD.2.2.2.1 rfl 1 (by decide)))) ?_
            refine wp_aload_n (pc := 104) (i := 0) d_33_104 rfl rfl ?_
            refine wp_gA (pc := 105) d_33_105 fl_4_18 rfl ft_3_1 (F_4_1 hF) ?_
            refine wp_icN (pc := 108) (m := 2) d_33_108 (by decide) ?_
            refine wp_aL (pc := 109) (j := 2) d_33_109 rfl rfl (by decide) (by decide) ((uq77.off (by decide)).trans ((uq69.ne (by decide)).trans (hD.2.2.2.1 rfl 2 (by decide)))) ?_
            refine wp_aload_n (pc := 110) (i := 0) d_33_110 rfl rfl ?_
            refine wp_gA (pc := 111) d_33_111 fl_4_18 rfl ft_3_1 (F_4_1 hF) ?_
            refine wp_icN (pc := 114) (m := 3) d_33_114 (by decide) ?_
            refine wp_aL (pc := 115) (j := 3) d_33_115 rfl rfl (by decide) (by decide) ((uq77.off (by decide)).trans uq69.at) ?_
            refine wp_callV4v (pc := 116) d_33_116 lk_4_70 (by decide) rfl (Nat.le_of_ble_eq_true rfl) (kR isR5) rfl (c_add hF isR5 hR77 hn6) (fun Iq116 hq116 => ?_)
            refine wp_aload_n (pc := 119) (i := 0) d_33_119 rfl rfl ?_
            refine wp_icN (pc := 120) (m := 0) d_33_120 (by decide) ?_
            refine wp_pI (pc := 121) d_33_121 fl_4_22 rfl ft_3_2 rfl (fun Iq121 uq121 => ?_)
            refine wp_icN (pc := 124) (m := 1) d_33_124 (by decide) ?_
            have hst : stepB pl b n ρ 82 3 dg wt = some (n + 1, addN ρ n (dg 0) (dg 1) (dg 2) (b - 48), 0, 4, dgs dg 3 b, wt) := by
              unfold stepB
              rw [if_neg hpl, if_pos rfl, if_pos hbd, if_pos rfl]
              rfl
            refine wp_iret (pc := 125) d_33_125 (Or.inr ⟨rfl, by decide⟩) ⟨_, by rw [hst]; rfl, (((offD_up uq69 (Or.inr rfl)).tr (offD_up uq77 (Or.inl rfl))).tr (offD_R hq116.2)).tr (offD_up uq121 (Or.inl rfl)), fun mz h => ?_⟩
            rw [hst] at h
            cases h
            exact ⟨atR_keep hq116.1 (fun a g1 g2 => uq121.2 a (by omega)), uq121.at, fun h => absurd rfl h, fun h => absurd (show (0 : Nat) = 82 from h) (by decide), fun h => absurd (show (0 : Nat) = 87 from h) (by decide)⟩
      · refine wp_icN (pc := 39) (m := 0) d_33_39 (by decide) ?_
        have hst : stepB pl b n ρ 82 rd dg wt = none := by
          unfold stepB
          rw [if_neg hpl, if_pos rfl, if_neg (by rw [if_pos (by omega)]; rw [digit0 b hb] at zq36; exact of_decide_eq_false zq36)]
        exact wp_iret (pc := 40) d_33_40 (Or.inr ⟨rfl, by decide⟩) ⟨_, by rw [hst]; rfl, fun _ _ => rfl, fun mz h => by rw [hst] at h; cases h⟩
  · refine wp_aload_n (pc := 7) (i := 0) d_33_7 rfl rfl ?_
    refine wp_gI (pc := 8) d_33_8 fl_4_26 rfl ft_3_3 (hD.2.2.1 (by decide)) ?_
    refine wp_icN (pc := 11) (m := 2) d_33_11 (by decide) ?_
    refine wp_icmpN_ne (pc := 12) (tgt := 19) d_33_12 (by decide) (by omega) (by decide) (fun zq12 => ?_) (fun zq12 => ?_)
    · refine wp_icN (pc := 19) (m := 0) d_33_19 (by decide) ?_
      refine wq_istore_n (pc := 20) (L2 := [_, _, _]) (i := 2) d_33_20 rfl (Nat.le_of_ble_eq_true rfl) rfl rfl ?_
      refine wp_iload_n (pc := 21) (i := 1) d_33_21 rfl rfl ?_
      refine wp_iload_n (pc := 22) (i := 2) d_33_22 rfl rfl ?_
      refine wp_ifN_eq (pc := 23) (tgt := 30) d_33_23 (by decide) (by decide) (fun zq23 => ?_) (fun zq23 => ?_)
      · refine wp_icN (pc := 30) (m := 1) d_33_30 (by decide) ?_
        refine wp_bpN (pc := 31) (m := 9) d_33_31 (by decide) ?_
        refine wp_callSN3p (pc := 33) d_33_33 lk_4_66 (by decide) rfl (Nat.le_of_ble_eq_true rfl) (c_isWithin (nI b - nI 48) (nI 1) (nI 9)) ?_
        refine wp_ifB_ne (pc := 36) (tgt := 41) d_33_36 (by decide) (fun zq36 => ?_) (fun zq36 => ?_)
        · have hbd : (if rd = 0 ∨ rd = 2 then 48 else 49) ≤ b ∧ b ≤ 57 := by rw [if_neg (by omega)]; rw [digit1 b hb] at zq36; exact of_decide_eq_true zq36
          have hb48 : 48 ≤ b := by have h9 := hbd.1; split at h9 <;> omega
          rw [pk_sub hb48]
          refine wp_aload_n (pc := 41) (i := 0) d_33_41 rfl rfl ?_
          refine wp_gI (pc := 42) d_33_42 fl_4_26 rfl ft_3_3 (hD.2.2.1 (by decide)) ?_
          refine wp_ifN_lt (pc := 45) (tgt := 70) d_33_45 (by decide) (by omega) ?_
          refine wp_aload_n (pc := 48) (i := 0) d_33_48 rfl rfl ?_
          refine wp_gI (pc := 49) d_33_49 fl_4_26 rfl ft_3_3 (hD.2.2.1 (by decide)) ?_
          refine wp_aload_n (pc := 52) (i := 0) d_33_52 rfl rfl ?_
          refine wp_gA (pc := 53) d_33_53 fl_4_18 rfl ft_3_1 (F_4_1 hF) ?_
          refine wp_alen (pc := 56) d_33_56 rfl (by decide) ?_
          refine wp_icmpN_ge (pc := 57) (tgt := 70) d_33_57 (by decide) (by omega) (by decide) (fun zq57 => ?_) (fun zq57 => ?_)
          · exact absurd zq57 (by omega)
          · refine wp_aload_n (pc := 60) (i := 0) d_33_60 rfl rfl ?_
            refine wp_gA (pc := 61) d_33_61 fl_4_18 rfl ft_3_1 (F_4_1 hF) ?_
            refine wp_aload_n (pc := 64) (i := 0) d_33_64 rfl rfl ?_
            refine wp_gI (pc := 65) d_33_65 fl_4_26 rfl ft_3_3 (hD.2.2.1 (by decide)) ?_
            refine wp_iload_n (pc := 68) (i := 1) d_33_68 rfl rfl ?_
            refine wp_aS (pc := 69) (j := rd) d_33_69 rfl rfl hrd4 (by decide) (fun Iq69 uq69 => ?_)
            refine wp_aload_n (pc := 70) (i := 0) d_33_70 rfl rfl ?_
            refine wp_dup (pc := 71) d_33_71 rfl ?_
            refine wp_gI (pc := 72) d_33_72 fl_4_26 rfl ft_3_3 ((uq69.off (by decide)).trans (hD.2.2.1 (by decide))) ?_
            refine wp_icN (pc := 75) (m := 1) d_33_75 (by decide) ?_
            refine wp_iaddN (pc := 76) d_33_76 ?_
            refine wp_pI (pc := 77) d_33_77 fl_4_26 rfl ft_3_3 rfl (fun Iq77 uq77 => ?_)
            refine wp_aload_n (pc := 80) (i := 0) d_33_80 rfl rfl ?_
            refine wp_gI (pc := 81) d_33_81 fl_4_26 rfl ft_3_3 uq77.at ?_
            refine wp_icN (pc := 84) (m := 4) d_33_84 (by decide) ?_
            refine wp_icmpN_ne (pc := 85) (tgt := 124) d_33_85 (by decide) (by omega) (by decide) (fun zq85 => ?_) (fun zq85 => ?_)
            · refine wp_icN (pc := 124) (m := 1) d_33_124 (by decide) ?_
              have hst : stepB pl b n ρ 82 rd dg wt = some (n, ρ, 82, rd + 1, dgs dg rd b, wt) := by
                unfold stepB
                rw [if_neg hpl, if_pos rfl, if_pos hbd, if_neg zq85]
              refine wp_iret (pc := 125) d_33_125 (Or.inr ⟨rfl, by decide⟩) ⟨_, by rw [hst]; rfl, (offD_up uq69 (Or.inr rfl)).tr (offD_up uq77 (Or.inl rfl)), fun mz h => ?_⟩
              rw [hst] at h
              cases h
              refine ⟨atR_keep hD.1 (fun a g1 g2 => by rw [uq77.2 a (by omega), uq69.2 a (by omega)]), (uq77.ne (by decide)).trans ((uq69.off (by decide)).trans hD.2.1), fun _ => uq77.at, fun _ j hj => ?_, fun h => absurd (show (82 : Nat) = 87 from h) (by decide)⟩
              rw [uq77.off (by decide)]
              have hj2 : j < rd + 1 := hj
              show Iq69 11 j = nI (dgs dg rd b j)
              unfold dgs
              by_cases e : j = rd
              · rw [if_pos e, e]; exact uq69.at
              · rw [if_neg e, uq69.ne e]; exact hD.2.2.2.1 rfl j (by omega)
            · have hrd3 : rd = 3 := by omega
              subst hrd3
              have hR77 : atR Iq77 5 ρ n := atR_keep hD.1 (fun a g1 g2 => by rw [uq77.2 a (by omega), uq69.2 a (by omega)])
              refine wp_aload_n (pc := 88) (i := 0) d_33_88 rfl rfl ?_
              refine wp_gA (pc := 89) d_33_89 fl_4_12 rfl ft_3_0 (F_4_0 hF) ?_
              refine wp_aload_n (pc := 92) (i := 0) d_33_92 rfl rfl ?_
              refine wp_gA (pc := 93) d_33_93 fl_4_18 rfl ft_3_1 (F_4_1 hF) ?_
              refine wp_icN (pc := 96) (m := 0) d_33_96 (by decide) ?_
              refine wp_aL (pc := 97) (j := 0) d_33_97 rfl rfl (by decide) (by decide) ((uq77.off (by decide)).trans ((uq69.ne (by decide)).trans (hD.2.2.2.1 rfl 0 (by decide)))) ?_
              refine wp_aload_n (pc := 98) (i := 0) d_33_98 rfl rfl ?_
              refine wp_gA (pc := 99) d_33_99 fl_4_18 rfl ft_3_1 (F_4_1 hF) ?_
              refine wp_icN (pc := 102) (m := 1) d_33_102 (by decide) ?_
              refine wp_aL (pc := 103) (j := 1) d_33_103 rfl rfl (by decide) (by decide) ((uq77.off (by decide)).trans ((uq69.ne (by decide)).trans (hD.2.2.2.1 rfl 1 (by decide)))) ?_
              refine wp_aload_n (pc := 104) (i := 0) d_33_104 rfl rfl ?_
              refine wp_gA (pc := 105) d_33_105 fl_4_18 rfl ft_3_1 (F_4_1 hF) ?_
              refine wp_icN (pc := 108) (m := 2) d_33_108 (by decide) ?_
              refine wp_aL (pc := 109) (j := 2) d_33_109 rfl rfl (by decide) (by decide) ((uq77.off (by decide)).trans ((uq69.ne (by decide)).trans (hD.2.2.2.1 rfl 2 (by decide)))) ?_
              refine wp_aload_n (pc := 110) (i := 0) d_33_110 rfl rfl ?_
              refine wp_gA (pc := 111) d_33_111 fl_4_18 rfl ft_3_1 (F_4_1 hF) ?_
              refine wp_icN (pc := 114) (m := 3) d_33_114 (by decide) ?_
              refine wp_aL (pc := 115) (j := 3) d_33_115 rfl rfl (by decide) (by decide) ((uq77.off (by decide)).trans uq69.at) ?_
              refine wp_callV4v (pc := 116) d_33_116 lk_4_70 (by decide) rfl (Nat.le_of_ble_eq_true rfl) (kR isR5) rfl (c_add hF isR5 hR77 hn6) (fun Iq116 hq116 => ?_)
              refine wp_aload_n (pc := 119) (i := 0) d_33_119 rfl rfl ?_
              refine wp_icN (pc := 120) (m := 0) d_33_120 (by decide) ?_
              refine wp_pI (pc := 121) d_33_121 fl_4_22 rfl ft_3_2 rfl (fun Iq121 uq121 => ?_)
              refine wp_icN (pc := 124) (m := 1) d_33_124 (by decide) ?_
              have hst : stepB pl b n ρ 82 3 dg wt = some (n + 1, addN ρ n (dg 0) (dg 1) (dg 2) (b - 48), 0, 4, dgs dg 3 b, wt) := by
                unfold stepB
                rw [if_neg hpl, if_pos rfl, if_pos hbd, if_pos rfl]
                rfl
              refine wp_iret (pc := 125) d_33_125 (Or.inr ⟨rfl, by decide⟩) ⟨_, by rw [hst]; rfl, (((offD_up uq69 (Or.inr rfl)).tr (offD_up uq77 (Or.inl rfl))).tr (offD_R hq116.2)).tr (offD_up uq121 (Or.inl rfl)), fun mz h => ?_⟩
              rw [hst] at h
              cases h
              exact ⟨atR_keep hq116.1 (fun a g1 g2 => uq121.2 a (by omega)), uq121.at, fun h => absurd rfl h, fun h => absurd (show (0 : Nat) = 82 from h) (by decide), fun h => absurd (show (0 : Nat) = 87 from h) (by decide)⟩
        · refine wp_icN (pc := 39) (m := 0) d_33_39 (by decide) ?_
          have hst : stepB pl b n ρ 82 rd dg wt = none := by
            unfold stepB
            rw [if_neg hpl, if_pos rfl, if_neg (by rw [if_neg (by omega)]; rw [digit1 b hb] at zq36; exact of_decide_eq_false zq36)]
          exact wp_iret (pc := 40) d_33_40 (Or.inr ⟨rfl, by decide⟩) ⟨_, by rw [hst]; rfl, fun _ _ => rfl, fun mz h => by rw [hst] at h; cases h⟩
      · exact absurd rfl zq23
    · refine wp_icN (pc := 15) (m := 1) d_33_15 (by decide) ?_
      refine wp_goto (pc := 16) (tgt := 20) d_33_16 (by decide) ?_
      refine wq_istore_n (pc := 20) (L2 := [_, _, _]) (i := 2) d_33_20 rfl (Nat.le_of_ble_eq_true rfl) rfl rfl ?_
      refine wp_iload_n (pc := 21) (i := 1) d_33_21 rfl rfl ?_
      refine wp_iload_n (pc := 22) (i := 2) d_33_22 rfl rfl ?_
      refine wp_ifN_eq (pc := 23) (tgt := 30) d_33_23 (by decide) (by decide) (fun zq23 => ?_) (fun zq23 => ?_)
      · exact absurd zq23 (by decide)
      · refine wp_icN (pc := 26) (m := 0) d_33_26 (by decide) ?_
        refine wp_goto (pc := 27) (tgt := 31) d_33_27 (by decide) ?_
        refine wp_bpN (pc := 31) (m := 9) d_33_31 (by decide) ?_
        refine wp_callSN3p (pc := 33) d_33_33 lk_4_66 (by decide) rfl (Nat.le_of_ble_eq_true rfl) (c_isWithin (nI b - nI 48) (nI 0) (nI 9)) ?_
        refine wp_ifB_ne (pc := 36) (tgt := 41) d_33_36 (by decide) (fun zq36 => ?_) (fun zq36 => ?_)
        · have hbd : (if rd = 0 ∨ rd = 2 then 48 else 49) ≤ b ∧ b ≤ 57 := by rw [if_pos (by omega)]; rw [digit0 b hb] at zq36; exact of_decide_eq_true zq36
          have hb48 : 48 ≤ b := by have h9 := hbd.1; split at h9 <;> omega
          rw [pk_sub hb48]
          refine wp_aload_n (pc := 41) (i := 0) d_33_41 rfl rfl ?_
          refine wp_gI (pc := 42) d_33_42 fl_4_26 rfl ft_3_3 (hD.2.2.1 (by decide)) ?_
          refine wp_ifN_lt (pc := 45) (tgt := 70) d_33_45 (by decide) (by omega) ?_
          refine wp_aload_n (pc := 48) (i := 0) d_33_48 rfl rfl ?_
          refine wp_gI (pc := 49) d_33_49 fl_4_26 rfl ft_3_3 (hD.2.2.1 (by decide)) ?_
          refine wp_aload_n (pc := 52) (i := 0) d_33_52 rfl rfl ?_
          refine wp_gA (pc := 53) d_33_53 fl_4_18 rfl ft_3_1 (F_4_1 hF) ?_
          refine wp_alen (pc := 56) d_33_56 rfl (by decide) ?_
          refine wp_icmpN_ge (pc := 57) (tgt := 70) d_33_57 (by decide) (by omega) (by decide) (fun zq57 => ?_) (fun zq57 => ?_)
          · exact absurd zq57 (by omega)
          · refine wp_aload_n (pc := 60) (i := 0) d_33_60 rfl rfl ?_
            refine wp_gA (pc := 61) d_33_61 fl_4_18 rfl ft_3_1 (F_4_1 hF) ?_
            refine wp_aload_n (pc := 64) (i := 0) d_33_64 rfl rfl ?_
            refine wp_gI (pc := 65) d_33_65 fl_4_26 rfl ft_3_3 (hD.2.2.1 (by decide)) ?_
            refine wp_iload_n (pc := 68) (i := 1) d_33_68 rfl rfl ?_
            refine wp_aS (pc := 69) (j := rd) d_33_69 rfl rfl hrd4 (by decide) (fun Iq69 uq69 => ?_)
            refine wp_aload_n (pc := 70) (i := 0) d_33_70 rfl rfl ?_
            refine wp_dup (pc := 71) d_33_71 rfl ?_
            refine wp_gI (pc := 72) d_33_72 fl_4_26 rfl ft_3_3 ((uq69.off (by decide)).trans (hD.2.2.1 (by decide))) ?_
            refine wp_icN (pc := 75) (m := 1) d_33_75 (by decide) ?_
            refine wp_iaddN (pc := 76) d_33_76 ?_
            refine wp_pI (pc := 77) d_33_77 fl_4_26 rfl ft_3_3 rfl (fun Iq77 uq77 => ?_)
            refine wp_aload_n (pc := 80) (i := 0) d_33_80 rfl rfl ?_
            refine wp_gI (pc := 81) d_33_81 fl_4_26 rfl ft_3_3 uq77.at ?_
            refine wp_icN (pc := 84) (m := 4) d_33_84 (by decide) ?_
            refine wp_icmpN_ne (pc := 85) (tgt := 124) d_33_85 (by decide) (by omega) (by decide) (fun zq85 => ?_) (fun zq85 => ?_)
            · refine wp_icN (pc := 124) (m := 1) d_33_124 (by decide) ?_
              have hst : stepB pl b n ρ 82 rd dg wt = some (n, ρ, 82, rd + 1, dgs dg rd b, wt) := by
                unfold stepB
                rw [if_neg hpl, if_pos rfl, if_pos hbd, if_neg zq85]
              refine wp_iret (pc := 125) d_33_125 (Or.inr ⟨rfl, by decide⟩) ⟨_, by rw [hst]; rfl, (offD_up uq69 (Or.inr rfl)).tr (offD_up uq77 (Or.inl rfl)), fun mz h => ?_⟩
              rw [hst] at h
              cases h
              refine ⟨atR_keep hD.1 (fun a g1 g2 => by rw [uq77.2 a (by omega), uq69.2 a (by omega)]), (uq77.ne (by decide)).trans ((uq69.off (by decide)).trans hD.2.1), fun _ => uq77.at, fun _ j hj => ?_, fun h => absurd (show (82 : Nat) = 87 from h) (by decide)⟩
              rw [uq77.off (by decide)]
              have hj2 : j < rd + 1 := hj
              show Iq69 11 j = nI (dgs dg rd b j)
              unfold dgs
              by_cases e : j = rd
              · rw [if_pos e, e]; exact uq69.at
              · rw [if_neg e, uq69.ne e]; exact hD.2.2.2.1 rfl j (by omega)
            · have hrd3 : rd = 3 := by omega
              subst hrd3
              have hR77 : atR Iq77 5 ρ n := atR_keep hD.1 (fun a g1 g2 => by rw [uq77.2 a (by omega), uq69.2 a (by omega)])
              refine wp_aload_n (pc := 88) (i := 0) d_33_88 rfl rfl ?_
              refine wp_gA (pc := 89) d_33_89 fl_4_12 rfl ft_3_0 (F_4_0 hF) ?_
              refine wp_aload_n (pc := 92) (i := 0) d_33_92 rfl rfl ?_
              refine wp_gA (pc := 93) d_33_93 fl_4_18 rfl ft_3_1 (F_4_1 hF) ?_
              refine wp_icN (pc := 96) (m := 0) d_33_96 (by decide) ?_
              refine wp_aL (pc := 97) (j := 0) d_33_97 rfl rfl (by decide) (by decide) ((uq77.off (by decide)).trans ((uq69.ne (by decide)).trans (hD.2.2.2.1 rfl 0 (by decide)))) ?_
              refine wp_aload_n (pc := 98) (i := 0) d_33_98 rfl rfl ?_
              refine wp_gA (pc := 99) d_33_99 fl_4_18 rfl ft_3_1 (F_4_1 hF) ?_
              refine wp_icN (pc := 102) (m := 1) d_33_102 (by decide) ?_
              refine wp_aL (pc := 103) (j := 1) d_33_103 rfl rfl (by decide) (by decide) ((uq77.off (by decide)).trans ((uq69.ne (by decide)).trans (hD.2.2.2.1 rfl 1 (by decide)))) ?_
              refine wp_aload_n (pc := 104) (i := 0) d_33_104 rfl rfl ?_
              refine wp_gA (pc := 105) d_33_105 fl_4_18 rfl ft_3_1 (F_4_1 hF) ?_
              refine wp_icN (pc := 108) (m := 2) d_33_108 (by decide) ?_
              refine wp_aL (pc := 109) (j := 2) d_33_109 rfl rfl (by decide) (by decide) ((uq77.off (by decide)).trans ((uq69.ne (by decide)).trans (hD.2.2.2.1 rfl 2 (by decide)))) ?_
              refine wp_aload_n (pc := 110) (i := 0) d_33_110 rfl rfl ?_
              refine wp_gA (pc := 111) d_33_111 fl_4_18 rfl ft_3_1 (F_4_1 hF) ?_
              refine wp_icN (pc := 114) (m := 3) d_33_114 (by decide) ?_
              refine wp_aL (pc := 115) (j := 3) d_33_115 rfl rfl (by decide) (by decide) ((uq77.off (by decide)).trans uq69.at) ?_
              refine wp_callV4v (pc := 116) d_33_116 lk_4_70 (by decide) rfl (Nat.le_of_ble_eq_true rfl) (kR isR5) rfl (c_add hF isR5 hR77 hn6) (fun Iq116 hq116 => ?_)
              refine wp_aload_n (pc := 119) (i := 0) d_33_119 rfl rfl ?_
              refine wp_icN (pc := 120) (m := 0) d_33_120 (by decide) ?_
              refine wp_pI (pc := 121) d_33_121 fl_4_22 rfl ft_3_2 rfl (fun Iq121 uq121 => ?_)
              refine wp_icN (pc := 124) (m := 1) d_33_124 (by decide) ?_
              have hst : stepB pl b n ρ 82 3 dg wt = some (n + 1, addN ρ n (dg 0) (dg 1) (dg 2) (b - 48), 0, 4, dgs dg 3 b, wt) := by
                unfold stepB
                rw [if_neg hpl, if_pos rfl, if_pos hbd, if_pos rfl]
                rfl
              refine wp_iret (pc := 125) d_33_125 (Or.inr ⟨rfl, by decide⟩) ⟨_, by rw [hst]; rfl, (((offD_up uq69 (Or.inr rfl)).tr (offD_up uq77 (Or.inl rfl))).tr (offD_R hq116.2)).tr (offD_up uq121 (Or.inl rfl)), fun mz h => ?_⟩
              rw [hst] at h
              cases h
              exact ⟨atR_keep hq116.1 (fun a g1 g2 => uq121.2 a (by omega)), uq121.at, fun h => absurd rfl h, fun h => absurd (show (0 : Nat) = 82 from h) (by decide), fun h => absurd (show (0 : Nat) = 87 from h) (by decide)⟩
        · refine wp_icN (pc := 39) (m := 0) d_33_39 (by decide) ?_
          have hst : stepB pl b n ρ 82 rd dg wt = none := by
            unfold stepB
            rw [if_neg hpl, if_pos rfl, if_neg (by rw [if_pos (by omega)]; rw [digit0 b hb] at zq36; exact of_decide_eq_false zq36)]
          exact wp_iret (pc := 40) d_33_40 (Or.inr ⟨rfl, by decide⟩) ⟨_, by rw [hst]; rfl, fun _ _ => rfl, fun mz h => by rw [hst] at h; cases h⟩
theorem dryI_b (b : Nat) (hb : b < 256) (n : Nat) (hn : n ≤ 6) (ρ : SN) (m : PS) : dryI ρ n (nI b - nI 48) = (if 48 ≤ b ∧ b - 48 < n ∧ ρ 4 (b - 48) = 0 then some m else none).isSome := by
  unfold dryI
  by_cases h48 : 48 ≤ b
  · rw [pk_sub h48, inR_nI (by omega), nI_clamp (by omega)]
    unfold dryP
    by_cases h1 : b - 48 < n
    · by_cases h2 : ρ 4 (b - 48) = 0
      · rw [if_pos ⟨h48, h1, h2⟩, decide_eq_true h1, decide_eq_true h2]; rfl
      · rw [if_neg (fun h => h2 h.2.2), decide_eq_true h1, decide_eq_false h2]; rfl
    · rw [if_neg (fun h => h1 h.2.1), decide_eq_false h1]; rfl
  · rw [if_neg (fun h => h48 h.1), inR_b0 (pk_sneg (by decide) (by omega))]; rfl
set_option maxRecDepth 4000 in
theorem c_takesInWater {I : IT} {J : JT} {F : FT} {pl b n rd wt : Nat} {ρ : SN} {dg : Nat → Nat} (hF : Fok F) (hb : b < 256) (hpl : pl ≠ 0) (hok : okP n ρ 87 rd dg wt) (hD : atD I n ρ 87 rd dg wt) (hrd1 : rd ≤ 1) (hwt : rd = 1 → wt < n) : Sp 34 [vR 4, vI (nI b - nI 48)] KK I J F (fun R => ∃ I2, R = (some (vI (b2 (stepB pl b n ρ 87 rd dg wt).isSome)), KK, I2, J, F) ∧ offD I I2 ∧ ∀ mz, stepB pl b n ρ 87 rd dg wt = some mz → atM I2 mz) := by
  refine Sp.mk2 (Nat.le_of_ble_eq_true rfl) (L2 := [_, _]) rfl ?_
  refine wp_aload_n (pc := 0) (i := 0) d_34_0 rfl rfl ?_
  refine wp_gI (pc := 1) d_34_1 fl_4_26 rfl ft_3_3 (hD.2.2.1 (by decide)) ?_
  refine wp_ifN_ne (pc := 4) (tgt := 31) d_34_4 (by decide) (by omega) (fun zq4 => ?_) (fun zq4 => ?_)
  · refine wp_iload_n (pc := 31) (i := 1) d_34_31 rfl rfl ?_
    refine wp_icN (pc := 32) (m := 1) d_34_32 (by decide) ?_
    refine wp_bpN (pc := 33) (m := 9) d_34_33 (by decide) ?_
    refine wp_callSN3p (pc := 35) d_34_35 lk_4_66 (by decide) rfl (Nat.le_of_ble_eq_true rfl) (c_isWithin (nI b - nI 48) (nI 1) (nI 9)) ?_
    refine wp_ifB_ne (pc := 38) (tgt := 43) d_34_38 (by decide) (fun zq38 => ?_) (fun zq38 => ?_)
    · have hbd : 49 ≤ b ∧ b ≤ 57 := by rw [digit1 b hb] at zq38; exact of_decide_eq_true zq38
      rw [pk_sub (show 48 ≤ b by omega)]
      have hrd1 : rd = 1 := by omega
      refine wp_aload_n (pc := 43) (i := 0) d_34_43 rfl rfl ?_
      refine wp_gA (pc := 44) d_34_44 fl_4_12 rfl ft_3_0 (F_4_0 hF) ?_
      refine wp_aload_n (pc := 47) (i := 0) d_34_47 rfl rfl ?_
      refine wp_gI (pc := 48) d_34_48 fl_4_29 rfl ft_3_4 (hD.2.2.2.2 rfl hrd1) ?_
      refine wp_iload_n (pc := 51) (i := 1) d_34_51 rfl rfl ?_
      refine wp_callV2v (pc := 52) d_34_52 lk_4_77 (by decide) rfl (Nat.le_of_ble_eq_true rfl) (kR isR5) rfl (c_tellWater hF isR5 hD.1 (hwt hrd1)) (fun Iq52 hq52 => ?_)
      refine wp_aload_n (pc := 55) (i := 0) d_34_55 rfl rfl ?_
      refine wp_icN (pc := 56) (m := 0) d_34_56 (by decide) ?_
      refine wp_pI (pc := 57) d_34_57 fl_4_22 rfl ft_3_2 rfl (fun Iq57 uq57 => ?_)
      refine wp_icN (pc := 60) (m := 1) d_34_60 (by decide) ?_
      have hst : stepB pl b n ρ 87 rd dg wt = some (n, s2 ρ 4 wt (b - 48), 0, rd, dg, wt) := by
        unfold stepB
        rw [if_neg hpl, if_neg (by decide), if_pos rfl, if_neg zq4, if_pos hbd]
      refine wp_iret (pc := 61) d_34_61 (Or.inr ⟨rfl, by decide⟩) ⟨_, by rw [hst]; rfl, (offD_R hq52.2).tr (offD_up uq57 (Or.inl rfl)), fun mz h => ?_⟩
      rw [hst] at h
      cases h
      exact ⟨atR_keep hq52.1 (fun a g1 g2 => uq57.2 a (by omega)), uq57.at, fun h => absurd rfl h, fun h => absurd (show (0 : Nat) = 82 from h) (by decide), fun h => absurd (show (0 : Nat) = 87 from h) (by decide)⟩
    · refine wp_icN (pc := 41) (m := 0) d_34_41 (by decide) ?_
      have hst : stepB pl b n ρ 87 rd dg wt = none := by
        unfold stepB
        rw [if_neg hpl, if_neg (by decide), if_pos rfl, if_neg zq4, if_neg (by rw [digit1 b hb] at zq38; exact of_decide_eq_false zq38)]
      exact wp_iret (pc := 42) d_34_42 (Or.inr ⟨rfl, by decide⟩) ⟨_, by rw [hst]; rfl, fun _ _ => rfl, fun mz h => by rw [hst] at h; cases h⟩
  · have hrd0 : rd = 0 := zq4
    subst hrd0
    refine wp_aload_n (pc := 7) (i := 0) d_34_7 rfl rfl ?_
    refine wp_iload_n (pc := 8) (i := 1) d_34_8 rfl rfl ?_
    refine wp_pI (pc := 9) d_34_9 fl_4_29 rfl ft_3_4 rfl (fun Iq9 uq9 => ?_)
    refine wp_aload_n (pc := 12) (i := 0) d_34_12 rfl rfl ?_
    refine wp_dup (pc := 13) d_34_13 rfl ?_
    refine wp_gI (pc := 14) d_34_14 fl_4_26 rfl ft_3_3 ((uq9.ne (by decide)).trans (hD.2.2.1 (by decide))) ?_
    refine wp_icN (pc := 17) (m := 1) d_34_17 (by decide) ?_
    refine wp_iaddN (pc := 18) d_34_18 ?_
    refine wp_pI (pc := 19) d_34_19 fl_4_26 rfl ft_3_3 rfl (fun Iq19 uq19 => ?_)
    refine wp_aload_n (pc := 22) (i := 0) d_34_22 rfl rfl ?_
    refine wp_gA (pc := 23) d_34_23 fl_4_12 rfl ft_3_0 (F_4_0 hF) ?_
    refine wp_iload_n (pc := 26) (i := 1) d_34_26 rfl rfl ?_
    refine wp_callV1p (pc := 27) d_34_27 lk_4_74 (by decide) rfl (Nat.le_of_ble_eq_true rfl) (kR isR5) rfl (c_hasDry hF isR5 (atR_keep hD.1 (fun a g1 g2 => by rw [uq19.2 a (by omega), uq9.2 a (by omega)])) (fun j => Nat.lt_of_le_of_lt (hok.2.1 4 j) (by decide)) (nI b - nI 48)) ?_
    have hdi : dryI ρ n (nI b - nI 48) = (stepB pl b n ρ 87 0 dg wt).isSome := by
      unfold stepB
      rw [if_neg hpl, if_neg (by decide), if_pos rfl, if_pos rfl]
      exact dryI_b b hb n (by have h9 := hok.1; exact h9) ρ _
    refine wp_iret (pc := 30) d_34_30 (Or.inr ⟨rfl, b2_01 _⟩) ⟨_, by rw [hdi], (offD_up uq9 (Or.inl rfl)).tr (offD_up uq19 (Or.inl rfl)), fun mz h => ?_⟩
    unfold stepB at h
    rw [if_neg hpl, if_neg (by decide), if_pos rfl, if_pos rfl] at h
    split at h
    next hc =>
      cases h
      exact ⟨atR_keep hD.1 (fun a g1 g2 => by rw [uq19.2 a (by omega), uq9.2 a (by omega)]), (uq19.ne (by decide)).trans ((uq9.ne (by decide)).trans hD.2.1), fun _ => uq19.at, fun h => absurd (show (87 : Nat) = 82 from h) (by decide), fun _ _ => (uq19.ne (by decide)).trans (uq9.at.trans (pk_sub hc.1))⟩
    next => cases h
set_option maxRecDepth 4000 in
theorem c_opensPart {I : IT} {J : JT} {F : FT} {pl b n rd wt : Nat} {ρ : SN} {dg : Nat → Nat} (hF : Fok F) (hb : b < 256) (hpl : pl ≠ 0) (hok : okP n ρ 0 rd dg wt) (hD : atD I n ρ 0 rd dg wt) : Sp 35 [vR 4, vI (nI b)] KK I J F (fun R => ∃ I2, R = (some (vI (b2 (stepB pl b n ρ 0 rd dg wt).isSome)), KK, I2, J, F) ∧ offD I I2 ∧ ∀ mz, stepB pl b n ρ 0 rd dg wt = some mz → atM I2 mz) := by
  refine Sp.mk2 (Nat.le_of_ble_eq_true rfl) (L2 := [_, _, _]) rfl ?_
  refine wp_iload_n (pc := 0) (i := 1) d_35_0 rfl rfl ?_
  refine wp_bpN (pc := 1) (m := 82) d_35_1 (by decide) ?_
  refine wp_icmpN_ne (pc := 3) (tgt := 16) d_35_3 (by decide) (by omega) (by decide) (fun zq3 => ?_) (fun zq3 => ?_)
  · refine wp_iload_n (pc := 16) (i := 1) d_35_16 rfl rfl ?_
    refine wp_bpN (pc := 17) (m := 87) d_35_17 (by decide) ?_
    refine wp_icmpN_ne (pc := 19) (tgt := 36) d_35_19 (by decide) (by omega) (by decide) (fun zq19 => ?_) (fun zq19 => ?_)
    · refine wp_icN (pc := 36) (m := 0) d_35_36 (by decide) ?_
      refine wq_istore_n (pc := 37) (L2 := [_, _, _]) (i := 2) d_35_37 rfl (Nat.le_of_ble_eq_true rfl) rfl rfl ?_
      refine wp_iload_n (pc := 38) (i := 2) d_35_38 rfl rfl ?_
      refine wp_ifN_eq (pc := 39) (tgt := 52) d_35_39 (by decide) (by decide) (fun zq39 => ?_) (fun zq39 => ?_)
      · refine wp_iload_n (pc := 52) (i := 2) d_35_52 rfl rfl ?_
        have hst : stepB pl b n ρ 0 rd dg wt = none := by
          unfold stepB
          rw [if_neg hpl, if_neg (by decide), if_neg (by decide), if_neg (fun h => h.elim (fun h9 => absurd h9.1 (by omega)) (fun h9 => absurd h9.1 (by omega)))]
        exact wp_iret (pc := 53) d_35_53 (Or.inr ⟨rfl, by decide⟩) ⟨_, by rw [hst]; rfl, fun _ _ => rfl, fun mz h => by rw [hst] at h; cases h⟩
      · exact absurd rfl zq39
    · refine wp_aload_n (pc := 22) (i := 0) d_35_22 rfl rfl ?_
      refine wp_gA (pc := 23) d_35_23 fl_4_12 rfl ft_3_0 (F_4_0 hF) ?_
      refine wp_callV0p (pc := 26) d_35_26 lk_4_63 (by decide) rfl (Nat.le_of_ble_eq_true rfl) (kR isR5) rfl (c_hasAnyDry hF isR5 hD.1 (fun j => Nat.lt_of_le_of_lt (hok.2.1 4 j) (by decide))) ?_
      refine wp_ifB_eq (pc := 29) (tgt := 36) d_35_29 (by decide) (fun zq29 => ?_) (fun zq29 => ?_)
      · refine wp_icN (pc := 36) (m := 0) d_35_36 (by decide) ?_
        refine wq_istore_n (pc := 37) (L2 := [_, _, _]) (i := 2) d_35_37 rfl (Nat.le_of_ble_eq_true rfl) rfl rfl ?_
        refine wp_iload_n (pc := 38) (i := 2) d_35_38 rfl rfl ?_
        refine wp_ifN_eq (pc := 39) (tgt := 52) d_35_39 (by decide) (by decide) (fun zq39 => ?_) (fun zq39 => ?_)
        · refine wp_iload_n (pc := 52) (i := 2) d_35_52 rfl rfl ?_
          have hst : stepB pl b n ρ 0 rd dg wt = none := by
            unfold stepB
            rw [if_neg hpl, if_neg (by decide), if_neg (by decide), if_neg (fun h => h.elim (fun h9 => absurd h9.1 (by omega)) (fun h9 => absurd h9.2 (of_decide_eq_false zq29)))]
          exact wp_iret (pc := 53) d_35_53 (Or.inr ⟨rfl, by decide⟩) ⟨_, by rw [hst]; rfl, fun _ _ => rfl, fun mz h => by rw [hst] at h; cases h⟩
        · exact absurd rfl zq39
      · refine wp_icN (pc := 32) (m := 1) d_35_32 (by decide) ?_
        refine wp_goto (pc := 33) (tgt := 37) d_35_33 (by decide) ?_
        refine wq_istore_n (pc := 37) (L2 := [_, _, _]) (i := 2) d_35_37 rfl (Nat.le_of_ble_eq_true rfl) rfl rfl ?_
        refine wp_iload_n (pc := 38) (i := 2) d_35_38 rfl rfl ?_
        refine wp_ifN_eq (pc := 39) (tgt := 52) d_35_39 (by decide) (by decide) (fun zq39 => ?_) (fun zq39 => ?_)
        · exact absurd zq39 (by decide)
        · refine wp_aload_n (pc := 42) (i := 0) d_35_42 rfl rfl ?_
          refine wp_iload_n (pc := 43) (i := 1) d_35_43 rfl rfl ?_
          refine wp_pI (pc := 44) d_35_44 fl_4_22 rfl ft_3_2 rfl (fun Iq44 uq44 => ?_)
          refine wp_aload_n (pc := 47) (i := 0) d_35_47 rfl rfl ?_
          refine wp_icN (pc := 48) (m := 0) d_35_48 (by decide) ?_
          refine wp_pI (pc := 49) d_35_49 fl_4_26 rfl ft_3_3 rfl (fun Iq49 uq49 => ?_)
          refine wp_iload_n (pc := 52) (i := 2) d_35_52 rfl rfl ?_
          have hst : stepB pl b n ρ 0 rd dg wt = some (n, ρ, b, 0, dg, wt) := by
            unfold stepB
            rw [if_neg hpl, if_neg (by decide), if_neg (by decide), if_pos (Or.inr ⟨zq19, of_decide_eq_true zq29⟩)]
          refine wp_iret (pc := 53) d_35_53 (Or.inr ⟨rfl, by decide⟩) ⟨_, by rw [hst]; rfl, (offD_up uq44 (Or.inl rfl)).tr (offD_up uq49 (Or.inl rfl)), fun mz h => ?_⟩
          rw [hst] at h
          cases h
          exact ⟨atR_keep hD.1 (fun a g1 g2 => by rw [uq49.2 a (by omega), uq44.2 a (by omega)]), (uq49.ne (by decide)).trans uq44.at, fun _ => uq49.at, fun _ j hj => absurd hj (Nat.not_lt_zero j), fun _ h => absurd (show (0 : Nat) = 1 from h) (by decide)⟩
  · refine wp_aload_n (pc := 6) (i := 0) d_35_6 rfl rfl ?_
    refine wp_gA (pc := 7) d_35_7 fl_4_12 rfl ft_3_0 (F_4_0 hF) ?_
    refine wp_callV0p (pc := 10) d_35_10 lk_4_59 (by decide) rfl (Nat.le_of_ble_eq_true rfl) (kR isR5) rfl (c_hasRoom isR5 hD.1) ?_
    refine wp_ifB_ne (pc := 13) (tgt := 32) d_35_13 (by decide) (fun zq13 => ?_) (fun zq13 => ?_)
    · refine wp_icN (pc := 32) (m := 1) d_35_32 (by decide) ?_
      refine wp_goto (pc := 33) (tgt := 37) d_35_33 (by decide) ?_
      refine wq_istore_n (pc := 37) (L2 := [_, _, _]) (i := 2) d_35_37 rfl (Nat.le_of_ble_eq_true rfl) rfl rfl ?_
      refine wp_iload_n (pc := 38) (i := 2) d_35_38 rfl rfl ?_
      refine wp_ifN_eq (pc := 39) (tgt := 52) d_35_39 (by decide) (by decide) (fun zq39 => ?_) (fun zq39 => ?_)
      · exact absurd zq39 (by decide)
      · refine wp_aload_n (pc := 42) (i := 0) d_35_42 rfl rfl ?_
        refine wp_iload_n (pc := 43) (i := 1) d_35_43 rfl rfl ?_
        refine wp_pI (pc := 44) d_35_44 fl_4_22 rfl ft_3_2 rfl (fun Iq44 uq44 => ?_)
        refine wp_aload_n (pc := 47) (i := 0) d_35_47 rfl rfl ?_
        refine wp_icN (pc := 48) (m := 0) d_35_48 (by decide) ?_
        refine wp_pI (pc := 49) d_35_49 fl_4_26 rfl ft_3_3 rfl (fun Iq49 uq49 => ?_)
        refine wp_iload_n (pc := 52) (i := 2) d_35_52 rfl rfl ?_
        have hst : stepB pl b n ρ 0 rd dg wt = some (n, ρ, b, 0, dg, wt) := by
          unfold stepB
          rw [if_neg hpl, if_neg (by decide), if_neg (by decide), if_pos (Or.inl ⟨zq3, of_decide_eq_true zq13⟩)]
        refine wp_iret (pc := 53) d_35_53 (Or.inr ⟨rfl, by decide⟩) ⟨_, by rw [hst]; rfl, (offD_up uq44 (Or.inl rfl)).tr (offD_up uq49 (Or.inl rfl)), fun mz h => ?_⟩
        rw [hst] at h
        cases h
        exact ⟨atR_keep hD.1 (fun a g1 g2 => by rw [uq49.2 a (by omega), uq44.2 a (by omega)]), (uq49.ne (by decide)).trans uq44.at, fun _ => uq49.at, fun _ j hj => absurd hj (Nat.not_lt_zero j), fun _ h => absurd (show (0 : Nat) = 1 from h) (by decide)⟩
    · refine wp_iload_n (pc := 16) (i := 1) d_35_16 rfl rfl ?_
      refine wp_bpN (pc := 17) (m := 87) d_35_17 (by decide) ?_
      refine wp_icmpN_ne (pc := 19) (tgt := 36) d_35_19 (by decide) (by omega) (by decide) (fun zq19 => ?_) (fun zq19 => ?_)
      · refine wp_icN (pc := 36) (m := 0) d_35_36 (by decide) ?_
        refine wq_istore_n (pc := 37) (L2 := [_, _, _]) (i := 2) d_35_37 rfl (Nat.le_of_ble_eq_true rfl) rfl rfl ?_
        refine wp_iload_n (pc := 38) (i := 2) d_35_38 rfl rfl ?_
        refine wp_ifN_eq (pc := 39) (tgt := 52) d_35_39 (by decide) (by decide) (fun zq39 => ?_) (fun zq39 => ?_)
        · refine wp_iload_n (pc := 52) (i := 2) d_35_52 rfl rfl ?_
          have hst : stepB pl b n ρ 0 rd dg wt = none := by
            unfold stepB
            rw [if_neg hpl, if_neg (by decide), if_neg (by decide), if_neg (fun h => h.elim (fun h9 => absurd h9.2 (of_decide_eq_false zq13)) (fun h9 => absurd h9.1 (by omega)))]
          exact wp_iret (pc := 53) d_35_53 (Or.inr ⟨rfl, by decide⟩) ⟨_, by rw [hst]; rfl, fun _ _ => rfl, fun mz h => by rw [hst] at h; cases h⟩
        · exact absurd rfl zq39
      · refine wp_aload_n (pc := 22) (i := 0) d_35_22 rfl rfl ?_
        refine wp_gA (pc := 23) d_35_23 fl_4_12 rfl ft_3_0 (F_4_0 hF) ?_
        refine wp_callV0p (pc := 26) d_35_26 lk_4_63 (by decide) rfl (Nat.le_of_ble_eq_true rfl) (kR isR5) rfl (c_hasAnyDry hF isR5 hD.1 (fun j => Nat.lt_of_le_of_lt (hok.2.1 4 j) (by decide))) ?_
        refine wp_ifB_eq (pc := 29) (tgt := 36) d_35_29 (by decide) (fun zq29 => ?_) (fun zq29 => ?_)
        · refine wp_icN (pc := 36) (m := 0) d_35_36 (by decide) ?_
          refine wq_istore_n (pc := 37) (L2 := [_, _, _]) (i := 2) d_35_37 rfl (Nat.le_of_ble_eq_true rfl) rfl rfl ?_
          refine wp_iload_n (pc := 38) (i := 2) d_35_38 rfl rfl ?_
          refine wp_ifN_eq (pc := 39) (tgt := 52) d_35_39 (by decide) (by decide) (fun zq39 => ?_) (fun zq39 => ?_)
          · refine wp_iload_n (pc := 52) (i := 2) d_35_52 rfl rfl ?_
            have hst : stepB pl b n ρ 0 rd dg wt = none := by
              unfold stepB
              rw [if_neg hpl, if_neg (by decide), if_neg (by decide), if_neg (fun h => h.elim (fun h9 => absurd h9.2 (of_decide_eq_false zq13)) (fun h9 => absurd h9.2 (of_decide_eq_false zq29)))]
            exact wp_iret (pc := 53) d_35_53 (Or.inr ⟨rfl, by decide⟩) ⟨_, by rw [hst]; rfl, fun _ _ => rfl, fun mz h => by rw [hst] at h; cases h⟩
          · exact absurd rfl zq39
        · refine wp_icN (pc := 32) (m := 1) d_35_32 (by decide) ?_
          refine wp_goto (pc := 33) (tgt := 37) d_35_33 (by decide) ?_
          refine wq_istore_n (pc := 37) (L2 := [_, _, _]) (i := 2) d_35_37 rfl (Nat.le_of_ble_eq_true rfl) rfl rfl ?_
          refine wp_iload_n (pc := 38) (i := 2) d_35_38 rfl rfl ?_
          refine wp_ifN_eq (pc := 39) (tgt := 52) d_35_39 (by decide) (by decide) (fun zq39 => ?_) (fun zq39 => ?_)
          · exact absurd zq39 (by decide)
          · refine wp_aload_n (pc := 42) (i := 0) d_35_42 rfl rfl ?_
            refine wp_iload_n (pc := 43) (i := 1) d_35_43 rfl rfl ?_
            refine wp_pI (pc := 44) d_35_44 fl_4_22 rfl ft_3_2 rfl (fun Iq44 uq44 => ?_)
            refine wp_aload_n (pc := 47) (i := 0) d_35_47 rfl rfl ?_
            refine wp_icN (pc := 48) (m := 0) d_35_48 (by decide) ?_
            refine wp_pI (pc := 49) d_35_49 fl_4_26 rfl ft_3_3 rfl (fun Iq49 uq49 => ?_)
            refine wp_iload_n (pc := 52) (i := 2) d_35_52 rfl rfl ?_
            have hst : stepB pl b n ρ 0 rd dg wt = some (n, ρ, b, 0, dg, wt) := by
              unfold stepB
              rw [if_neg hpl, if_neg (by decide), if_neg (by decide), if_pos (Or.inr ⟨zq19, of_decide_eq_true zq29⟩)]
            refine wp_iret (pc := 53) d_35_53 (Or.inr ⟨rfl, by decide⟩) ⟨_, by rw [hst]; rfl, (offD_up uq44 (Or.inl rfl)).tr (offD_up uq49 (Or.inl rfl)), fun mz h => ?_⟩
            rw [hst] at h
            cases h
            exact ⟨atR_keep hD.1 (fun a g1 g2 => by rw [uq49.2 a (by omega), uq44.2 a (by omega)]), (uq49.ne (by decide)).trans uq44.at, fun _ => uq49.at, fun _ j hj => absurd hj (Nat.not_lt_zero j), fun _ h => absurd (show (0 : Nat) = 1 from h) (by decide)⟩
set_option maxRecDepth 4000 in
theorem c_told {I : IT} {J : JT} {F : FT} (hF : Fok F) : Sp 36 [vR 4] KK I J F (fun R => R = (some (vR 5), KK, I, J, F)) := by
  refine Sp.mk2 (Nat.le_of_ble_eq_true rfl) (L2 := [_]) rfl ?_
  refine wp_aload_n (pc := 0) (i := 0) d_36_0 rfl rfl ?_
  refine wp_gA (pc := 1) d_36_1 fl_4_12 rfl ft_3_0 (F_4_0 hF) ?_
  exact wp_aret (pc := 4) d_36_4 (Or.inr rfl) rfl
set_option maxRecDepth 4000 in
theorem c_takes {I : IT} {J : JT} {F : FT} {pl b n pt rd wt : Nat} {ρ : SN} {dg : Nat → Nat} (hF : Fok F) (hb : b < 256) (hpl31 : pl < 2 ^ 31) (hok : okP n ρ pt rd dg wt) (hD : atD I n ρ pt rd dg wt) : Sp 32 [vR 4, vI (nI pl), vI (nI b)] KK I J F (fun R => ∃ I2, R = (some (vI (b2 (stepB pl b n ρ pt rd dg wt).isSome)), KK, I2, J, F) ∧ offD I I2 ∧ ∀ mz, stepB pl b n ρ pt rd dg wt = some mz → atM I2 mz) := by
  have hpt31 : pt < 2 ^ 31 := by rcases hok.2.2.1 with h | h | h <;> omega
  refine Sp.mk2 (Nat.le_of_ble_eq_true rfl) (L2 := [_, _, _]) rfl ?_
  refine wp_iload_n (pc := 0) (i := 1) d_32_0 rfl rfl ?_
  refine wp_ifN_ne (pc := 1) (tgt := 16) d_32_1 (by decide) hpl31 (fun zq1 => ?_) (fun zq1 => ?_)
  · refine wp_aload_n (pc := 16) (i := 0) d_32_16 rfl rfl ?_
    refine wp_gI (pc := 17) d_32_17 fl_4_22 rfl ft_3_2 hD.2.1 ?_
    refine wp_bpN (pc := 20) (m := 82) d_32_20 (by decide) ?_
    refine wp_icmpN_ne (pc := 22) (tgt := 34) d_32_22 (by decide) hpt31 (by decide) (fun zq22 => ?_) (fun zq22 => ?_)
    · refine wp_aload_n (pc := 34) (i := 0) d_32_34 rfl rfl ?_
      refine wp_gI (pc := 35) d_32_35 fl_4_22 rfl ft_3_2 hD.2.1 ?_
      refine wp_bpN (pc := 38) (m := 87) d_32_38 (by decide) ?_
      refine wp_icmpN_ne (pc := 40) (tgt := 52) d_32_40 (by decide) hpt31 (by decide) (fun zq40 => ?_) (fun zq40 => ?_)
      · have hpv : pt = 0 := by rcases hok.2.2.1 with h | h | h <;> omega
        subst hpv
        refine wp_aload_n (pc := 52) (i := 0) d_32_52 rfl rfl ?_
        refine wp_iload_n (pc := 53) (i := 2) d_32_53 rfl rfl ?_
        refine wp_callV1e (pc := 54) d_32_54 lk_4_56 (by decide) rfl (Nat.le_of_ble_eq_true rfl) rfl rfl (c_opensPart hF hb zq1 hok hD) (fun Iq54 hq54 => ?_)
        exact wp_iret (pc := 57) d_32_57 (Or.inr ⟨rfl, b2_01 _⟩) ⟨_, rfl, hq54.1, hq54.2⟩
      · refine wp_aload_n (pc := 43) (i := 0) d_32_43 rfl rfl ?_
        refine wp_iload_n (pc := 44) (i := 2) d_32_44 rfl rfl ?_
        have hpv : pt = 87 := zq40
        subst hpv
        refine wp_bpN (pc := 45) (m := 48) d_32_45 (by decide) ?_
        refine wp_isub (pc := 47) d_32_47 ?_
        refine wp_callV1e (pc := 48) d_32_48 lk_4_53 (by decide) rfl (Nat.le_of_ble_eq_true rfl) rfl rfl (c_takesInWater hF hb zq1 hok hD (by rcases hok.2.2.1 with h | h | h <;> omega) (by rcases hok.2.2.1 with h | h | h <;> omega)) (fun Iq48 hq48 => ?_)
        exact wp_iret (pc := 51) d_32_51 (Or.inr ⟨rfl, b2_01 _⟩) ⟨_, rfl, hq48.1, hq48.2⟩
    · refine wp_aload_n (pc := 25) (i := 0) d_32_25 rfl rfl ?_
      refine wp_iload_n (pc := 26) (i := 2) d_32_26 rfl rfl ?_
      have hpv : pt = 82 := zq22
      subst hpv
      refine wp_bpN (pc := 27) (m := 48) d_32_27 (by decide) ?_
      refine wp_isub (pc := 29) d_32_29 ?_
      refine wp_callV1e (pc := 30) d_32_30 lk_4_49 (by decide) rfl (Nat.le_of_ble_eq_true rfl) rfl rfl (c_takesInRoof hF hb zq1 hok hD (by rcases hok.2.2.1 with h | h | h <;> omega) (by rcases hok.2.2.1 with h | h | h <;> omega)) (fun Iq30 hq30 => ?_)
      exact wp_iret (pc := 33) d_32_33 (Or.inr ⟨rfl, b2_01 _⟩) ⟨_, rfl, hq30.1, hq30.2⟩
  · refine wp_iload_n (pc := 4) (i := 2) d_32_4 rfl rfl ?_
    refine wp_bpN (pc := 5) (m := 71) d_32_5 (by decide) ?_
    refine wp_icmpN_ne (pc := 7) (tgt := 14) d_32_7 (by decide) (by omega) (by decide) (fun zq7 => ?_) (fun zq7 => ?_)
    · refine wp_icN (pc := 14) (m := 0) d_32_14 (by decide) ?_
      have hst : stepB pl b n ρ pt rd dg wt = none := by
        unfold stepB
        rw [if_pos zq1, if_neg zq7]
      exact wp_iret (pc := 15) d_32_15 (Or.inr ⟨rfl, by decide⟩) ⟨_, by rw [hst]; rfl, fun _ _ => rfl, fun mz h => by rw [hst] at h; cases h⟩
    · refine wp_icN (pc := 10) (m := 1) d_32_10 (by decide) ?_
      refine wp_goto (pc := 11) (tgt := 15) d_32_11 (by decide) ?_
      have hst : stepB pl b n ρ pt rd dg wt = some (n, ρ, pt, rd, dg, wt) := by
        unfold stepB
        rw [if_pos zq1, if_pos zq7]
      exact wp_iret (pc := 15) d_32_15 (Or.inr ⟨rfl, by decide⟩) ⟨_, by rw [hst]; rfl, fun _ _ => rfl, fun mz h => by rw [hst] at h; cases h; exact hD⟩
/-- reading goes on from a place: the fault, and what is told if there is none -/
def finN (tx : Nat → Nat) (tl : Nat) : Nat → Nat → PS → Int32 × Option PS
  | 0, _, mz => if 0 < tl ∧ mz.2.2.1 = 0 then (-9, some mz) else (nI tl, none)
  | d + 1, pl, mz => match stepM pl (tx pl) mz with
    | none => (nI pl, none)
    | some mz2 => finN tx tl d (pl + 1) mz2
def PS0 : PS := (0, fun _ _ => 0, 0, 0, fun _ => 0, 0)
def fltN (tx : Nat → Nat) (tl : Nat) : Int32 × Option PS := finN tx tl tl 0 PS0
theorem fin_some {tx : Nat → Nat} {tl d pl : Nat} {mz mz2 : PS} (h : stepM pl (tx pl) mz = some mz2) : finN tx tl (d + 1) pl mz = finN tx tl d (pl + 1) mz2 := by
  show (match stepM pl (tx pl) mz with | none => _ | some mz2 => _) = _
  rw [h]
theorem fin_none {tx : Nat → Nat} {tl d pl : Nat} {mz : PS} (h : stepM pl (tx pl) mz = none) : finN tx tl (d + 1) pl mz = (nI pl, none) := by
  show (match stepM pl (tx pl) mz with | none => _ | some mz2 => _) = _
  rw [h]
theorem okM_0 : okM PS0 := ⟨by decide, fun _ _ => Nat.zero_le 9, Or.inl rfl, fun _ => Nat.zero_le 9⟩
set_option maxRecDepth 4000 in
theorem faultIn_step {I0 : IT} {J : JT} {F : FT} {tx : Nat → Nat} {tl : Nat} {v : Int32 × Option PS} (hF : Fok F) (h40 : tl ≤ 40) (h256 : ∀ j, tx j < 256) (hTl : I0 2 1 = nI tl) (hTx : ∀ j, j < tl → I0 3 j = nI (tx j)) (i : Nat) (hi0 : i ≤ tl) (I : IT) (ms : PS) (hok : okM ms) (hA : atM I ms) (hoff : offD I0 I) (hv : v = finN tx tl (tl - i) i ms)
    (ih0 : ∀ i', i < tl → i' = i + 1 → ∀ (I : IT) (ms : PS), (okM ms) → (atM I ms) → (offD I0 I) → (v = finN tx tl (tl - i') i' ms) → Wp none 31 (fun R => ∃ I2, R = (some (vI v.1), KK, I2, J, F) ∧ offD I0 I2 ∧ ∀ mz, v.2 = some mz → atM I2 mz ∧ okM mz) 14 [some (vR 4), some (vR 2), some (vI (nI i'))] [] KK I J F) : Wp none 31 (fun R => ∃ I2, R = (some (vI v.1), KK, I2, J, F) ∧ offD I0 I2 ∧ ∀ mz, v.2 = some mz → atM I2 mz ∧ okM mz) 14 [some (vR 4), some (vR 2), some (vI (nI i))] [] KK I J F := by
  have hpt31 : ms.2.2.1 < 2 ^ 31 := by rcases hok.2.2.1 with h | h | h <;> omega
  refine wp_iload_n (pc := 14) (i := 2) d_31_14 rfl rfl ?_
  refine wp_aload_n (pc := 15) (i := 1) d_31_15 rfl rfl ?_
  refine wp_callV0p (pc := 16) d_31_16 lk_4_35 (by decide) rfl (Nat.le_of_ble_eq_true rfl) rfl rfl (c_Tlength (v := tl) (by rw [hoff 2 (by omega)]; exact hTl)) ?_
  refine wp_icmpN_ge (pc := 19) (tgt := 43) d_31_19 (by decide) (by omega) (by omega) (fun zq19 => ?_) (fun zq19 => ?_)
  · refine wp_aload_n (pc := 43) (i := 1) d_31_43 rfl rfl ?_
    refine wp_callV0p (pc := 44) d_31_44 lk_4_35 (by decide) rfl (Nat.le_of_ble_eq_true rfl) rfl rfl (c_Tlength (v := tl) (by rw [hoff 2 (by omega)]; exact hTl)) ?_
    refine wp_ifN_le (pc := 47) (tgt := 61) d_31_47 (by decide) (by omega) (fun zq47 => ?_) (fun zq47 => ?_)
    · refine wp_icN (pc := 61) (m := 0) d_31_61 (by decide) ?_
      refine wq_istore_n (pc := 62) (L2 := [_, _, _]) (i := 2) d_31_62 rfl (Nat.le_of_ble_eq_true rfl) rfl rfl ?_
      refine wp_iload_n (pc := 63) (i := 2) d_31_63 rfl rfl ?_
      refine wp_ifN_eq (pc := 64) (tgt := 72) d_31_64 (by decide) (by decide) (fun zq64 => ?_) (fun zq64 => ?_)
      · refine wp_aload_n (pc := 72) (i := 1) d_31_72 rfl rfl ?_
        refine wp_callV0p (pc := 73) d_31_73 lk_4_35 (by decide) rfl (Nat.le_of_ble_eq_true rfl) rfl rfl (c_Tlength (v := tl) (by rw [hoff 2 (by omega)]; exact hTl)) ?_
        have hv2 : v = (nI tl, none) := by rw [hv, show tl - i = 0 by omega]; exact if_neg (fun h => absurd h.1 (by omega))
        exact wp_iret (pc := 76) d_31_76 (Or.inl rfl) ⟨_, by rw [hv2], hoff, fun mz h => by rw [hv2] at h; cases h⟩
      · exact absurd rfl zq64
    · refine wp_aload_n (pc := 50) (i := 0) d_31_50 rfl rfl ?_
      refine wp_gI (pc := 51) d_31_51 fl_4_22 rfl ft_3_2 hA.2.1 ?_
      refine wp_ifN_ne (pc := 54) (tgt := 61) d_31_54 (by decide) hpt31 (fun zq54 => ?_) (fun zq54 => ?_)
      · refine wp_icN (pc := 61) (m := 0) d_31_61 (by decide) ?_
        refine wq_istore_n (pc := 62) (L2 := [_, _, _]) (i := 2) d_31_62 rfl (Nat.le_of_ble_eq_true rfl) rfl rfl ?_
        refine wp_iload_n (pc := 63) (i := 2) d_31_63 rfl rfl ?_
        refine wp_ifN_eq (pc := 64) (tgt := 72) d_31_64 (by decide) (by decide) (fun zq64 => ?_) (fun zq64 => ?_)
        · refine wp_aload_n (pc := 72) (i := 1) d_31_72 rfl rfl ?_
          refine wp_callV0p (pc := 73) d_31_73 lk_4_35 (by decide) rfl (Nat.le_of_ble_eq_true rfl) rfl rfl (c_Tlength (v := tl) (by rw [hoff 2 (by omega)]; exact hTl)) ?_
          have hv2 : v = (nI tl, none) := by rw [hv, show tl - i = 0 by omega]; exact if_neg (fun h => zq54 h.2)
          exact wp_iret (pc := 76) d_31_76 (Or.inl rfl) ⟨_, by rw [hv2], hoff, fun mz h => by rw [hv2] at h; cases h⟩
        · exact absurd rfl zq64
      · refine wp_icN (pc := 57) (m := 1) d_31_57 (by decide) ?_
        refine wp_goto (pc := 58) (tgt := 62) d_31_58 (by decide) ?_
        refine wq_istore_n (pc := 62) (L2 := [_, _, _]) (i := 2) d_31_62 rfl (Nat.le_of_ble_eq_true rfl) rfl rfl ?_
        refine wp_iload_n (pc := 63) (i := 2) d_31_63 rfl rfl ?_
        refine wp_ifN_eq (pc := 64) (tgt := 72) d_31_64 (by decide) (by decide) (fun zq64 => ?_) (fun zq64 => ?_)
        · exact absurd zq64 (by decide)
        · refine wp_bipush (pc := 67) (v := (-9)) d_31_67 (by decide) ?_
          refine wp_goto (pc := 69) (tgt := 76) d_31_69 (by decide) ?_
          have hv2 : v = (-9, some ms) := by rw [hv, show tl - i = 0 by omega]; exact if_pos (⟨zq47, zq54⟩)
          exact wp_iret (pc := 76) d_31_76 (Or.inl rfl) ⟨_, by rw [hv2], hoff, fun mz h => by rw [hv2] at h; cases h; exact ⟨hA, hok⟩⟩
  · refine wp_aload_n (pc := 22) (i := 0) d_31_22 rfl rfl ?_
    refine wp_iload_n (pc := 23) (i := 2) d_31_23 rfl rfl ?_
    refine wp_aload_n (pc := 24) (i := 1) d_31_24 rfl rfl ?_
    refine wp_iload_n (pc := 25) (i := 2) d_31_25 rfl rfl ?_
    refine wp_callV1p (pc := 26) d_31_26 lk_4_41 (by decide) rfl (Nat.le_of_ble_eq_true rfl) rfl rfl (c_Tat hF (by omega) (by rw [hoff 3 (by omega)]; exact hTx i zq19)) ?_
    refine wp_callV2e (pc := 29) d_31_29 lk_4_45 (by decide) rfl (Nat.le_of_ble_eq_true rfl) rfl rfl (c_takes (pl := i) (b := tx i) hF (h256 i) (by omega) hok hA) (fun Iq29 hq29 => ?_)
    refine wp_ifB_ne (pc := 32) (tgt := 37) d_31_32 (by decide) (fun zq32 => ?_) (fun zq32 => ?_)
    · refine wq_iincN (pc := 37) (L2 := [_, _, _]) d_31_37 rfl (b := 1) (by decide) rfl rfl ?_
      refine wp_goto (pc := 40) (tgt := 14) d_31_40 (by decide) ?_
      obtain ⟨mz, hmz⟩ := Option.isSome_iff_exists.mp zq32
      refine ih0 (i + 1) zq19 rfl _ mz (okP_step hok hmz) (hq29.2 mz hmz) (hoff.tr hq29.1) ?_
      rw [hv, show tl - i = (tl - (i + 1)) + 1 by omega]
      exact fin_some hmz
    · refine wp_iload_n (pc := 35) (i := 2) d_31_35 rfl rfl ?_
      have hmz : stepM i (tx i) ms = none := by
        rcases hcs : stepM i (tx i) ms with _ | mz
        · rfl
        · rw [show stepB i (tx i) ms.1 ms.2.1 ms.2.2.1 ms.2.2.2.1 ms.2.2.2.2.1 ms.2.2.2.2.2 = some mz from hcs] at zq32; cases zq32
      have hv2 : v = (nI i, none) := by rw [hv, show tl - i = (tl - (i + 1)) + 1 by omega]; exact fin_none hmz
      exact wp_iret (pc := 36) d_31_36 (Or.inl rfl) ⟨_, by rw [hv2], hoff.tr hq29.1, fun mz h => by rw [hv2] at h; cases h⟩
theorem faultIn_loop {I0 : IT} {J : JT} {F : FT} {tx : Nat → Nat} {tl : Nat} {v : Int32 × Option PS} (hF : Fok F) (h40 : tl ≤ 40) (h256 : ∀ j, tx j < 256) (hTl : I0 2 1 = nI tl) (hTx : ∀ j, j < tl → I0 3 j = nI (tx j)) : ∀ (d i : Nat), i + d = tl → ∀ (I : IT) (ms : PS), (okM ms) → (atM I ms) → (offD I0 I) → (v = finN tx tl (tl - i) i ms) → Wp none 31 (fun R => ∃ I2, R = (some (vI v.1), KK, I2, J, F) ∧ offD I0 I2 ∧ ∀ mz, v.2 = some mz → atM I2 mz ∧ okM mz) 14 [some (vR 4), some (vR 2), some (vI (nI i))] [] KK I J F := by
  intro d
  induction d with
  | zero =>
    intro i hid I ms hok hA hoff hv
    exact faultIn_step hF h40 h256 hTl hTx i (by omega) I ms hok hA hoff hv (fun i' hlt => absurd hlt (by omega))
  | succ d ih =>
    intro i hid I ms hok hA hoff hv
    exact faultIn_step hF h40 h256 hTl hTx i (by omega) I ms hok hA hoff hv (fun i' hlt he => ih i' (by omega))

set_option maxRecDepth 4000 in
theorem c_faultIn {I0 : IT} {J : JT} {F : FT} {tx : Nat → Nat} {tl : Nat} (hF : Fok F) (h40 : tl ≤ 40) (h256 : ∀ j, tx j < 256) (hTl : I0 2 1 = nI tl) (hTx : ∀ j, j < tl → I0 3 j = nI (tx j)) : Sp 31 [vR 4, vR 2] KK I0 J F (fun R => ∃ I2, R = (some (vI (fltN tx tl).1), KK, I2, J, F) ∧ offD I0 I2 ∧ ∀ mz, (fltN tx tl).2 = some mz → atM I2 mz ∧ okM mz) := by
  refine Sp.mk2 (Nat.le_of_ble_eq_true rfl) (L2 := [_, _, _]) rfl ?_
  refine wp_aload_n (pc := 0) (i := 0) d_31_0 rfl rfl ?_
  refine wp_gA (pc := 1) d_31_1 fl_4_12 rfl ft_3_0 (F_4_0 hF) ?_
  refine wp_callV0v (pc := 4) d_31_4 lk_4_32 (by decide) rfl (Nat.le_of_ble_eq_true rfl) (kR isR5) rfl (c_Rclear isR5) (fun Iq4 hq4 => ?_)
  refine wp_aload_n (pc := 7) (i := 0) d_31_7 rfl rfl ?_
  refine wp_icN (pc := 8) (m := 0) d_31_8 (by decide) ?_
  refine wp_pI (pc := 9) d_31_9 fl_4_22 rfl ft_3_2 rfl (fun Iq9 uq9 => ?_)
  refine wp_icN (pc := 12) (m := 0) d_31_12 (by decide) ?_
  refine wq_istore_n (pc := 13) (L2 := [_, _, _]) (i := 2) d_31_13 rfl (Nat.le_of_ble_eq_true rfl) rfl rfl ?_
  exact faultIn_loop hF h40 h256 hTl hTx tl 0 (by omega) _ PS0 okM_0 ⟨⟨by decide, (uq9.off (by decide)).trans hq4.at, fun k hk j hj => absurd hj (Nat.not_lt_zero j)⟩, uq9.at, fun h => absurd rfl h, fun h => absurd (show (0 : Nat) = 82 from h) (by decide), fun h => absurd (show (0 : Nat) = 87 from h) (by decide)⟩ ((offD_R (offR_fld hq4)).tr (offD_up uq9 (Or.inl rfl))) rfl
