/-- a reader's state: roofs told, the part that is open, how many bytes of it are read, its digits, whom water is told of -/
abbrev PS : Type := Nat × SN × Nat × Nat × (Nat → Nat) × Nat
def dgs (dg : Nat → Nat) (rd b : Nat) : Nat → Nat := fun j => if j = rd then b - 48 else dg j
/-- a byte at a place -/
def stepB (pl b : Nat) (m : PS) : Option PS :=
  if pl = 0 then (if b = 71 then some m else none)
  else if m.2.2.1 = 82 then
    (if (if m.2.2.2.1 = 0 ∨ m.2.2.2.1 = 2 then 48 else 49) ≤ b ∧ b ≤ 57 then
      (if m.2.2.2.1 + 1 = 4 then some (m.1 + 1, addN m.2.1 m.1 (dgs m.2.2.2.2.1 m.2.2.2.1 b 0) (dgs m.2.2.2.2.1 m.2.2.2.1 b 1) (dgs m.2.2.2.2.1 m.2.2.2.1 b 2) (dgs m.2.2.2.2.1 m.2.2.2.1 b 3), 0, 4, dgs m.2.2.2.2.1 m.2.2.2.1 b, m.2.2.2.2.2)
       else some (m.1, m.2.1, 82, m.2.2.2.1 + 1, dgs m.2.2.2.2.1 m.2.2.2.1 b, m.2.2.2.2.2))
     else none)
  else if m.2.2.1 = 87 then
    (if m.2.2.2.1 = 0 then (if 48 ≤ b ∧ b - 48 < m.1 ∧ m.2.1 4 (b - 48) = 0 then some (m.1, m.2.1, 87, 1, m.2.2.2.2.1, b - 48) else none)
     else (if 49 ≤ b ∧ b ≤ 57 then some (m.1, s2 m.2.1 4 m.2.2.2.2.2 (b - 48), 0, m.2.2.2.1, m.2.2.2.2.1, m.2.2.2.2.2) else none))
  else (if (b = 82 ∧ m.1 < 6) ∨ (b = 87 ∧ 0 < bitsN (dryP m.2.1) m.1) then some (m.1, m.2.1, b, 0, m.2.2.2.2.1, m.2.2.2.2.2) else none)
/-- the state is sound -/
def okP (m : PS) : Prop := m.1 ≤ 6 ∧ (∀ k j, m.2.1 k j ≤ 9) ∧ (m.2.2.1 = 0 ∨ (m.2.2.1 = 82 ∧ m.1 < 6 ∧ m.2.2.2.1 < 4 ∧ ∀ j, m.2.2.2.2.1 j ≤ 9) ∨ (m.2.2.1 = 87 ∧ m.2.2.2.1 ≤ 1 ∧ (m.2.2.2.1 = 1 → m.2.2.2.2.2 < m.1))) ∧ ∀ j, m.2.2.2.2.1 j ≤ 9
/-- the reader's cells hold it -/
def atD (I : IT) (m : PS) : Prop := atR I 5 m.2.1 m.1 ∧ I 4 2 = nI m.2.2.1 ∧ (m.2.2.1 ≠ 0 → I 4 3 = nI m.2.2.2.1) ∧ (m.2.2.1 = 82 → ∀ j, j < m.2.2.2.1 → I 11 j = nI (m.2.2.2.2.1 j)) ∧ (m.2.2.1 = 87 → m.2.2.2.1 = 1 → I 4 4 = nI m.2.2.2.2.2)
def offD (I I2 : IT) : Prop := ∀ a, (a < 4 ∨ 11 < a) → I2 a = I a
theorem offD.tr {I I2 I3 : IT} (h : offD I I2) (h2 : offD I2 I3) : offD I I3 := fun a ha => (h2 a ha).trans (h a ha)
theorem offD_up {I I2 : IT} {a q : Nat} {x : Int32} (u : Up I I2 a q x) (ha : a = 4 ∨ a = 11) : offD I I2 := fun b hb => u.2 b (by omega)
theorem offD_R {I I2 : IT} (h : offR 5 I I2) : offD I I2 := fun b hb => h b (by omega)
theorem digit0 : ∀ b, b < 256 → inB (nI b - nI 48) (nI 0) (nI 9) = decide (48 ≤ b ∧ b ≤ 57) := by decide +kernel
theorem digit1 : ∀ b, b < 256 → inB (nI b - nI 48) (nI 1) (nI 9) = decide (49 ≤ b ∧ b ≤ 57) := by decide +kernel
theorem okP_step {pl b : Nat} {m m' : PS} (h : okP m) (hb : b < 256) (hs : stepB pl b m = some m') : okP m' := by
  obtain ⟨n, ρ, pt, rd, dg, wt⟩ := m
  obtain ⟨h1, h2, h3, h4⟩ := h
  dsimp only at h1 h2 h3 h4
  unfold stepB at hs
  dsimp only at hs
  have hdg : ∀ j, (b ≤ 57) → dgs dg rd b j ≤ 9 := fun j hb57 => by
    unfold dgs
    split
    · omega
    · exact h4 j
  split at hs
  · split at hs
    · cases hs; exact ⟨h1, h2, h3, h4⟩
    · cases hs
  · split at hs
    next hp82 =>
      split at hs
      next hbd =>
        have h3' : n < 6 ∧ rd < 4 := by
          rcases h3 with h3 | h3 | h3
          · omega
          · exact ⟨h3.2.1, h3.2.2.1⟩
          · omega
        split at hs
        · cases hs
          refine ⟨by dsimp only; omega, fun k j => ?_, Or.inl rfl, fun j => hdg j hbd.2⟩
          dsimp only
          unfold addN
          split
          · split
            · exact hdg _ hbd.2
            · split
              · exact hdg _ hbd.2
              · split
                · exact hdg _ hbd.2
                · split
                  · exact hdg _ hbd.2
                  · omega
          · exact h2 k j
        · cases hs
          exact ⟨h1, h2, Or.inr (Or.inl ⟨rfl, h3'.1, by dsimp only; omega, fun j => hdg j hbd.2⟩), fun j => hdg j hbd.2⟩
      · cases hs
    · split at hs
      next hp87 =>
        split at hs
        next hr0 =>
          split at hs
          next hc => cases hs; exact ⟨h1, h2, Or.inr (Or.inr ⟨rfl, by dsimp only; omega, fun _ => hc.2.1⟩), h4⟩
          · cases hs
        · split at hs
          next hc =>
            cases hs
            refine ⟨h1, fun k j => ?_, Or.inl rfl, h4⟩
            dsimp only
            unfold s2
            split
            · omega
            · exact h2 k j
          · cases hs
      · split at hs
        next hc =>
          cases hs
          refine ⟨h1, h2, ?_, h4⟩
          rcases hc with ⟨e, hn⟩ | ⟨e, -⟩
          · exact Or.inr (Or.inl ⟨e, hn, by decide, h4⟩)
          · exact Or.inr (Or.inr ⟨e, by decide, fun h9 => absurd h9 (by decide)⟩)
        · cases hs
set_option maxRecDepth 4000 in
theorem c_takesInRoof {I : IT} {J : JT} {F : FT} {pl b n rd wt : Nat} {ρ : SN} {dg : Nat → Nat} (hF : Fok F) (hb : b < 256) (hpl : pl ≠ 0) (hok : okP (n, ρ, 82, rd, dg, wt)) (hD : atD I (n, ρ, 82, rd, dg, wt)) (hrd4 : rd < 4) (hn6 : n < 6) : Sp 33 [vR 4, vI (nI b - nI 48)] KK I J F (fun R => ∃ I2, R = (some (vI (b2 (stepB pl b (n, ρ, 82, rd, dg, wt)).isSome)), KK, I2, J, F) ∧ offD I I2 ∧ ∀ m2, stepB pl b (n, ρ, 82, rd, dg, wt) = some m2 → atD I2 m2) := by
  refine Sp.mk2 (Nat.le_of_ble_eq_true rfl) (L2 := [_, _, _]) rfl ?_
  refine wp_aload_n (pc := 0) (i := 0) d_33_0 rfl rfl ?_
  refine wp_gI (pc := 1) d_33_1 fl_4_26 rfl ft_3_3 (hD.2.2.1 (by decide)) ?_
  refine wp_ifN_eq (pc := 4) (tgt := 15) d_33_4 (by decide) (by omega) (fun zq4 => ?_) (fun zq4 => ?_)
  · refine wp_icN (pc := 15) (m := 1) d_33_15 (by decide) ?_
    refine wp_goto (pc := 16) (tgt := 20) d_33_16 (by decide) ?_
    refine wq_istore_n (pc := 20) (L2 := [_, _, _]) (i := 2) d_33_20 rfl (Nat.le_of_ble_eq_true rfl) rfl rfl ?_
    refine wp_iload_n (pc := 21) (i := 1) d_33_21 rfl rfl ?_
    refine wp_iload_n (pc := 22) (i := 2) d_33_22 rfl rfl ?_
    refine wp_ifN_eq (pc := 23) (tgt := 30) d_33_23 (by decide) (by decide) (fun zq23 => ?_) (fun zq23 => ?_)
    · exact absurd zq23 (by decide)
    · refine wp_icN (pc := 26) (m := 0) d_33_26 (by decide) ?_
      refine wp_goto (pc := 27) (tgt := 31) d_33_27 (by decide) ?_
      refine wp_bpN (pc := 31) (m := 9) d_33_31 (by decide) ?_
      refine wp_callSN3p (pc := 33) d_33_33 lk_4_66 (by decide) rfl (Nat.le_of_ble_eq_true rfl) (c_isWithin (nI b - nI 48) (nI 0) (nI 9)) ?_
      refine wp_ifB_ne (pc := 36) (tgt := 41) d_33_36 (by decide) (fun zq36 => ?_) (fun zq36 => ?_)
      · have hbd : (if rd = 0 ∨ rd = 2 then 48 else 49) ≤ b ∧ b ≤ 57 := by rw [if_pos (by omega)]; rw [digit0 b hb] at zq36; exact of_decide_eq_true zq36
        have hb48 : 48 ≤ b := by have h9 := hbd.1; split at h9 <;> omega
        rw [pk_sub hb48]
        refine wp_aload_n (pc := 41) (i := 0) d_33_41 rfl rfl ?_
        refine wp_gI (pc := 42) d_33_42 fl_4_26 rfl ft_3_3 (hD.2.2.1 (by decide)) ?_
        refine wp_ifN_lt (pc := 45) (tgt := 70) d_33_45 (by decide) (by omega) ?_
        refine wp_aload_n (pc := 48) (i := 0) d_33_48 rfl rfl ?_
        refine wp_gI (pc := 49) d_33_49 fl_4_26 rfl ft_3_3 (hD.2.2.1 (by decide)) ?_
        refine wp_aload_n (pc := 52) (i := 0) d_33_52 rfl rfl ?_
        refine wp_gA (pc := 53) d_33_53 fl_4_18 rfl ft_3_1 (F_4_1 hF) ?_
        refine wp_alen (pc := 56) d_33_56 rfl (by decide) ?_
        refine wp_icmpN_ge (pc := 57) (tgt := 70) d_33_57 (by decide) (by omega) (by decide) (fun zq57 => ?_) (fun zq57 => ?_)
        · exact absurd zq57 (by omega)
        · refine wp_aload_n (pc := 60) (i := 0) d_33_60 rfl rfl ?_
          refine wp_gA (pc := 61) d_33_61 fl_4_18 rfl ft_3_1 (F_4_1 hF) ?_
          refine wp_aload_n (pc := 64) (i := 0) d_33_64 rfl rfl ?_
          refine wp_gI (pc := 65) d_33_65 fl_4_26 rfl ft_3_3 (hD.2.2.1 (by decide)) ?_
          refine wp_iload_n (pc := 68) (i := 1) d_33_68 rfl rfl ?_
          refine wp_aS (pc := 69) (j := rd) d_33_69 rfl rfl hrd4 (by decide) (fun Iq69 uq69 => ?_)
          refine wp_aload_n (pc := 70) (i := 0) d_33_70 rfl rfl ?_
          refine wp_dup (pc := 71) d_33_71 rfl ?_
          refine wp_gI (pc := 72) d_33_72 fl_4_26 rfl ft_3_3 ((uq69.off (by decide)).trans (hD.2.2.1 (by decide))) ?_
          refine wp_icN (pc := 75) (m := 1) d_33_75 (by decide) ?_
          refine wp_iaddN (pc := 76) d_33_76 ?_
          refine wp_pI (pc := 77) d_33_77 fl_4_26 rfl ft_3_3 rfl (fun Iq77 uq77 => ?_)
          refine wp_aload_n (pc := 80) (i := 0) d_33_80 rfl rfl ?_
          refine wp_gI (pc := 81) d_33_81 fl_4_26 rfl ft_3_3 uq77.at ?_
          refine wp_icN (pc := 84) (m := 4) d_33_84 (by decide) ?_
          refine wp_icmpN_ne (pc := 85) (tgt := 124) d_33_85 (by decide) (by omega) (by decide) (fun zq85 => ?_) (fun zq85 => ?_)
          · refine wp_icN (pc := 124) (m := 1) d_33_124 (by decide) ?_
            have hst : stepB pl b (n, ρ, 82, rd, dg, wt) = some (n, ρ, 82, rd + 1, dgs dg rd b, wt) := by
              unfold stepB
              rw [if_neg hpl, if_pos rfl, if_pos hbd, if_neg zq85]
            refine wp_iret (pc := 125) d_33_125 (Or.inr ⟨rfl, by decide⟩) ⟨_, by rw [hst]; rfl, (offD_up uq69 (Or.inr rfl)).tr (offD_up uq77 (Or.inl rfl)), fun m2 h => ?_⟩
            rw [hst] at h
            cases h
            refine ⟨atR_keep hD.1 (fun a g1 g2 => by rw [uq77.2 a (by omega), uq69.2 a (by omega)]), (uq77.ne (by decide)).trans ((uq69.off (by decide)).trans hD.2.1), fun _ => uq77.at, fun _ j hj => ?_, fun h => absurd h (by decide)⟩
            rw [uq77.off (by decide)]
            dsimp only at hj ⊢
            unfold dgs
            by_cases e : j = rd
            · rw [if_pos e, e]; exact uq69.at
            · rw [if_neg e, uq69.ne e]; exact hD.2.2.2.1 rfl j (by dsimp only; omega)
          · have hrd3 : rd = 3 := by omega
            subst hrd3
            have hR77 : atR Iq77 5 ρ n := atR_keep hD.1 (fun a g1 g2 => by rw [uq77.2 a (by omega), uq69.2 a (by omega)])
            refine wp_aload_n (pc := 88) (i := 0) d_33_88 rfl rfl ?_
            refine wp_gA (pc := 89) d_33_89 fl_4_12 rfl ft_3_0 (F_4_0 hF) ?_
            refine wp_aload_n (pc := 92) (i := 0) d_33_92 rfl rfl ?_
            refine wp_gA (pc := 93) d_33_93 fl_4_18 rfl ft_3_1 (F_4_1 hF) ?_
            refine wp_icN (pc := 96) (m := 0) d_33_96 (by decide) ?_
            refine wp_aL (pc := 97) (j := 0) d_33_97 rfl rfl (by decide) (by decide) ((uq77.off (by decide)).trans ((uq69.ne (by decide)).trans (hD.2.2.2.1 rfl 0 (by decide)))) ?_
            refine wp_aload_n (pc := 98) (i := 0) d_33_98 rfl rfl ?_
            refine wp_gA (pc := 99) d_33_99 fl_4_18 rfl ft_3_1 (F_4_1 hF) ?_
            refine wp_icN (pc := 102) (m := 1) d_33_102 (by decide) ?_
            refine wp_aL (pc := 103) (j := 1) d_33_103 rfl rfl (by decide) (by decide) ((uq77.off (by decide)).trans ((uq69.ne (by decide)).trans (hD.2.2.2.1 rfl 1 (by decide)))) ?_
            refine wp_aload_n (pc := 104) (i := 0) d_33_104 rfl rfl ?_
            refine wp_gA (pc := 105) d_33_105 fl_4_18 rfl ft_3_1 (F_4_1 hF) ?_
            refine wp_icN (pc := 108) (m := 2) d_33_108 (by decide) ?_
            refine wp_aL (pc := 109) (j := 2) d_33_109 rfl rfl (by decide) (by decide) ((uq77.off (by decide)).trans ((uq69.ne (by decide)).trans (hD.2.2.2.1 rfl 2 (by decide)))) ?_
            refine wp_aload_n (pc := 110) (i := 0) d_33_110 rfl rfl ?_
            refine wp_gA (pc := 111) d_33_111 fl_4_18 rfl ft_3_1 (F_4_1 hF) ?_
            refine wp_icN (pc := 114) (m := 3) d_33_114 (by decide) ?_
            refine wp_aL (pc := 115) (j := 3) d_33_115 rfl rfl (by decide) (by decide) ((uq77.off (by decide)).trans uq69.at) ?_
            refine wp_callV4v (pc := 116) d_33_116 lk_4_70 (by decide) rfl (Nat.le_of_ble_eq_true rfl) (kR isR5) rfl (c_add hF isR5 hR77 hn6) (fun Iq116 hq116 => ?_)
            refine wp_aload_n (pc := 119) (i := 0) d_33_119 rfl rfl ?_
            refine wp_icN (pc := 120) (m := 0) d_33_120 (by decide) ?_
            refine wp_pI (pc := 121) d_33_121 fl_4_22 rfl ft_3_2 rfl (fun Iq121 uq121 => ?_)
            refine wp_icN (pc := 124) (m := 1) d_33_124 (by decide) ?_
            have hst : stepB pl b (n, ρ, 82, 3, dg, wt) = some (n + 1, addN ρ n (dg 0) (dg 1) (dg 2) (b - 48), 0, 4, dgs dg 3 b, wt) := by
              unfold stepB
              rw [if_neg hpl, if_pos rfl, if_pos hbd, if_pos rfl]
              rfl
            refine wp_iret (pc := 125) d_33_125 (Or.inr ⟨rfl, by decide⟩) ⟨_, by rw [hst]; rfl, (((offD_up uq69 (Or.inr rfl)).tr (offD_up uq77 (Or.inl rfl))).tr (offD_R hq116.2)).tr (offD_up uq121 (Or.inl rfl)), fun m2 h => ?_⟩
            rw [hst] at h
            cases h
            exact ⟨atR_keep hq116.1 (fun a g1 g2 => uq121.2 a (by omega)), uq121.at, fun h => absurd rfl h, fun h => absurd h (by decide), fun h => absurd h (by decide)⟩
      · refine wp_icN (pc := 39) (m := 0) d_33_39 (by decide) ?_
        have hst : stepB pl b (n, ρ, 82, rd, dg, wt) = none := by
          unfold stepB
          rw [if_neg hpl, if_pos rfl, if_neg (by dsimp only; rw [if_pos (by omega)]; rw [digit0 b hb] at zq36; exact of_decide_eq_false zq36)]
        exact wp_iret (pc := 40) d_33_40 (Or.inr ⟨rfl, by decide⟩) ⟨_, by rw [hst]; rfl, fun _ _ => rfl, fun m2 h => by rw [hst] at h; cases h⟩
  · refine wp_aload_n (pc := 7) (i := 0) d_33_7 rfl rfl ?_
    refine wp_gI (pc := 8) d_33_8 fl_4_26 rfl ft_3_3 (hD.2.2.1 (by decide)) ?_
    refine wp_icN (pc := 11) (m := 2) d_33_11 (by decide) ?_
    refine wp_icmpN_ne (pc := 12) (tgt := 19) d_33_12 (by decide) (by omega) (by decide) (fun zq12 => ?_) (fun zq12 => ?_)
    · refine wp_icN (pc := 19) (m := 0) d_33_19 (by decide) ?_
      refine wq_istore_n (pc := 20) (L2 := [_, _, _]) (i := 2) d_33_20 rfl (Nat.le_of_ble_eq_true rfl) rfl rfl ?_
      refine wp_iload_n (pc := 21) (i := 1) d_33_21 rfl rfl ?_
      refine wp_iload_n (pc := 22) (i := 2) d_33_22 rfl rfl ?_
      refine wp_ifN_eq (pc := 23) (tgt := 30) d_33_23 (by decide) (by decide) (fun zq23 => ?_) (fun zq23 => ?_)
      · refine wp_icN (pc := 30) (m := 1) d_33_30 (by decide) ?_
        refine wp_bpN (pc := 31) (m := 9) d_33_31 (by decide) ?_
        refine wp_callSN3p (pc := 33) d_33_33 lk_4_66 (by decide) rfl (Nat.le_of_ble_eq_true rfl) (c_isWithin (nI b - nI 48) (nI 1) (nI 9)) ?_
        refine wp_ifB_ne (pc := 36) (tgt := 41) d_33_36 (by decide) (fun zq36 => ?_) (fun zq36 => ?_)
        · have hbd : (if rd = 0 ∨ rd = 2 then 48 else 49) ≤ b ∧ b ≤ 57 := by rw [if_neg (by omega)]; rw [digit1 b hb] at zq36; exact of_decide_eq_true zq36
          have hb48 : 48 ≤ b := by have h9 := hbd.1; split at h9 <;> omega
          rw [pk_sub hb48]
          refine wp_aload_n (pc := 41) (i := 0) d_33_41 rfl rfl ?_
          refine wp_gI (pc := 42) d_33_42 fl_4_26 rfl ft_3_3 (hD.2.2.1 (by decide)) ?_
          refine wp_ifN_lt (pc := 45) (tgt := 70) d_33_45 (by decide) (by omega) ?_
          refine wp_aload_n (pc := 48) (i := 0) d_33_48 rfl rfl ?_
          refine wp_gI (pc := 49) d_33_49 fl_4_26 rfl ft_3_3 (hD.2.2.1 (by decide)) ?_
          refine wp_aload_n (pc := 52) (i := 0) d_33_52 rfl rfl ?_
          refine wp_gA (pc := 53) d_33_53 fl_4_18 rfl ft_3_1 (F_4_1 hF) ?_
          refine wp_alen (pc := 56) d_33_56 rfl (by decide) ?_
          refine wp_icmpN_ge (pc := 57) (tgt := 70) d_33_57 (by decide) (by omega) (by decide) (fun zq57 => ?_) (fun zq57 => ?_)
          · exact absurd zq57 (by omega)
          · refine wp_aload_n (pc := 60) (i := 0) d_33_60 rfl rfl ?_
            refine wp_gA (pc := 61) d_33_61 fl_4_18 rfl ft_3_1 (F_4_1 hF) ?_
            refine wp_aload_n (pc := 64) (i := 0) d_33_64 rfl rfl ?_
            refine wp_gI (pc := 65) d_33_65 fl_4_26 rfl ft_3_3 (hD.2.2.1 (by decide)) ?_
            refine wp_iload_n (pc := 68) (i := 1) d_33_68 rfl rfl ?_
            refine wp_aS (pc := 69) (j := rd) d_33_69 rfl rfl hrd4 (by decide) (fun Iq69 uq69 => ?_)
            refine wp_aload_n (pc := 70) (i := 0) d_33_70 rfl rfl ?_
            refine wp_dup (pc := 71) d_33_71 rfl ?_
            refine wp_gI (pc := 72) d_33_72 fl_4_26 rfl ft_3_3 ((uq69.off (by decide)).trans (hD.2.2.1 (by decide))) ?_
            refine wp_icN (pc := 75) (m := 1) d_33_75 (by decide) ?_
            refine wp_iaddN (pc := 76) d_33_76 ?_
            refine wp_pI (pc := 77) d_33_77 fl_4_26 rfl ft_3_3 rfl (fun Iq77 uq77 => ?_)
            refine wp_aload_n (pc := 80) (i := 0) d_33_80 rfl rfl ?_
            refine wp_gI (pc := 81) d_33_81 fl_4_26 rfl ft_3_3 uq77.at ?_
            refine wp_icN (pc := 84) (m := 4) d_33_84 (by decide) ?_
            refine wp_icmpN_ne (pc := 85) (tgt := 124) d_33_85 (by decide) (by omega) (by decide) (fun zq85 => ?_) (fun zq85 => ?_)
            · refine wp_icN (pc := 124) (m := 1) d_33_124 (by decide) ?_
              have hst : stepB pl b (n, ρ, 82, rd, dg, wt) = some (n, ρ, 82, rd + 1, dgs dg rd b, wt) := by
                unfold stepB
                rw [if_neg hpl, if_pos rfl, if_pos hbd, if_neg zq85]
              refine wp_iret (pc := 125) d_33_125 (Or.inr ⟨rfl, by decide⟩) ⟨_, by rw [hst]; rfl, (offD_up uq69 (Or.inr rfl)).tr (offD_up uq77 (Or.inl rfl)), fun m2 h => ?_⟩
              rw [hst] at h
              cases h
              refine ⟨atR_keep hD.1 (fun a g1 g2 => by rw [uq77.2 a (by omega), uq69.2 a (by omega)]), (uq77.ne (by decide)).trans ((uq69.off (by decide)).trans hD.2.1), fun _ => uq77.at, fun _ j hj => ?_, fun h => absurd h (by decide)⟩
              rw [uq77.off (by decide)]
              dsimp only at hj ⊢
              unfold dgs
              by_cases e : j = rd
              · rw [if_pos e, e]; exact uq69.at
              · rw [if_neg e, uq69.ne e]; exact hD.2.2.2.1 rfl j (by dsimp only; omega)
            · have hrd3 : rd = 3 := by omega
              subst hrd3
              have hR77 : atR Iq77 5 ρ n := atR_keep hD.1 (fun a g1 g2 => by rw [uq77.2 a (by omega), uq69.2 a (by omega)])
              refine wp_aload_n (pc := 88) (i := 0) d_33_88 rfl rfl ?_
              refine wp_gA (pc := 89) d_33_89 fl_4_12 rfl ft_3_0 (F_4_0 hF) ?_
              refine wp_aload_n (pc := 92) (i := 0) d_33_92 rfl rfl ?_
              refine wp_gA (pc := 93) d_33_93 fl_4_18 rfl ft_3_1 (F_4_1 hF) ?_
              refine wp_icN (pc := 96) (m := 0) d_33_96 (by decide) ?_
              refine wp_aL (pc := 97) (j := 0) d_33_97 rfl rfl (by decide) (by decide) ((uq77.off (by decide)).trans ((uq69.ne (by decide)).trans (hD.2.2.2.1 rfl 0 (by decide)))) ?_
              refine wp_aload_n (pc := 98) (i := 0) d_33_98 rfl rfl ?_
              refine wp_gA (pc := 99) d_33_99 fl_4_18 rfl ft_3_1 (F_4_1 hF) ?_
              refine wp_icN (pc := 102) (m := 1) d_33_102 (by decide) ?_
              refine wp_aL (pc := 103) (j := 1) d_33_103 rfl rfl (by decide) (by decide) ((uq77.off (by decide)).trans ((uq69.ne (by decide)).trans (hD.2.2.2.1 rfl 1 (by decide)))) ?_
              refine wp_aload_n (pc := 104) (i := 0) d_33_104 rfl rfl ?_
              refine wp_gA (pc := 105) d_33_105 fl_4_18 rfl ft_3_1 (F_4_1 hF) ?_
              refine wp_icN (pc := 108) (m := 2) d_33_108 (by decide) ?_
              refine wp_aL (pc := 109) (j := 2) d_33_109 rfl rfl (by decide) (by decide) ((uq77.off (by decide)).trans ((uq69.ne (by decide)).trans (hD.2.2.2.1 rfl 2 (by decide)))) ?_
              refine wp_aload_n (pc := 110) (i := 0) d_33_110 rfl rfl ?_
              refine wp_gA (pc := 111) d_33_111 fl_4_18 rfl ft_3_1 (F_4_1 hF) ?_
              refine wp_icN (pc := 114) (m := 3) d_33_114 (by decide) ?_
              refine wp_aL (pc := 115) (j := 3) d_33_115 rfl rfl (by decide) (by decide) ((uq77.off (by decide)).trans uq69.at) ?_
              refine wp_callV4v (pc := 116) d_33_116 lk_4_70 (by decide) rfl (Nat.le_of_ble_eq_true rfl) (kR isR5) rfl (c_add hF isR5 hR77 hn6) (fun Iq116 hq116 => ?_)
              refine wp_aload_n (pc := 119) (i := 0) d_33_119 rfl rfl ?_
              refine wp_icN (pc := 120) (m := 0) d_33_120 (by decide) ?_
              refine wp_pI (pc := 121) d_33_121 fl_4_22 rfl ft_3_2 rfl (fun Iq121 uq121 => ?_)
              refine wp_icN (pc := 124) (m := 1) d_33_124 (by decide) ?_
              have hst : stepB pl b (n, ρ, 82, 3, dg, wt) = some (n + 1, addN ρ n (dg 0) (dg 1) (dg 2) (b - 48), 0, 4, dgs dg 3 b, wt) := by
                unfold stepB
                rw [if_neg hpl, if_pos rfl, if_pos hbd, if_pos rfl]
                rfl
              refine wp_iret (pc := 125) d_33_125 (Or.inr ⟨rfl, by decide⟩) ⟨_, by rw [hst]; rfl, (((offD_up uq69 (Or.inr rfl)).tr (offD_up uq77 (Or.inl rfl))).tr (offD_R hq116.2)).tr (offD_up uq121 (Or.inl rfl)), fun m2 h => ?_⟩
              rw [hst] at h
              cases h
              exact ⟨atR_keep hq116.1 (fun a g1 g2 => uq121.2 a (by omega)), uq121.at, fun h => absurd rfl h, fun h => absurd h (by decide), fun h => absurd h (by decide)⟩
        · refine wp_icN (pc := 39) (m := 0) d_33_39 (by decide) ?_
          have hst : stepB pl b (n, ρ, 82, rd, dg, wt) = none := by
            unfold stepB
            rw [if_neg hpl, if_pos rfl, if_neg (by dsimp only; rw [if_neg (by omega)]; rw [digit1 b hb] at zq36; exact of_decide_eq_false zq36)]
          exact wp_iret (pc := 40) d_33_40 (Or.inr ⟨rfl, by decide⟩) ⟨_, by rw [hst]; rfl, fun _ _ => rfl, fun m2 h => by rw [hst] at h; cases h⟩
      · exact absurd rfl zq23
    · refine wp_icN (pc := 15) (m := 1) d_33_15 (by decide) ?_
      refine wp_goto (pc := 16) (tgt := 20) d_33_16 (by decide) ?_
      refine wq_istore_n (pc := 20) (L2 := [_, _, _]) (i := 2) d_33_20 rfl (Nat.le_of_ble_eq_true rfl) rfl rfl ?_
      refine wp_iload_n (pc := 21) (i := 1) d_33_21 rfl rfl ?_
      refine wp_iload_n (pc := 22) (i := 2) d_33_22 rfl rfl ?_
      refine wp_ifN_eq (pc := 23) (tgt := 30) d_33_23 (by decide) (by decide) (fun zq23 => ?_) (fun zq23 => ?_)
      · exact absurd zq23 (by decide)
      · refine wp_icN (pc := 26) (m := 0) d_33_26 (by decide) ?_
        refine wp_goto (pc := 27) (tgt := 31) d_33_27 (by decide) ?_
        refine wp_bpN (pc := 31) (m := 9) d_33_31 (by decide) ?_
        refine wp_callSN3p (pc := 33) d_33_33 lk_4_66 (by decide) rfl (Nat.le_of_ble_eq_true rfl) (c_isWithin (nI b - nI 48) (nI 0) (nI 9)) ?_
        refine wp_ifB_ne (pc := 36) (tgt := 41) d_33_36 (by decide) (fun zq36 => ?_) (fun zq36 => ?_)
        · have hbd : (if rd = 0 ∨ rd = 2 then 48 else 49) ≤ b ∧ b ≤ 57 := by rw [if_pos (by omega)]; rw [digit0 b hb] at zq36; exact of_decide_eq_true zq36
          have hb48 : 48 ≤ b := by have h9 := hbd.1; split at h9 <;> omega
          rw [pk_sub hb48]
          refine wp_aload_n (pc := 41) (i := 0) d_33_41 rfl rfl ?_
          refine wp_gI (pc := 42) d_33_42 fl_4_26 rfl ft_3_3 (hD.2.2.1 (by decide)) ?_
          refine wp_ifN_lt (pc := 45) (tgt := 70) d_33_45 (by decide) (by omega) ?_
          refine wp_aload_n (pc := 48) (i := 0) d_33_48 rfl rfl ?_
          refine wp_gI (pc := 49) d_33_49 fl_4_26 rfl ft_3_3 (hD.2.2.1 (by decide)) ?_
          refine wp_aload_n (pc := 52) (i := 0) d_33_52 rfl rfl ?_
          refine wp_gA (pc := 53) d_33_53 fl_4_18 rfl ft_3_1 (F_4_1 hF) ?_
          refine wp_alen (pc := 56) d_33_56 rfl (by decide) ?_
          refine wp_icmpN_ge (pc := 57) (tgt := 70) d_33_57 (by decide) (by omega) (by decide) (fun zq57 => ?_) (fun zq57 => ?_)
          · exact absurd zq57 (by omega)
          · refine wp_aload_n (pc := 60) (i := 0) d_33_60 rfl rfl ?_
            refine wp_gA (pc := 61) d_33_61 fl_4_18 rfl ft_3_1 (F_4_1 hF) ?_
            refine wp_aload_n (pc := 64) (i := 0) d_33_64 rfl rfl ?_
            refine wp_gI (pc := 65) d_33_65 fl_4_26 rfl ft_3_3 (hD.2.2.1 (by decide)) ?_
            refine wp_iload_n (pc := 68) (i := 1) d_33_68 rfl rfl ?_
            refine wp_aS (pc := 69) (j := rd) d_33_69 rfl rfl hrd4 (by decide) (fun Iq69 uq69 => ?_)
            refine wp_aload_n (pc := 70) (i := 0) d_33_70 rfl rfl ?_
            refine wp_dup (pc := 71) d_33_71 rfl ?_
            refine wp_gI (pc := 72) d_33_72 fl_4_26 rfl ft_3_3 ((uq69.off (by decide)).trans (hD.2.2.1 (by decide))) ?_
            refine wp_icN (pc := 75) (m := 1) d_33_75 (by decide) ?_
            refine wp_iaddN (pc := 76) d_33_76 ?_
            refine wp_pI (pc := 77) d_33_77 fl_4_26 rfl ft_3_3 rfl (fun Iq77 uq77 => ?_)
            refine wp_aload_n (pc := 80) (i := 0) d_33_80 rfl rfl ?_
            refine wp_gI (pc := 81) d_33_81 fl_4_26 rfl ft_3_3 uq77.at ?_
            refine wp_icN (pc := 84) (m := 4) d_33_84 (by decide) ?_
            refine wp_icmpN_ne (pc := 85) (tgt := 124) d_33_85 (by decide) (by omega) (by decide) (fun zq85 => ?_) (fun zq85 => ?_)
            · refine wp_icN (pc := 124) (m := 1) d_33_124 (by decide) ?_
              have hst : stepB pl b (n, ρ, 82, rd, dg, wt) = some (n, ρ, 82, rd + 1, dgs dg rd b, wt) := by
                unfold stepB
                rw [if_neg hpl, if_pos rfl, if_pos hbd, if_neg zq85]
              refine wp_iret (pc := 125) d_33_125 (Or.inr ⟨rfl, by decide⟩) ⟨_, by rw [hst]; rfl, (offD_up uq69 (Or.inr rfl)).tr (offD_up uq77 (Or.inl rfl)), fun m2 h => ?_⟩
              rw [hst] at h
              cases h
              refine ⟨atR_keep hD.1 (fun a g1 g2 => by rw [uq77.2 a (by omega), uq69.2 a (by omega)]), (uq77.ne (by decide)).trans ((uq69.off (by decide)).trans hD.2.1), fun _ => uq77.at, fun _ j hj => ?_, fun h => absurd h (by decide)⟩
              rw [uq77.off (by decide)]
              dsimp only at hj ⊢
              unfold dgs
              by_cases e : j = rd
              · rw [if_pos e, e]; exact uq69.at
              · rw [if_neg e, uq69.ne e]; exact hD.2.2.2.1 rfl j (by dsimp only; omega)
            · have hrd3 : rd = 3 := by omega
              subst hrd3
              have hR77 : atR Iq77 5 ρ n := atR_keep hD.1 (fun a g1 g2 => by rw [uq77.2 a (by omega), uq69.2 a (by omega)])
              refine wp_aload_n (pc := 88) (i := 0) d_33_88 rfl rfl ?_
              refine wp_gA (pc := 89) d_33_89 fl_4_12 rfl ft_3_0 (F_4_0 hF) ?_
              refine wp_aload_n (pc := 92) (i := 0) d_33_92 rfl rfl ?_
              refine wp_gA (pc := 93) d_33_93 fl_4_18 rfl ft_3_1 (F_4_1 hF) ?_
              refine wp_icN (pc := 96) (m := 0) d_33_96 (by decide) ?_
              refine wp_aL (pc := 97) (j := 0) d_33_97 rfl rfl (by decide) (by decide) ((uq77.off (by decide)).trans ((uq69.ne (by decide)).trans (hD.2.2.2.1 rfl 0 (by decide)))) ?_
              refine wp_aload_n (pc := 98) (i := 0) d_33_98 rfl rfl ?_
              refine wp_gA (pc := 99) d_33_99 fl_4_18 rfl ft_3_1 (F_4_1 hF) ?_
              refine wp_icN (pc := 102) (m := 1) d_33_102 (by decide) ?_
              refine wp_aL (pc := 103) (j := 1) d_33_103 rfl rfl (by decide) (by decide) ((uq77.off (by decide)).trans ((uq69.ne (by decide)).trans (hD.2.2.2.1 rfl 1 (by decide)))) ?_
              refine wp_aload_n (pc := 104) (i := 0) d_33_104 rfl rfl ?_
              refine wp_gA (pc := 105) d_33_105 fl_4_18 rfl ft_3_1 (F_4_1 hF) ?_
              refine wp_icN (pc := 108) (m := 2) d_33_108 (by decide) ?_
              refine wp_aL (pc := 109) (j := 2) d_33_109 rfl rfl (by decide) (by decide) ((uq77.off (by decide)).trans ((uq69.ne (by decide)).trans (hD.2.2.2.1 rfl 2 (by decide)))) ?_
              refine wp_aload_n (pc := 110) (i := 0) d_33_110 rfl rfl ?_
              refine wp_gA (pc := 111) d_33_111 fl_4_18 rfl ft_3_1 (F_4_1 hF) ?_
              refine wp_icN (pc := 114) (m := 3) d_33_114 (by decide) ?_
              refine wp_aL (pc := 115) (j := 3) d_33_115 rfl rfl (by decide) (by decide) ((uq77.off (by decide)).trans uq69.at) ?_
              refine wp_callV4v (pc := 116) d_33_116 lk_4_70 (by decide) rfl (Nat.le_of_ble_eq_true rfl) (kR isR5) rfl (c_add hF isR5 hR77 hn6) (fun Iq116 hq116 => ?_)
              refine wp_aload_n (pc := 119) (i := 0) d_33_119 rfl rfl ?_
              refine wp_icN (pc := 120) (m := 0) d_33_120 (by decide) ?_
              refine wp_pI (pc := 121) d_33_121 fl_4_22 rfl ft_3_2 rfl (fun Iq121 uq121 => ?_)
              refine wp_icN (pc := 124) (m := 1) d_33_124 (by decide) ?_
              have hst : stepB pl b (n, ρ, 82, 3, dg, wt) = some (n + 1, addN ρ n (dg 0) (dg 1) (dg 2) (b - 48), 0, 4, dgs dg 3 b, wt) := by
                unfold stepB
                rw [if_neg hpl, if_pos rfl, if_pos hbd, if_pos rfl]
                rfl
              refine wp_iret (pc := 125) d_33_125 (Or.inr ⟨rfl, by decide⟩) ⟨_, by rw [hst]; rfl, (((offD_up uq69 (Or.inr rfl)).tr (offD_up uq77 (Or.inl rfl))).tr (offD_R hq116.2)).tr (offD_up uq121 (Or.inl rfl)), fun m2 h => ?_⟩
              rw [hst] at h
              cases h
              exact ⟨atR_keep hq116.1 (fun a g1 g2 => uq121.2 a (by omega)), uq121.at, fun h => absurd rfl h, fun h => absurd h (by decide), fun h => absurd h (by decide)⟩
        · refine wp_icN (pc := 39) (m := 0) d_33_39 (by decide) ?_
          have hst : stepB pl b (n, ρ, 82, rd, dg, wt) = none := by
            unfold stepB
            rw [if_neg hpl, if_pos rfl, if_neg (by dsimp only; rw [if_pos (by omega)]; rw [digit0 b hb] at zq36; exact of_decide_eq_false zq36)]
          exact wp_iret (pc := 40) d_33_40 (Or.inr ⟨rfl, by decide⟩) ⟨_, by rw [hst]; rfl, fun _ _ => rfl, fun m2 h => by rw [hst] at h; cases h⟩
theorem dryI_b (b : Nat) (hb : b < 256) (n : Nat) (hn : n ≤ 6) (ρ : SN) (m : PS) : dryI ρ n (nI b - nI 48) = (if 48 ≤ b ∧ b - 48 < n ∧ ρ 4 (b - 48) = 0 then some m else none).isSome := by
  unfold dryI
  by_cases h48 : 48 ≤ b
  · rw [pk_sub h48, inR_nI (by omega), nI_clamp (by omega)]
    unfold dryP
    by_cases h1 : b - 48 < n
    · by_cases h2 : ρ 4 (b - 48) = 0
      · rw [if_pos ⟨h48, h1, h2⟩, decide_eq_true h1, decide_eq_true h2]; rfl
      · rw [if_neg (fun h => h2 h.2.2), decide_eq_true h1, decide_eq_false h2]; rfl
    · rw [if_neg (fun h => h1 h.2.1), decide_eq_false h1]; rfl
  · rw [if_neg (fun h => h48 h.1), inR_b0 (pk_sneg (by decide) (by omega))]; rfl
set_option maxRecDepth 4000 in
theorem c_takesInWater {I : IT} {J : JT} {F : FT} {pl b n rd wt : Nat} {ρ : SN} {dg : Nat → Nat} (hF : Fok F) (hb : b < 256) (hpl : pl ≠ 0) (hok : okP (n, ρ, 87, rd, dg, wt)) (hD : atD I (n, ρ, 87, rd, dg, wt)) (hrd1 : rd ≤ 1) (hwt : rd = 1 → wt < n) : Sp 34 [vR 4, vI (nI b - nI 48)] KK I J F (fun R => ∃ I2, R = (some (vI (b2 (stepB pl b (n, ρ, 87, rd, dg, wt)).isSome)), KK, I2, J, F) ∧ offD I I2 ∧ ∀ m2, stepB pl b (n, ρ, 87, rd, dg, wt) = some m2 → atD I2 m2) := by
  refine Sp.mk2 (Nat.le_of_ble_eq_true rfl) (L2 := [_, _]) rfl ?_
  refine wp_aload_n (pc := 0) (i := 0) d_34_0 rfl rfl ?_
  refine wp_gI (pc := 1) d_34_1 fl_4_26 rfl ft_3_3 (hD.2.2.1 (by decide)) ?_
  refine wp_ifN_ne (pc := 4) (tgt := 31) d_34_4 (by decide) (by omega) (fun zq4 => ?_) (fun zq4 => ?_)
  · refine wp_iload_n (pc := 31) (i := 1) d_34_31 rfl rfl ?_
    refine wp_icN (pc := 32) (m := 1) d_34_32 (by decide) ?_
    refine wp_bpN (pc := 33) (m := 9) d_34_33 (by decide) ?_
    refine wp_callSN3p (pc := 35) d_34_35 lk_4_66 (by decide) rfl (Nat.le_of_ble_eq_true rfl) (c_isWithin (nI b - nI 48) (nI 1) (nI 9)) ?_
    refine wp_ifB_ne (pc := 38) (tgt := 43) d_34_38 (by decide) (fun zq38 => ?_) (fun zq38 => ?_)
    · have hbd : 49 ≤ b ∧ b ≤ 57 := by rw [digit1 b hb] at zq38; exact of_decide_eq_true zq38
      rw [pk_sub (show 48 ≤ b by omega)]
      have hrd1 : rd = 1 := by omega
      refine wp_aload_n (pc := 43) (i := 0) d_34_43 rfl rfl ?_
      refine wp_gA (pc := 44) d_34_44 fl_4_12 rfl ft_3_0 (F_4_0 hF) ?_
      refine wp_aload_n (pc := 47) (i := 0) d_34_47 rfl rfl ?_
      refine wp_gI (pc := 48) d_34_48 fl_4_29 rfl ft_3_4 (hD.2.2.2.2 rfl hrd1) ?_
      refine wp_iload_n (pc := 51) (i := 1) d_34_51 rfl rfl ?_
      refine wp_callV2v (pc := 52) d_34_52 lk_4_77 (by decide) rfl (Nat.le_of_ble_eq_true rfl) (kR isR5) rfl (c_tellWater hF isR5 hD.1 (hwt hrd1)) (fun Iq52 hq52 => ?_)
      refine wp_aload_n (pc := 55) (i := 0) d_34_55 rfl rfl ?_
      refine wp_icN (pc := 56) (m := 0) d_34_56 (by decide) ?_
      refine wp_pI (pc := 57) d_34_57 fl_4_22 rfl ft_3_2 rfl (fun Iq57 uq57 => ?_)
      refine wp_icN (pc := 60) (m := 1) d_34_60 (by decide) ?_
      have hst : stepB pl b (n, ρ, 87, rd, dg, wt) = some (n, s2 ρ 4 wt (b - 48), 0, rd, dg, wt) := by
        unfold stepB
        rw [if_neg hpl, if_neg (by decide), if_pos rfl, if_neg zq4, if_pos hbd]
      refine wp_iret (pc := 61) d_34_61 (Or.inr ⟨rfl, by decide⟩) ⟨_, by rw [hst]; rfl, (offD_R hq52.2).tr (offD_up uq57 (Or.inl rfl)), fun m2 h => ?_⟩
      rw [hst] at h
      cases h
      exact ⟨atR_keep hq52.1 (fun a g1 g2 => uq57.2 a (by omega)), uq57.at, fun h => absurd rfl h, fun h => absurd h (by decide), fun h => absurd h (by decide)⟩
    · refine wp_icN (pc := 41) (m := 0) d_34_41 (by decide) ?_
      have hst : stepB pl b (n, ρ, 87, rd, dg, wt) = none := by
        unfold stepB
        rw [if_neg hpl, if_neg (by decide), if_pos rfl, if_neg zq4, if_neg (by rw [digit1 b hb] at zq38; exact of_decide_eq_false zq38)]
      exact wp_iret (pc := 42) d_34_42 (Or.inr ⟨rfl, by decide⟩) ⟨_, by rw [hst]; rfl, fun _ _ => rfl, fun m2 h => by rw [hst] at h; cases h⟩
  · have hrd0 : rd = 0 := zq4
    subst hrd0
    refine wp_aload_n (pc := 7) (i := 0) d_34_7 rfl rfl ?_
    refine wp_iload_n (pc := 8) (i := 1) d_34_8 rfl rfl ?_
    refine wp_pI (pc := 9) d_34_9 fl_4_29 rfl ft_3_4 rfl (fun Iq9 uq9 => ?_)
    refine wp_aload_n (pc := 12) (i := 0) d_34_12 rfl rfl ?_
    refine wp_dup (pc := 13) d_34_13 rfl ?_
    refine wp_gI (pc := 14) d_34_14 fl_4_26 rfl ft_3_3 ((uq9.ne (by decide)).trans (hD.2.2.1 (by decide))) ?_
    refine wp_icN (pc := 17) (m := 1) d_34_17 (by decide) ?_
    refine wp_iaddN (pc := 18) d_34_18 ?_
    refine wp_pI (pc := 19) d_34_19 fl_4_26 rfl ft_3_3 rfl (fun Iq19 uq19 => ?_)
    refine wp_aload_n (pc := 22) (i := 0) d_34_22 rfl rfl ?_
    refine wp_gA (pc := 23) d_34_23 fl_4_12 rfl ft_3_0 (F_4_0 hF) ?_
    refine wp_iload_n (pc := 26) (i := 1) d_34_26 rfl rfl ?_
    refine wp_callV1p (pc := 27) d_34_27 lk_4_74 (by decide) rfl (Nat.le_of_ble_eq_true rfl) (kR isR5) rfl (c_hasDry hF isR5 (atR_keep hD.1 (fun a g1 g2 => by rw [uq19.2 a (by omega), uq9.2 a (by omega)])) (fun j => Nat.lt_of_le_of_lt (hok.2.1 4 j) (by decide)) (nI b - nI 48)) ?_
    have hdi : dryI ρ n (nI b - nI 48) = (stepB pl b (n, ρ, 87, 0, dg, wt)).isSome := by
      unfold stepB
      rw [if_neg hpl, if_neg (by decide), if_pos rfl, if_pos rfl]
      dsimp only
      exact dryI_b b hb n (by have h9 := hok.1; exact h9) ρ _
    refine wp_iret (pc := 30) d_34_30 (Or.inr ⟨rfl, b2_01 _⟩) ⟨_, by rw [hdi], (offD_up uq9 (Or.inl rfl)).tr (offD_up uq19 (Or.inl rfl)), fun m2 h => ?_⟩
    unfold stepB at h
    rw [if_neg hpl, if_neg (by decide), if_pos rfl, if_pos rfl] at h
    dsimp only at h
    split at h
    next hc =>
      cases h
      exact ⟨atR_keep hD.1 (fun a g1 g2 => by rw [uq19.2 a (by omega), uq9.2 a (by omega)]), (uq19.ne (by decide)).trans ((uq9.ne (by decide)).trans hD.2.1), fun _ => uq19.at, fun h => absurd h (by decide), fun _ _ => (uq19.ne (by decide)).trans (uq9.at.trans (pk_sub hc.1))⟩
    next => cases h
set_option maxRecDepth 4000 in
theorem c_opensPart {I : IT} {J : JT} {F : FT} {pl b n rd wt : Nat} {ρ : SN} {dg : Nat → Nat} (hF : Fok F) (hb : b < 256) (hpl : pl ≠ 0) (hok : okP (n, ρ, 0, rd, dg, wt)) (hD : atD I (n, ρ, 0, rd, dg, wt)) : Sp 35 [vR 4, vI (nI b)] KK I J F (fun R => ∃ I2, R = (some (vI (b2 (stepB pl b (n, ρ, 0, rd, dg, wt)).isSome)), KK, I2, J, F) ∧ offD I I2 ∧ ∀ m2, stepB pl b (n, ρ, 0, rd, dg, wt) = some m2 → atD I2 m2) := by
  refine Sp.mk2 (Nat.le_of_ble_eq_true rfl) (L2 := [_, _, _]) rfl ?_
  refine wp_iload_n (pc := 0) (i := 1) d_35_0 rfl rfl ?_
  refine wp_bpN (pc := 1) (m := 82) d_35_1 (by decide) ?_
  refine wp_icmpN_ne (pc := 3) (tgt := 16) d_35_3 (by decide) (by omega) (by decide) (fun zq3 => ?_) (fun zq3 => ?_)
  · refine wp_iload_n (pc := 16) (i := 1) d_35_16 rfl rfl ?_
    refine wp_bpN (pc := 17) (m := 87) d_35_17 (by decide) ?_
    refine wp_icmpN_ne (pc := 19) (tgt := 36) d_35_19 (by decide) (by omega) (by decide) (fun zq19 => ?_) (fun zq19 => ?_)
    · refine wp_icN (pc := 36) (m := 0) d_35_36 (by decide) ?_
      refine wq_istore_n (pc := 37) (L2 := [_, _, _]) (i := 2) d_35_37 rfl (Nat.le_of_ble_eq_true rfl) rfl rfl ?_
      refine wp_iload_n (pc := 38) (i := 2) d_35_38 rfl rfl ?_
      refine wp_ifN_eq (pc := 39) (tgt := 52) d_35_39 (by decide) (by decide) (fun zq39 => ?_) (fun zq39 => ?_)
      · refine wp_iload_n (pc := 52) (i := 2) d_35_52 rfl rfl ?_
        have hst : stepB pl b (n, ρ, 0, rd, dg, wt) = none := by
          unfold stepB
          rw [if_neg hpl, if_neg (by decide), if_neg (by decide), if_neg (fun h => h.elim (fun h9 => absurd h9.1 (by omega)) (fun h9 => absurd h9.1 (by omega)))]
        exact wp_iret (pc := 53) d_35_53 (Or.inr ⟨rfl, by decide⟩) ⟨_, by rw [hst]; rfl, fun _ _ => rfl, fun m2 h => by rw [hst] at h; cases h⟩
      · exact absurd rfl zq39
    · refine wp_aload_n (pc := 22) (i := 0) d_35_22 rfl rfl ?_
      refine wp_gA (pc := 23) d_35_23 fl_4_12 rfl ft_3_0 (F_4_0 hF) ?_
      refine wp_callV0p (pc := 26) d_35_26 lk_4_63 (by decide) rfl (Nat.le_of_ble_eq_true rfl) (kR isR5) rfl (c_hasAnyDry hF isR5 hD.1 (fun j => Nat.lt_of_le_of_lt (hok.2.1 4 j) (by decide))) ?_
      refine wp_ifB_eq (pc := 29) (tgt := 36) d_35_29 (by decide) (fun zq29 => ?_) (fun zq29 => ?_)
      · refine wp_icN (pc := 36) (m := 0) d_35_36 (by decide) ?_
        refine wq_istore_n (pc := 37) (L2 := [_, _, _]) (i := 2) d_35_37 rfl (Nat.le_of_ble_eq_true rfl) rfl rfl ?_
        refine wp_iload_n (pc := 38) (i := 2) d_35_38 rfl rfl ?_
        refine wp_ifN_eq (pc := 39) (tgt := 52) d_35_39 (by decide) (by decide) (fun zq39 => ?_) (fun zq39 => ?_)
        · refine wp_iload_n (pc := 52) (i := 2) d_35_52 rfl rfl ?_
          have hst : stepB pl b (n, ρ, 0, rd, dg, wt) = none := by
            unfold stepB
            rw [if_neg hpl, if_neg (by decide), if_neg (by decide), if_neg (fun h => h.elim (fun h9 => absurd h9.1 (by omega)) (fun h9 => absurd h9.2 (of_decide_eq_false zq29)))]
          exact wp_iret (pc := 53) d_35_53 (Or.inr ⟨rfl, by decide⟩) ⟨_, by rw [hst]; rfl, fun _ _ => rfl, fun m2 h => by rw [hst] at h; cases h⟩
        · exact absurd rfl zq39
      · refine wp_icN (pc := 32) (m := 1) d_35_32 (by decide) ?_
        refine wp_goto (pc := 33) (tgt := 37) d_35_33 (by decide) ?_
        refine wq_istore_n (pc := 37) (L2 := [_, _, _]) (i := 2) d_35_37 rfl (Nat.le_of_ble_eq_true rfl) rfl rfl ?_
        refine wp_iload_n (pc := 38) (i := 2) d_35_38 rfl rfl ?_
        refine wp_ifN_eq (pc := 39) (tgt := 52) d_35_39 (by decide) (by decide) (fun zq39 => ?_) (fun zq39 => ?_)
        · exact absurd zq39 (by decide)
        · refine wp_aload_n (pc := 42) (i := 0) d_35_42 rfl rfl ?_
          refine wp_iload_n (pc := 43) (i := 1) d_35_43 rfl rfl ?_
          refine wp_pI (pc := 44) d_35_44 fl_4_22 rfl ft_3_2 rfl (fun Iq44 uq44 => ?_)
          refine wp_aload_n (pc := 47) (i := 0) d_35_47 rfl rfl ?_
          refine wp_icN (pc := 48) (m := 0) d_35_48 (by decide) ?_
          refine wp_pI (pc := 49) d_35_49 fl_4_26 rfl ft_3_3 rfl (fun Iq49 uq49 => ?_)
          refine wp_iload_n (pc := 52) (i := 2) d_35_52 rfl rfl ?_
          have hst : stepB pl b (n, ρ, 0, rd, dg, wt) = some (n, ρ, b, 0, dg, wt) := by
            unfold stepB
            rw [if_neg hpl, if_neg (by decide), if_neg (by decide), if_pos (Or.inr ⟨zq19, of_decide_eq_true zq29⟩)]
          refine wp_iret (pc := 53) d_35_53 (Or.inr ⟨rfl, by decide⟩) ⟨_, by rw [hst]; rfl, (offD_up uq44 (Or.inl rfl)).tr (offD_up uq49 (Or.inl rfl)), fun m2 h => ?_⟩
          rw [hst] at h
          cases h
          exact ⟨atR_keep hD.1 (fun a g1 g2 => by rw [uq49.2 a (by omega), uq44.2 a (by omega)]), (uq49.ne (by decide)).trans uq44.at, fun _ => uq49.at, fun _ j hj => absurd hj (Nat.not_lt_zero j), fun _ h => absurd h (by decide)⟩
  · refine wp_aload_n (pc := 6) (i := 0) d_35_6 rfl rfl ?_
    refine wp_gA (pc := 7) d_35_7 fl_4_12 rfl ft_3_0 (F_4_0 hF) ?_
    refine wp_callV0p (pc := 10) d_35_10 lk_4_59 (by decide) rfl (Nat.le_of_ble_eq_true rfl) (kR isR5) rfl (c_hasRoom isR5 hD.1) ?_
    refine wp_ifB_ne (pc := 13) (tgt := 32) d_35_13 (by decide) (fun zq13 => ?_) (fun zq13 => ?_)
    · refine wp_icN (pc := 32) (m := 1) d_35_32 (by decide) ?_
      refine wp_goto (pc := 33) (tgt := 37) d_35_33 (by decide) ?_
      refine wq_istore_n (pc := 37) (L2 := [_, _, _]) (i := 2) d_35_37 rfl (Nat.le_of_ble_eq_true rfl) rfl rfl ?_
      refine wp_iload_n (pc := 38) (i := 2) d_35_38 rfl rfl ?_
      refine wp_ifN_eq (pc := 39) (tgt := 52) d_35_39 (by decide) (by decide) (fun zq39 => ?_) (fun zq39 => ?_)
      · exact absurd zq39 (by decide)
      · refine wp_aload_n (pc := 42) (i := 0) d_35_42 rfl rfl ?_
        refine wp_iload_n (pc := 43) (i := 1) d_35_43 rfl rfl ?_
        refine wp_pI (pc := 44) d_35_44 fl_4_22 rfl ft_3_2 rfl (fun Iq44 uq44 => ?_)
        refine wp_aload_n (pc := 47) (i := 0) d_35_47 rfl rfl ?_
        refine wp_icN (pc := 48) (m := 0) d_35_48 (by decide) ?_
        refine wp_pI (pc := 49) d_35_49 fl_4_26 rfl ft_3_3 rfl (fun Iq49 uq49 => ?_)
        refine wp_iload_n (pc := 52) (i := 2) d_35_52 rfl rfl ?_
        have hst : stepB pl b (n, ρ, 0, rd, dg, wt) = some (n, ρ, b, 0, dg, wt) := by
          unfold stepB
          rw [if_neg hpl, if_neg (by decide), if_neg (by decide), if_pos (Or.inl ⟨zq3, of_decide_eq_true zq13⟩)]
        refine wp_iret (pc := 53) d_35_53 (Or.inr ⟨rfl, by decide⟩) ⟨_, by rw [hst]; rfl, (offD_up uq44 (Or.inl rfl)).tr (offD_up uq49 (Or.inl rfl)), fun m2 h => ?_⟩
        rw [hst] at h
        cases h
        exact ⟨atR_keep hD.1 (fun a g1 g2 => by rw [uq49.2 a (by omega), uq44.2 a (by omega)]), (uq49.ne (by decide)).trans uq44.at, fun _ => uq49.at, fun _ j hj => absurd hj (Nat.not_lt_zero j), fun _ h => absurd h (by decide)⟩
    · refine wp_iload_n (pc := 16) (i := 1) d_35_16 rfl rfl ?_
      refine wp_bpN (pc := 17) (m := 87) d_35_17 (by decide) ?_
      refine wp_icmpN_ne (pc := 19) (tgt := 36) d_35_19 (by decide) (by omega) (by decide) (fun zq19 => ?_) (fun zq19 => ?_)
      · refine wp_icN (pc := 36) (m := 0) d_35_36 (by decide) ?_
        refine wq_istore_n (pc := 37) (L2 := [_, _, _]) (i := 2) d_35_37 rfl (Nat.le_of_ble_eq_true rfl) rfl rfl ?_
        refine wp_iload_n (pc := 38) (i := 2) d_35_38 rfl rfl ?_
        refine wp_ifN_eq (pc := 39) (tgt := 52) d_35_39 (by decide) (by decide) (fun zq39 => ?_) (fun zq39 => ?_)
        · refine wp_iload_n (pc := 52) (i := 2) d_35_52 rfl rfl ?_
          have hst : stepB pl b (n, ρ, 0, rd, dg, wt) = none := by
            unfold stepB
            rw [if_neg hpl, if_neg (by decide), if_neg (by decide), if_neg (fun h => h.elim (fun h9 => absurd h9.2 (of_decide_eq_false zq13)) (fun h9 => absurd h9.1 (by omega)))]
          exact wp_iret (pc := 53) d_35_53 (Or.inr ⟨rfl, by decide⟩) ⟨_, by rw [hst]; rfl, fun _ _ => rfl, fun m2 h => by rw [hst] at h; cases h⟩
        · exact absurd rfl zq39
      · refine wp_aload_n (pc := 22) (i := 0) d_35_22 rfl rfl ?_
        refine wp_gA (pc := 23) d_35_23 fl_4_12 rfl ft_3_0 (F_4_0 hF) ?_
        refine wp_callV0p (pc := 26) d_35_26 lk_4_63 (by decide) rfl (Nat.le_of_ble_eq_true rfl) (kR isR5) rfl (c_hasAnyDry hF isR5 hD.1 (fun j => Nat.lt_of_le_of_lt (hok.2.1 4 j) (by decide))) ?_
        refine wp_ifB_eq (pc := 29) (tgt := 36) d_35_29 (by decide) (fun zq29 => ?_) (fun zq29 => ?_)
        · refine wp_icN (pc := 36) (m := 0) d_35_36 (by decide) ?_
          refine wq_istore_n (pc := 37) (L2 := [_, _, _]) (i := 2) d_35_37 rfl (Nat.le_of_ble_eq_true rfl) rfl rfl ?_
          refine wp_iload_n (pc := 38) (i := 2) d_35_38 rfl rfl ?_
          refine wp_ifN_eq (pc := 39) (tgt := 52) d_35_39 (by decide) (by decide) (fun zq39 => ?_) (fun zq39 => ?_)
          · refine wp_iload_n (pc := 52) (i := 2) d_35_52 rfl rfl ?_
            have hst : stepB pl b (n, ρ, 0, rd, dg, wt) = none := by
              unfold stepB
              rw [if_neg hpl, if_neg (by decide), if_neg (by decide), if_neg (fun h => h.elim (fun h9 => absurd h9.2 (of_decide_eq_false zq13)) (fun h9 => absurd h9.2 (of_decide_eq_false zq29)))]
            exact wp_iret (pc := 53) d_35_53 (Or.inr ⟨rfl, by decide⟩) ⟨_, by rw [hst]; rfl, fun _ _ => rfl, fun m2 h => by rw [hst] at h; cases h⟩
          · exact absurd rfl zq39
        · refine wp_icN (pc := 32) (m := 1) d_35_32 (by decide) ?_
          refine wp_goto (pc := 33) (tgt := 37) d_35_33 (by decide) ?_
          refine wq_istore_n (pc := 37) (L2 := [_, _, _]) (i := 2) d_35_37 rfl (Nat.le_of_ble_eq_true rfl) rfl rfl ?_
          refine wp_iload_n (pc := 38) (i := 2) d_35_38 rfl rfl ?_
          refine wp_ifN_eq (pc := 39) (tgt := 52) d_35_39 (by decide) (by decide) (fun zq39 => ?_) (fun zq39 => ?_)
          · exact absurd zq39 (by decide)
          · refine wp_aload_n (pc := 42) (i := 0) d_35_42 rfl rfl ?_
            refine wp_iload_n (pc := 43) (i := 1) d_35_43 rfl rfl ?_
            refine wp_pI (pc := 44) d_35_44 fl_4_22 rfl ft_3_2 rfl (fun Iq44 uq44 => ?_)
            refine wp_aload_n (pc := 47) (i := 0) d_35_47 rfl rfl ?_
            refine wp_icN (pc := 48) (m := 0) d_35_48 (by decide) ?_
            refine wp_pI (pc := 49) d_35_49 fl_4_26 rfl ft_3_3 rfl (fun Iq49 uq49 => ?_)
            refine wp_iload_n (pc := 52) (i := 2) d_35_52 rfl rfl ?_
            have hst : stepB pl b (n, ρ, 0, rd, dg, wt) = some (n, ρ, b, 0, dg, wt) := by
              unfold stepB
              rw [if_neg hpl, if_neg (by decide), if_neg (by decide), if_pos (Or.inr ⟨zq19, of_decide_eq_true zq29⟩)]
            refine wp_iret (pc := 53) d_35_53 (Or.inr ⟨rfl, by decide⟩) ⟨_, by rw [hst]; rfl, (offD_up uq44 (Or.inl rfl)).tr (offD_up uq49 (Or.inl rfl)), fun m2 h => ?_⟩
            rw [hst] at h
            cases h
            exact ⟨atR_keep hD.1 (fun a g1 g2 => by rw [uq49.2 a (by omega), uq44.2 a (by omega)]), (uq49.ne (by decide)).trans uq44.at, fun _ => uq49.at, fun _ j hj => absurd hj (Nat.not_lt_zero j), fun _ h => absurd h (by decide)⟩
