def fI : Option Nat → Int32
  | none => -9
  | some q => nI q
/-- a figure: its value, where the reader then is, the fault -/
def figN (tx : Nat → Nat) (tl al p : Nat) : Option Nat → Nat × Nat × Option Nat
  | some q => (0, p, some q)
  | none => if p < tl ∧ 48 ≤ tx p ∧ tx p ≤ 57 ∧ al.testBit (tx p - 48) = true then (tx p - 48, p + 1, none) else (0, p, some p)
def fgS (tx : Nat → Nat) (tl : Nat) (I : IT) (p : Nat) (fo : Option Nat) : Prop := I 173 9 = nI tl ∧ (∀ j, j < tl → I 178 j = nI (tx j)) ∧ I 173 10 = nI p ∧ I 173 11 = fI fo
theorem fgS.up {tx : Nat → Nat} {tl : Nat} {I I2 : IT} {p : Nat} {fo : Option Nat} {a q : Nat} {x : Int32} (h : fgS tx tl I p fo) (u : Up I I2 a q x) (h1 : a ≠ 173) (h2 : a ≠ 178) : fgS tx tl I2 p fo := ⟨by rw [u.2 173 (Ne.symm h1)]; exact h.1, fun j hj => by rw [u.2 178 (Ne.symm h2)]; exact h.2.1 j hj, by rw [u.2 173 (Ne.symm h1)]; exact h.2.2.1, by rw [u.2 173 (Ne.symm h1)]; exact h.2.2.2⟩
theorem n9_ne {q : Nat} (h : q ≤ 40) : ¬ nI q = -9 := (show ∀ q, q ≤ 40 → ¬ nI q = -9 by decide) q h
theorem figN_le {tx : Nat → Nat} {tl al p : Nat} {fo : Option Nat} (hp : p ≤ tl) (hf : ∀ q, fo = some q → q ≤ tl) : (figN tx tl al p fo).2.1 ≤ tl ∧ (∀ q, (figN tx tl al p fo).2.2 = some q → q ≤ tl) ∧ (figN tx tl al p fo).1 ≤ 9 := by
  rcases fo with _ | q
  · unfold figN
    by_cases e : p < tl ∧ 48 ≤ tx p ∧ tx p ≤ 57 ∧ al.testBit (tx p - 48) = true
    · rw [if_pos e]; exact ⟨by show p + 1 ≤ tl; omega, fun q h => (by cases h), by show tx p - 48 ≤ 9; omega⟩
    · rw [if_neg e]; exact ⟨hp, fun q h => (by cases h; exact hp), Nat.zero_le 9⟩
  · exact ⟨hp, fun q2 h => hf q2 h, Nat.zero_le 9⟩
set_option maxRecDepth 4000 in
theorem m_figD {I : IT} {J : JT} {F : FT} {tx : Nat → Nat} {tl al p : Nat} (hF : Fok F) (h40 : tl ≤ 40) (h256 : ∀ j, tx j < 256) (hal : al < 1024) (hp40 : p ≤ tl) {qf : Nat} (hq40 : qf ≤ 40) (hs : fgS tx tl I p (some qf)) : Sp 126 [vR 173, vI (nI al)] KK I J F (fun R => ∃ I2, R = (some (vI (nI (figN tx tl al p (some qf)).1)), KK, I2, J, F) ∧ fgS tx tl I2 (figN tx tl al p (some qf)).2.1 (figN tx tl al p (some qf)).2.2 ∧ (∀ q, q ≠ 10 → q ≠ 11 → I2 173 q = I 173 q) ∧ ∀ a, a ≠ 173 → I2 a = I a) := by
  refine Sp.mk2 (Nat.le_of_ble_eq_true rfl) (L2 := [_, _, _]) rfl ?_
  refine wp_aload_n (pc := 0) (i := 0) d_126_0 rfl rfl ?_
  refine wp_gI (pc := 1) d_126_1 fl_10_68 rfl ft_9_11 hs.2.2.2 ?_
  refine wp_bipush (pc := 4) (v := (-9)) d_126_4 (by decide) ?_
  refine wp_icmp_ne (pc := 6) (tgt := 35) d_126_6 (by decide) (fun zq6 => ?_) (fun zq6 => ?_)
  · refine wp_iconst (pc := 35) (v := (-1)) d_126_35 (by decide) ?_
    refine wq_istore_n (pc := 36) (L2 := [_, _, _]) (i := 2) d_126_36 rfl (Nat.le_of_ble_eq_true rfl) rfl rfl ?_
    refine wp_iload_n (pc := 37) (i := 2) d_126_37 rfl rfl ?_
    refine wp_i2l (pc := 38) d_126_38 ?_
    refine wp_lconst (pc := 39) (v := lN 0) d_126_39 (by decide) ?_
    refine wr_ldc2M (pc := 40) (m := 9) d_126_40 cs_10_74 (by decide) ?_
    refine wp_callS3p (pc := 43) d_126_43 lk_10_59 (by decide) rfl (Nat.le_of_ble_eq_true rfl) (c_inN (-1) 0 9 (by decide) (by decide)) ?_
    refine wp_ifB_eq (pc := 46) (tgt := 57) d_126_46 (by decide) (fun zq46 => ?_) (fun zq46 => ?_)
    · refine wp_aload_n (pc := 57) (i := 0) d_126_57 rfl rfl ?_
      refine wp_aload_n (pc := 58) (i := 0) d_126_58 rfl rfl ?_
      refine wp_gI (pc := 59) d_126_59 fl_10_68 rfl ft_9_11 hs.2.2.2 ?_
      refine wp_bipush (pc := 62) (v := (-9)) d_126_62 (by decide) ?_
      refine wp_icmp_ne (pc := 64) (tgt := 74) d_126_64 (by decide) (fun zq64 => ?_) (fun zq64 => ?_)
      · refine wp_aload_n (pc := 74) (i := 0) d_126_74 rfl rfl ?_
        refine wp_gI (pc := 75) d_126_75 fl_10_68 rfl ft_9_11 hs.2.2.2 ?_
        refine wp_pI (pc := 78) d_126_78 fl_10_68 rfl ft_9_11 rfl (fun Iq78 uq78 => ?_)
        refine wp_icN (pc := 81) (m := 0) d_126_81 (by decide) ?_
        exact wp_iret (pc := 82) d_126_82 (Or.inl rfl) ⟨_, rfl, ⟨(uq78.ne (by decide)).trans hs.1, fun j hj => (uq78.off (by decide)).trans (hs.2.1 j hj), (uq78.ne (by decide)).trans hs.2.2.1, uq78.at⟩, fun q h1 h2 => uq78.ne h2, fun a h1 => uq78.2 a h1⟩
      · exact absurd zq64 (n9_ne hq40)
    · exact absurd zq46 (by decide)
  · exact absurd zq6 (n9_ne hq40)
set_option maxRecDepth 4000 in
theorem m_figO {I : IT} {J : JT} {F : FT} {tx : Nat → Nat} {tl al p : Nat} (hF : Fok F) (h40 : tl ≤ 40) (h256 : ∀ j, tx j < 256) (hal : al < 1024) (hp40 : p ≤ tl) (hs : fgS tx tl I p none) : Sp 126 [vR 173, vI (nI al)] KK I J F (fun R => ∃ I2, R = (some (vI (nI (figN tx tl al p none).1)), KK, I2, J, F) ∧ fgS tx tl I2 (figN tx tl al p none).2.1 (figN tx tl al p none).2.2 ∧ (∀ q, q ≠ 10 → q ≠ 11 → I2 173 q = I 173 q) ∧ ∀ a, a ≠ 173 → I2 a = I a) := by
  have h256p := h256 p
  refine Sp.mk2 (Nat.le_of_ble_eq_true rfl) (L2 := [_, _, _]) rfl ?_
  refine wp_aload_n (pc := 0) (i := 0) d_126_0 rfl rfl ?_
  refine wp_gI (pc := 1) d_126_1 fl_10_68 rfl ft_9_11 hs.2.2.2 ?_
  refine wp_bipush (pc := 4) (v := (-9)) d_126_4 (by decide) ?_
  refine wp_icmp_ne (pc := 6) (tgt := 35) d_126_6 (by decide) (fun zq6 => ?_) (fun zq6 => ?_)
  · exact absurd rfl zq6
  · refine wp_aload_n (pc := 9) (i := 0) d_126_9 rfl rfl ?_
    refine wp_gI (pc := 10) d_126_10 fl_10_71 rfl ft_9_10 hs.2.2.1 ?_
    refine wp_aload_n (pc := 13) (i := 0) d_126_13 rfl rfl ?_
    refine wp_gI (pc := 14) d_126_14 fl_10_63 rfl ft_9_9 hs.1 ?_
    refine wp_icmpN_ge (pc := 17) (tgt := 35) d_126_17 (by decide) (by omega) (by omega) (fun zq17 => ?_) (fun zq17 => ?_)
    · refine wp_iconst (pc := 35) (v := (-1)) d_126_35 (by decide) ?_
      refine wq_istore_n (pc := 36) (L2 := [_, _, _]) (i := 2) d_126_36 rfl (Nat.le_of_ble_eq_true rfl) rfl rfl ?_
      refine wp_iload_n (pc := 37) (i := 2) d_126_37 rfl rfl ?_
      refine wp_i2l (pc := 38) d_126_38 ?_
      refine wp_lconst (pc := 39) (v := lN 0) d_126_39 (by decide) ?_
      refine wr_ldc2M (pc := 40) (m := 9) d_126_40 cs_10_74 (by decide) ?_
      refine wp_callS3p (pc := 43) d_126_43 lk_10_59 (by decide) rfl (Nat.le_of_ble_eq_true rfl) (c_inN (-1) 0 9 (by decide) (by decide)) ?_
      refine wp_ifB_eq (pc := 46) (tgt := 57) d_126_46 (by decide) (fun zq46 => ?_) (fun zq46 => ?_)
      · refine wp_aload_n (pc := 57) (i := 0) d_126_57 rfl rfl ?_
        refine wp_aload_n (pc := 58) (i := 0) d_126_58 rfl rfl ?_
        refine wp_gI (pc := 59) d_126_59 fl_10_68 rfl ft_9_11 hs.2.2.2 ?_
        refine wp_bipush (pc := 62) (v := (-9)) d_126_62 (by decide) ?_
        refine wp_icmp_ne (pc := 64) (tgt := 74) d_126_64 (by decide) (fun zq64 => ?_) (fun zq64 => ?_)
        · exact absurd rfl zq64
        · refine wp_aload_n (pc := 67) (i := 0) d_126_67 rfl rfl ?_
          refine wp_gI (pc := 68) d_126_68 fl_10_71 rfl ft_9_10 hs.2.2.1 ?_
          refine wp_goto (pc := 71) (tgt := 78) d_126_71 (by decide) ?_
          refine wp_pI (pc := 78) d_126_78 fl_10_68 rfl ft_9_11 rfl (fun Iq78 uq78 => ?_)
          refine wp_icN (pc := 81) (m := 0) d_126_81 (by decide) ?_
          have hfg : figN tx tl al p none = (0, p, some p) := if_neg (fun h => absurd h.1 (by omega))
          rw [hfg]
          exact wp_iret (pc := 82) d_126_82 (Or.inl rfl) ⟨_, rfl, ⟨(uq78.ne (by decide)).trans hs.1, fun j hj => (uq78.off (by decide)).trans (hs.2.1 j hj), (uq78.ne (by decide)).trans hs.2.2.1, uq78.at⟩, fun q h1 h2 => uq78.ne h2, fun a h1 => uq78.2 a h1⟩
      · exact absurd zq46 (by decide)
    · refine wp_aload_n (pc := 20) (i := 0) d_126_20 rfl rfl ?_
      refine wp_gA (pc := 21) d_126_21 fl_10_22 rfl ft_9_8 (F_173_8 hF) ?_
      refine wp_aload_n (pc := 24) (i := 0) d_126_24 rfl rfl ?_
      refine wp_gI (pc := 25) d_126_25 fl_10_71 rfl ft_9_10 hs.2.2.1 ?_
      refine wp_aL (pc := 28) (j := p) d_126_28 rfl rfl (by omega) (by decide) (hs.2.1 p zq17) ?_
      refine wp_bpN (pc := 29) (m := 48) d_126_29 (by decide) ?_
      refine wp_isub (pc := 31) d_126_31 ?_
      refine wp_goto (pc := 32) (tgt := 36) d_126_32 (by decide) ?_
      refine wq_istore_n (pc := 36) (L2 := [_, _, _]) (i := 2) d_126_36 rfl (Nat.le_of_ble_eq_true rfl) rfl rfl ?_
      refine wp_iload_n (pc := 37) (i := 2) d_126_37 rfl rfl ?_
      refine wp_i2l (pc := 38) d_126_38 ?_
      refine wp_lconst (pc := 39) (v := lN 0) d_126_39 (by decide) ?_
      refine wr_ldc2M (pc := 40) (m := 9) d_126_40 cs_10_74 (by decide) ?_
      refine wp_callS3p (pc := 43) d_126_43 lk_10_59 (by decide) rfl (Nat.le_of_ble_eq_true rfl) (c_inN (nI (tx p) - nI 48) 0 9 (by decide) (by decide)) ?_
      refine wp_ifB_eq (pc := 46) (tgt := 57) d_126_46 (by decide) (fun zq46 => ?_) (fun zq46 => ?_)
      · refine wp_aload_n (pc := 57) (i := 0) d_126_57 rfl rfl ?_
        refine wp_aload_n (pc := 58) (i := 0) d_126_58 rfl rfl ?_
        refine wp_gI (pc := 59) d_126_59 fl_10_68 rfl ft_9_11 hs.2.2.2 ?_
        refine wp_bipush (pc := 62) (v := (-9)) d_126_62 (by decide) ?_
        refine wp_icmp_ne (pc := 64) (tgt := 74) d_126_64 (by decide) (fun zq64 => ?_) (fun zq64 => ?_)
        · exact absurd rfl zq64
        · refine wp_aload_n (pc := 67) (i := 0) d_126_67 rfl rfl ?_
          refine wp_gI (pc := 68) d_126_68 fl_10_71 rfl ft_9_10 hs.2.2.1 ?_
          refine wp_goto (pc := 71) (tgt := 78) d_126_71 (by decide) ?_
          refine wp_pI (pc := 78) d_126_78 fl_10_68 rfl ft_9_11 rfl (fun Iq78 uq78 => ?_)
          refine wp_icN (pc := 81) (m := 0) d_126_81 (by decide) ?_
          have hfg : figN tx tl al p none = (0, p, some p) := if_neg (fun h => by rw [digit0 _ (h256 p)] at zq46; exact absurd ⟨h.2.1, h.2.2.1⟩ (of_decide_eq_false zq46))
          rw [hfg]
          exact wp_iret (pc := 82) d_126_82 (Or.inl rfl) ⟨_, rfl, ⟨(uq78.ne (by decide)).trans hs.1, fun j hj => (uq78.off (by decide)).trans (hs.2.1 j hj), (uq78.ne (by decide)).trans hs.2.2.1, uq78.at⟩, fun q h1 h2 => uq78.ne h2, fun a h1 => uq78.2 a h1⟩
      · have hbd : 48 ≤ tx p ∧ tx p ≤ 57 := by rw [digit0 _ (h256 p)] at zq46; exact of_decide_eq_true zq46
        rw [pk_sub hbd.1]
        refine wp_iload_n (pc := 49) (i := 1) d_126_49 rfl rfl ?_
        refine wp_iload_n (pc := 50) (i := 2) d_126_50 rfl rfl ?_
        refine wp_ishr (pc := 51) d_126_51 ?_
        refine wp_icN (pc := 52) (m := 1) d_126_52 (by decide) ?_
        refine wp_iand (pc := 53) d_126_53 ?_
        rw [shr_c (by omega) (by omega), msk_c (w := 1) (Nat.lt_of_le_of_lt (Nat.div_le_self _ _) (by omega)) (by decide)]
        refine wp_ifN_ne (pc := 54) (tgt := 83) d_126_54 (by decide) (by omega) (fun zq54 => ?_) (fun zq54 => ?_)
        · refine wp_aload_n (pc := 83) (i := 0) d_126_83 rfl rfl ?_
          refine wp_dup (pc := 84) d_126_84 rfl ?_
          refine wp_gI (pc := 85) d_126_85 fl_10_71 rfl ft_9_10 hs.2.2.1 ?_
          refine wp_icN (pc := 88) (m := 1) d_126_88 (by decide) ?_
          refine wp_iaddN (pc := 89) d_126_89 ?_
          refine wp_pI (pc := 90) d_126_90 fl_10_71 rfl ft_9_10 rfl (fun Iq90 uq90 => ?_)
          refine wp_iload_n (pc := 93) (i := 2) d_126_93 rfl rfl ?_
          have hfg : figN tx tl al p none = (tx p - 48, p + 1, none) := if_pos ⟨zq17, hbd.1, hbd.2, tb1 (by omega)⟩
          rw [hfg]
          exact wp_iret (pc := 94) d_126_94 (Or.inl rfl) ⟨_, rfl, ⟨(uq90.ne (by decide)).trans hs.1, fun j hj => (uq90.off (by decide)).trans (hs.2.1 j hj), uq90.at, (uq90.ne (by decide)).trans hs.2.2.2⟩, fun q h1 h2 => uq90.ne h1, fun a h1 => uq90.2 a h1⟩
        · refine wp_aload_n (pc := 57) (i := 0) d_126_57 rfl rfl ?_
          refine wp_aload_n (pc := 58) (i := 0) d_126_58 rfl rfl ?_
          refine wp_gI (pc := 59) d_126_59 fl_10_68 rfl ft_9_11 hs.2.2.2 ?_
          refine wp_bipush (pc := 62) (v := (-9)) d_126_62 (by decide) ?_
          refine wp_icmp_ne (pc := 64) (tgt := 74) d_126_64 (by decide) (fun zq64 => ?_) (fun zq64 => ?_)
          · exact absurd rfl zq64
          · refine wp_aload_n (pc := 67) (i := 0) d_126_67 rfl rfl ?_
            refine wp_gI (pc := 68) d_126_68 fl_10_71 rfl ft_9_10 hs.2.2.1 ?_
            refine wp_goto (pc := 71) (tgt := 78) d_126_71 (by decide) ?_
            refine wp_pI (pc := 78) d_126_78 fl_10_68 rfl ft_9_11 rfl (fun Iq78 uq78 => ?_)
            refine wp_icN (pc := 81) (m := 0) d_126_81 (by decide) ?_
            have hfg : figN tx tl al p none = (0, p, some p) := if_neg (fun h => by have h9 := h.2.2.2; rw [tb0 (by omega)] at h9; cases h9)
            rw [hfg]
            exact wp_iret (pc := 82) d_126_82 (Or.inl rfl) ⟨_, rfl, ⟨(uq78.ne (by decide)).trans hs.1, fun j hj => (uq78.off (by decide)).trans (hs.2.1 j hj), (uq78.ne (by decide)).trans hs.2.2.1, uq78.at⟩, fun q h1 h2 => uq78.ne h2, fun a h1 => uq78.2 a h1⟩
theorem m_figure {I : IT} {J : JT} {F : FT} {tx : Nat → Nat} {tl al p : Nat} (hF : Fok F) (h40 : tl ≤ 40) (h256 : ∀ j, tx j < 256) (hal : al < 1024) (hp40 : p ≤ tl) {fo : Option Nat} (hfo : ∀ q, fo = some q → q ≤ tl) (hs : fgS tx tl I p fo) : Sp 126 [vR 173, vI (nI al)] KK I J F (fun R => ∃ I2, R = (some (vI (nI (figN tx tl al p fo).1)), KK, I2, J, F) ∧ fgS tx tl I2 (figN tx tl al p fo).2.1 (figN tx tl al p fo).2.2 ∧ (∀ q, q ≠ 10 → q ≠ 11 → I2 173 q = I 173 q) ∧ ∀ a, a ≠ 173 → I2 a = I a) := by
  rcases fo with _ | q
  · exact m_figO hF h40 h256 hal hp40 hs
  · exact m_figD hF h40 h256 hal hp40 (Nat.le_trans (hfo q rfl) h40) hs
/-- the model's told roofs -/
def mPS (I : IT) (n : Nat) (ρ : SN) : Prop := I 173 2 = nI n ∧ (∀ k, k < 4 → ∀ j, j < n → I 174 (4 * j + k) = nI (ρ k j)) ∧ (∀ j, j < n → I 175 j = nI (ρ 4 j)) ∧ ∀ j, n ≤ j → j < 6 → I 175 j = nI 0
set_option maxRecDepth 4000 in
theorem mdry_step {I : IT} {J : JT} {F : FT} {n : Nat} {ρ : SN} (hF : Fok F) (hn6 : n ≤ 6) (hρ : ∀ k j, ρ k j ≤ 9) (hm : mPS I n ρ) (i : Nat) (hi0 : i ≤ n) (x : Nat) (hx : x = bitsN (dryP ρ) i)
    (ih0 : ∀ i', i < n → i' = i + 1 → ∀ (x : Nat), (x = bitsN (dryP ρ) i') → Wp none 127 (fun R => R = (some (vI (nI (bitsN (dryP ρ) n))), KK, I, J, F)) 4 [some (vR 173), some (vI (nI x)), some (vI (nI i'))] [] KK I J F) : Wp none 127 (fun R => R = (some (vI (nI (bitsN (dryP ρ) n))), KK, I, J, F)) 4 [some (vR 173), some (vI (nI x)), some (vI (nI i))] [] KK I J F := by
  refine wp_iload_n (pc := 4) (i := 2) d_127_4 rfl rfl ?_
  refine wp_aload_n (pc := 5) (i := 0) d_127_5 rfl rfl ?_
  refine wp_gI (pc := 6) d_127_6 fl_10_76 rfl ft_9_2 hm.1 ?_
  refine wp_icmpN_ge (pc := 9) (tgt := 37) d_127_9 (by decide) (by omega) (by omega) (fun zq9 => ?_) (fun zq9 => ?_)
  · refine wp_iload_n (pc := 37) (i := 1) d_127_37 rfl rfl ?_
    exact wp_iret (pc := 38) d_127_38 (Or.inl rfl) (by rw [hx, show i = n by omega])
  · refine wp_iload_n (pc := 12) (i := 1) d_127_12 rfl rfl ?_
    refine wp_aload_n (pc := 13) (i := 0) d_127_13 rfl rfl ?_
    refine wp_gA (pc := 14) d_127_14 fl_10_13 rfl ft_9_1 (F_173_1 hF) ?_
    refine wp_iload_n (pc := 17) (i := 2) d_127_17 rfl rfl ?_
    refine wp_aL (pc := 18) (j := i) d_127_18 rfl rfl (by omega) (by decide) (hm.2.2.1 i zq9) ?_
    refine wp_ifN_ne (pc := 19) (tgt := 28) d_127_19 (by decide) (by have := hρ 4 i; omega) (fun zq19 => ?_) (fun zq19 => ?_)
    · refine wp_icN (pc := 28) (m := 0) d_127_28 (by decide) ?_
      refine wp_ior (pc := 29) d_127_29 ?_
      rw [or0_c]
      refine wq_istore_n (pc := 30) (L2 := [_, _, _]) (i := 1) d_127_30 rfl (Nat.le_of_ble_eq_true rfl) rfl rfl ?_
      refine wq_iincN (pc := 31) (L2 := [_, _, _]) d_127_31 rfl (b := 1) (by decide) rfl rfl ?_
      refine wp_goto (pc := 34) (tgt := 4) d_127_34 (by decide) ?_
      refine ih0 (i + 1) zq9 rfl _ ?_
      rw [hx]
      show _ = bitsN (dryP ρ) i + (if dryP ρ i then 2 ^ i else 0)
      rw [show dryP ρ i = false from decide_eq_false zq19]; rfl
    · refine wp_icN (pc := 22) (m := 1) d_127_22 (by decide) ?_
      refine wp_iload_n (pc := 23) (i := 2) d_127_23 rfl rfl ?_
      refine wp_ishl (pc := 24) d_127_24 ?_
      rw [bit_c i (by omega)]
      refine wp_goto (pc := 25) (tgt := 29) d_127_25 (by decide) ?_
      refine wp_ior (pc := 29) d_127_29 ?_
      rw [or_c i (by omega) x (by rw [hx]; exact bitsN_lt _ _)]
      refine wq_istore_n (pc := 30) (L2 := [_, _, _]) (i := 1) d_127_30 rfl (Nat.le_of_ble_eq_true rfl) rfl rfl ?_
      refine wq_iincN (pc := 31) (L2 := [_, _, _]) d_127_31 rfl (b := 1) (by decide) rfl rfl ?_
      refine wp_goto (pc := 34) (tgt := 4) d_127_34 (by decide) ?_
      refine ih0 (i + 1) zq9 rfl _ ?_
      rw [hx]
      show _ = bitsN (dryP ρ) i + (if dryP ρ i then 2 ^ i else 0)
      rw [show dryP ρ i = true from decide_eq_true zq19]; rfl
theorem mdry_loop {I : IT} {J : JT} {F : FT} {n : Nat} {ρ : SN} (hF : Fok F) (hn6 : n ≤ 6) (hρ : ∀ k j, ρ k j ≤ 9) (hm : mPS I n ρ) : ∀ (d i : Nat), i + d = n → ∀ (x : Nat), (x = bitsN (dryP ρ) i) → Wp none 127 (fun R => R = (some (vI (nI (bitsN (dryP ρ) n))), KK, I, J, F)) 4 [some (vR 173), some (vI (nI x)), some (vI (nI i))] [] KK I J F := by
  intro d
  induction d with
  | zero =>
    intro i hid x hx
    exact mdry_step hF hn6 hρ hm i (by omega) x hx (fun i' hlt => absurd hlt (by omega))
  | succ d ih =>
    intro i hid x hx
    exact mdry_step hF hn6 hρ hm i (by omega) x hx (fun i' hlt he => ih i' (by omega))

set_option maxRecDepth 4000 in
theorem m_dry {I : IT} {J : JT} {F : FT} {n : Nat} {ρ : SN} (hF : Fok F) (hn6 : n ≤ 6) (hρ : ∀ k j, ρ k j ≤ 9) (hm : mPS I n ρ) : Sp 127 [vR 173] KK I J F (fun R => R = (some (vI (nI (bitsN (dryP ρ) n))), KK, I, J, F)) := by
  refine Sp.mk2 (Nat.le_of_ble_eq_true rfl) (L2 := [_, _, _]) rfl ?_
  refine wp_icN (pc := 0) (m := 0) d_127_0 (by decide) ?_
  refine wq_istore_n (pc := 1) (L2 := [_, _, _]) (i := 1) d_127_1 rfl (Nat.le_of_ble_eq_true rfl) rfl rfl ?_
  refine wp_icN (pc := 2) (m := 0) d_127_2 (by decide) ?_
  refine wq_istore_n (pc := 3) (L2 := [_, _, _]) (i := 2) d_127_3 rfl (Nat.le_of_ble_eq_true rfl) rfl rfl ?_
  exact mdry_loop hF hn6 hρ hm n 0 (by omega) 0 rfl
theorem al1023 : ∀ b, b < 256 → ((48 ≤ b ∧ b ≤ 57) ↔ (48 ≤ b ∧ b ≤ 57 ∧ (1023).testBit (b - 48) = true)) := by decide +kernel
theorem al1022 : ∀ b, b < 256 → ((49 ≤ b ∧ b ≤ 57) ↔ (48 ≤ b ∧ b ≤ 57 ∧ (1022).testBit (b - 48) = true)) := by decide +kernel
theorem bitsN_tb (p : Nat → Bool) : ∀ n j, (bitsN p n).testBit j = (decide (j < n) && p j)
  | 0, j => by
    rw [decide_eq_false (Nat.not_lt_zero j), Bool.false_and]
    exact Nat.zero_testBit j
  | n + 1, j => by
    have ih := bitsN_tb p n j
    have hlt := bitsN_lt p n
    unfold bitsN
    by_cases e : p n = true
    · rw [if_pos e, Nat.add_comm]
      by_cases ej : j = n
      · subst ej
        rw [Nat.testBit_two_pow_add_eq, ih, decide_eq_false (Nat.lt_irrefl j), decide_eq_true (Nat.lt_succ_self j), e]; rfl
      · by_cases ej2 : j < n
        · rw [Nat.testBit_two_pow_add_gt ej2, ih, decide_eq_true ej2, decide_eq_true (Nat.lt_succ_of_lt ej2)]
        · rw [decide_eq_false (show ¬ j < n + 1 by omega), Bool.false_and]
          exact Nat.testBit_lt_two_pow (Nat.lt_of_lt_of_le (show 2 ^ n + bitsN p n < 2 ^ (n + 1) by rw [Nat.pow_succ]; omega) (Nat.pow_le_pow_right (by decide) (by omega)))
    · rw [if_neg e, Nat.add_zero, ih]
      by_cases ej : j = n
      · subst ej
        rw [decide_eq_false (Nat.lt_irrefl j), show p j = false by rcases hcs : p j with _ | _; rfl; exact absurd hcs e, Bool.and_false, Bool.and_false]
      · by_cases ej2 : j < n
        · rw [decide_eq_true ej2, decide_eq_true (Nat.lt_succ_of_lt ej2)]
        · rw [decide_eq_false ej2, decide_eq_false (show ¬ j < n + 1 by omega)]
theorem fin_0 {tx : Nat → Nat} {tl pl : Nat} {mz : PS} (h : mz.2.2.1 ≠ 0) : finN tx tl 0 pl mz = (nI tl, none) := if_neg (fun h2 => h h2.2)
/-- what comes of a digit in a roof -/
def nx82 (n : Nat) (ρ : SN) (k : Nat) (dg : Nat → Nat) (wt : Nat) : PS := if k + 1 = 4 then (n + 1, addN ρ n (dg 0) (dg 1) (dg 2) (dg 3), 0, 4, dg, wt) else (n, ρ, 82, k + 1, dg, wt)
theorem dg82 {tx : Nat → Nat} {tl p n k wt : Nat} {ρ : SN} {dg : Nat → Nat} {v : Int32 × Option PS} (h256 : ∀ j, tx j < 256) (hp1 : 1 ≤ p) (hpl : p ≤ tl) (hv : v = finN tx tl (tl - p) p (n, ρ, 82, k, dg, wt)) :
    ((figN tx tl (if k = 0 ∨ k = 2 then 1023 else 1022) p none).2.2 = none ∧ (figN tx tl (if k = 0 ∨ k = 2 then 1023 else 1022) p none).2.1 = p + 1 ∧ p + 1 ≤ tl ∧ v = finN tx tl (tl - (p + 1)) (p + 1) (nx82 n ρ k (dgs dg k ((figN tx tl (if k = 0 ∨ k = 2 then 1023 else 1022) p none).1 + 48)) wt)) ∨ ((figN tx tl (if k = 0 ∨ k = 2 then 1023 else 1022) p none).2.2 = some p ∧ v = (nI p, none)) := by
  by_cases hlt : p < tl
  · rw [show tl - p = (tl - (p + 1)) + 1 by omega] at hv
    have hiff : (p < tl ∧ 48 ≤ tx p ∧ tx p ≤ 57 ∧ (if k = 0 ∨ k = 2 then 1023 else 1022).testBit (tx p - 48) = true) ↔ ((if k = 0 ∨ k = 2 then 48 else 49) ≤ tx p ∧ tx p ≤ 57) := by
      by_cases e : k = 0 ∨ k = 2
      · rw [if_pos e, if_pos e]
        exact ⟨fun h => (al1023 _ (h256 p)).mpr h.2, fun h => ⟨hlt, (al1023 _ (h256 p)).mp h⟩⟩
      · rw [if_neg e, if_neg e]
        exact ⟨fun h => (al1022 _ (h256 p)).mpr h.2, fun h => ⟨hlt, (al1022 _ (h256 p)).mp h⟩⟩
    by_cases hc : p < tl ∧ 48 ≤ tx p ∧ tx p ≤ 57 ∧ (if k = 0 ∨ k = 2 then 1023 else 1022).testBit (tx p - 48) = true
    · have hfg : figN tx tl (if k = 0 ∨ k = 2 then 1023 else 1022) p none = (tx p - 48, p + 1, none) := if_pos hc
      rw [hfg]
      refine Or.inl ⟨rfl, rfl, by omega, ?_⟩
      rw [hv]
      refine fin_some ?_
      show stepB p (tx p) n ρ 82 k dg wt = _
      unfold stepB
      rw [if_neg (by omega), if_pos rfl, if_pos (hiff.mp hc)]
      show _ = some (nx82 n ρ k (dgs dg k (tx p - 48 + 48)) wt)
      rw [show tx p - 48 + 48 = tx p by omega]
      unfold nx82
      by_cases e4 : k + 1 = 4
      · rw [if_pos e4, if_pos e4]
      · rw [if_neg e4, if_neg e4]
    · have hfg : figN tx tl (if k = 0 ∨ k = 2 then 1023 else 1022) p none = (0, p, some p) := if_neg hc
      rw [hfg]
      refine Or.inr ⟨rfl, ?_⟩
      rw [hv]
      refine fin_none ?_
      show stepB p (tx p) n ρ 82 k dg wt = _
      unfold stepB
      rw [if_neg (by omega), if_pos rfl, if_neg (fun h => hc (hiff.mpr h))]
  · have hfg : figN tx tl (if k = 0 ∨ k = 2 then 1023 else 1022) p none = (0, p, some p) := if_neg (fun h => hlt h.1)
    rw [hfg]
    refine Or.inr ⟨rfl, ?_⟩
    rw [hv, show tl - p = 0 by omega, fin_0 (show (82 : Nat) ≠ 0 by decide), show p = tl by omega]
theorem figN_s {tx : Nat → Nat} {tl al p q : Nat} : figN tx tl al p (some q) = (0, p, some q) := rfl
theorem roofP {tx : Nat → Nat} {tl p n wt : Nat} {ρ : SN} {dg : Nat → Nat} {rd : Nat} {v : Int32 × Option PS} {f1 f2 f3 f4 : Nat × Nat × Option Nat} (h256 : ∀ j, tx j < 256) (hp1 : 1 ≤ p) (hpl : p < tl) (hb : tx p = 82) (hn : n < 6) (hv : v = finN tx tl (tl - p) p (n, ρ, 0, rd, dg, wt))
    (e1 : f1 = figN tx tl 1023 (p + 1) none) (e2 : f2 = figN tx tl 1022 f1.2.1 f1.2.2) (e3 : f3 = figN tx tl 1023 f2.2.1 f2.2.2) (e4 : f4 = figN tx tl 1022 f3.2.1 f3.2.2) :
    (f4.2.2 = none ∧ f4.2.1 = p + 5 ∧ p + 5 ≤ tl ∧ ∃ dg2, (∀ j, dg2 j ≤ 9 ∨ True) ∧ v = finN tx tl (tl - (p + 5)) (p + 5) (n + 1, addN ρ n f1.1 f2.1 f3.1 f4.1, 0, 4, dg2, wt)) ∨ ∃ q, f4.2.2 = some q ∧ q ≤ tl ∧ v = (nI q, none) := by
  have hv1 : v = finN tx tl (tl - (p + 1)) (p + 1) (n, ρ, 82, 0, dg, wt) := by
    rw [hv, show tl - p = (tl - (p + 1)) + 1 by omega]
    refine fin_some ?_
    show stepB p (tx p) n ρ 0 rd dg wt = _
    unfold stepB
    rw [if_neg (by omega), if_neg (by decide), if_neg (by decide), if_pos (Or.inl ⟨hb, hn⟩), hb]
  rcases dg82 h256 (by omega) (by omega) hv1 with ⟨a1, a2, a3, a4⟩ | ⟨a1, a2⟩
  · rw [if_pos (Or.inl rfl), ← e1] at a1 a2 a4
    rw [a1, a2] at e2
    rcases dg82 (k := 1) h256 (by omega) (by omega) a4 with ⟨b1, b2, b3, b4⟩ | ⟨b1, b2⟩
    · rw [if_neg (by decide), ← e2] at b1 b2 b4
      rw [b1, b2] at e3
      rcases dg82 (k := 2) h256 (by omega) (by omega) b4 with ⟨c1, c2, c3, c4⟩ | ⟨c1, c2⟩
      · rw [if_pos (Or.inr rfl), ← e3] at c1 c2 c4
        rw [c1, c2] at e4
        rcases dg82 (k := 3) h256 (by omega) (by omega) c4 with ⟨g1, g2, g3, g4⟩ | ⟨g1, g2⟩
        · rw [if_neg (by decide), ← e4] at g1 g2 g4
          exact Or.inl ⟨g1, g2, by omega, _, fun _ => Or.inr trivial, g4⟩
        · rw [if_neg (by decide), ← e4] at g1
          exact Or.inr ⟨_, g1, by omega, g2⟩
      · rw [if_pos (Or.inr rfl), ← e3] at c1
        rw [c1, figN_s] at e4
        exact Or.inr ⟨p + 1 + 1 + 1, by rw [e4], by omega, c2⟩
    · rw [if_neg (by decide), ← e2] at b1
      rw [b1, figN_s] at e3
      rw [e3, figN_s] at e4
      exact Or.inr ⟨p + 1 + 1, by rw [e4], by omega, b2⟩
  · rw [if_pos (Or.inl rfl), ← e1] at a1
    rw [a1, figN_s] at e2
    rw [e2, figN_s] at e3
    rw [e3, figN_s] at e4
    exact Or.inr ⟨p + 1, by rw [e4], by omega, a2⟩
theorem waterP {tx : Nat → Nat} {tl p n wt : Nat} {ρ : SN} {dg : Nat → Nat} {rd : Nat} {v : Int32 × Option PS} {f1 f2 : Nat × Nat × Option Nat} (h256 : ∀ j, tx j < 256) (hn6 : n ≤ 6) (hp1 : 1 ≤ p) (hpl : p < tl) (hb : tx p = 87) (hd : 0 < bitsN (dryP ρ) n) (hv : v = finN tx tl (tl - p) p (n, ρ, 0, rd, dg, wt))
    (e1 : f1 = figN tx tl (bitsN (dryP ρ) n) (p + 1) none) (e2 : f2 = figN tx tl 1022 f1.2.1 f1.2.2) :
    (f2.2.2 = none ∧ f2.2.1 = p + 3 ∧ p + 3 ≤ tl ∧ f1.1 < n ∧ v = finN tx tl (tl - (p + 3)) (p + 3) (n, s2 ρ 4 f1.1 f2.1, 0, 1, dg, f1.1)) ∨ ∃ q, f2.2.2 = some q ∧ q ≤ tl ∧ v = (nI q, none) := by
  have hv1 : v = finN tx tl (tl - (p + 1)) (p + 1) (n, ρ, 87, 0, dg, wt) := by
    rw [hv, show tl - p = (tl - (p + 1)) + 1 by omega]
    refine fin_some ?_
    show stepB p (tx p) n ρ 0 rd dg wt = _
    unfold stepB
    rw [if_neg (by omega), if_neg (by decide), if_neg (by decide), if_pos (Or.inr ⟨hb, hd⟩), hb]
  by_cases hlt : p + 1 < tl
  · rw [show tl - (p + 1) = (tl - (p + 2)) + 1 by omega] at hv1
    have htb : (bitsN (dryP ρ) n).testBit (tx (p + 1) - 48) = true ↔ tx (p + 1) - 48 < n ∧ ρ 4 (tx (p + 1) - 48) = 0 := by
      rw [bitsN_tb, Bool.and_eq_true]
      exact ⟨fun h => ⟨of_decide_eq_true h.1, of_decide_eq_true h.2⟩, fun h => ⟨decide_eq_true h.1, decide_eq_true h.2⟩⟩
    by_cases hc : 48 ≤ tx (p + 1) ∧ tx (p + 1) - 48 < n ∧ ρ 4 (tx (p + 1) - 48) = 0
    · have hfg : f1 = (tx (p + 1) - 48, p + 1 + 1, none) := e1.trans (if_pos ⟨hlt, hc.1, by omega, htb.mpr hc.2⟩)
      have hv2 : v = finN tx tl (tl - (p + 2)) (p + 2) (n, ρ, 87, 1, dg, tx (p + 1) - 48) := by
        rw [hv1]
        refine fin_some ?_
        show stepB (p + 1) (tx (p + 1)) n ρ 87 0 dg wt = _
        unfold stepB
        rw [if_neg (by omega), if_neg (by decide), if_pos rfl, if_pos rfl, if_pos hc]
      rw [hfg] at e2
      by_cases hlt2 : p + 2 < tl
      · rw [show tl - (p + 2) = (tl - (p + 3)) + 1 by omega] at hv2
        by_cases hc2 : 49 ≤ tx (p + 2) ∧ tx (p + 2) ≤ 57
        · have hfg2 : f2 = (tx (p + 2) - 48, p + 2 + 1, none) := e2.trans (if_pos ⟨hlt2, (al1022 _ (h256 _)).mp hc2⟩)
          refine Or.inl ⟨by rw [hfg2], by rw [hfg2], by omega, by rw [hfg]; exact hc.2.1, ?_⟩
          rw [hv2, hfg, hfg2]
          refine fin_some ?_
          show stepB (p + 2) (tx (p + 2)) n ρ 87 1 dg (tx (p + 1) - 48) = _
          unfold stepB
          rw [if_neg (by omega), if_neg (by decide), if_pos rfl, if_neg (by decide), if_pos hc2]
        · have hfg2 : f2 = (0, p + 2, some (p + 2)) := e2.trans (if_neg (fun h => hc2 ((al1022 _ (h256 _)).mpr h.2)))
          refine Or.inr ⟨p + 2, by rw [hfg2], by omega, ?_⟩
          rw [hv2]
          refine fin_none ?_
          show stepB (p + 2) (tx (p + 2)) n ρ 87 1 dg (tx (p + 1) - 48) = _
          unfold stepB
          rw [if_neg (by omega), if_neg (by decide), if_pos rfl, if_neg (by decide), if_neg hc2]
      · have hfg2 : f2 = (0, p + 2, some (p + 2)) := e2.trans (if_neg (fun h => hlt2 h.1))
        refine Or.inr ⟨p + 2, by rw [hfg2], by omega, ?_⟩
        rw [hv2, show tl - (p + 2) = 0 by omega, fin_0 (show (87 : Nat) ≠ 0 by decide), show p + 2 = tl by omega]
    · have hfg : f1 = (0, p + 1, some (p + 1)) := e1.trans (if_neg (fun h => hc ⟨h.2.1, htb.mp h.2.2.2⟩))
      rw [hfg, figN_s] at e2
      refine Or.inr ⟨p + 1, by rw [e2], by omega, ?_⟩
      rw [hv1]
      refine fin_none ?_
      show stepB (p + 1) (tx (p + 1)) n ρ 87 0 dg wt = _
      unfold stepB
      rw [if_neg (by omega), if_neg (by decide), if_pos rfl, if_pos rfl, if_neg hc]
  · have hfg : f1 = (0, p + 1, some (p + 1)) := e1.trans (if_neg (fun h => hlt h.1))
    rw [hfg, figN_s] at e2
    refine Or.inr ⟨p + 1, by rw [e2], by omega, ?_⟩
    rw [hv1, show tl - (p + 1) = 0 by omega, fin_0 (show (87 : Nat) ≠ 0 by decide), show p + 1 = tl by omega]
