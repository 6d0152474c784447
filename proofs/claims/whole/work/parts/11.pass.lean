theorem bit_c : ∀ j, j < 7 → nI 1 <<< (nI j &&& 31) = nI (2 ^ j) := by decide +kernel
theorem hold_c : ∀ d, d < 64 → ∀ j, j < 6 → (nI d &&& nI (2 ^ j) = 0 ↔ d.testBit j = false) := by decide +kernel
set_option maxRecDepth 4000 in
theorem c_bit {I : IT} {J : JT} {F : FT} {j : Nat} (hj : j < 7) : Sp 93 [vI (nI j)] KK I J F (fun R => R = (some (vI (nI (2 ^ j))), KK, I, J, F)) := by
  refine Sp.mk2 (Nat.le_of_ble_eq_true rfl) (L2 := [_]) rfl ?_
  refine wp_icN (pc := 0) (m := 1) d_93_0 (by decide) ?_
  refine wp_iload_n (pc := 1) (i := 0) d_93_1 rfl rfl ?_
  refine wp_ishl (pc := 2) d_93_2 ?_
  exact wp_iret (pc := 3) d_93_3 (Or.inl rfl) (by rw [bit_c _ hj])
set_option maxRecDepth 4000 in
theorem c_holds {I : IT} {J : JT} {F : FT} {dm j : Nat} (hd : dm < 64) (hj : j < 6) : Sp 92 [vI (nI dm), vI (nI j)] KK I J F (fun R => R = (some (vI (b2 (dm.testBit j))), KK, I, J, F)) := by
  refine Sp.mk2 (Nat.le_of_ble_eq_true rfl) (L2 := [_, _]) rfl ?_
  refine wp_iload_n (pc := 0) (i := 0) d_92_0 rfl rfl ?_
  refine wp_iload_n (pc := 1) (i := 1) d_92_1 rfl rfl ?_
  refine wp_callS1p (pc := 2) d_92_2 lk_9_151 (by decide) rfl (Nat.le_of_ble_eq_true rfl) (c_bit (by omega)) ?_
  refine wp_iand (pc := 5) d_92_5 ?_
  refine wp_if_eq (pc := 6) (tgt := 13) d_92_6 (by decide) (fun zq6 => ?_) (fun zq6 => ?_)
  · refine wp_icN (pc := 13) (m := 0) d_92_13 (by decide) ?_
    refine wp_iret (pc := 14) d_92_14 (Or.inr ⟨rfl, by decide⟩) ?_
    rw [(hold_c dm hd j hj).mp zq6]; rfl
  · refine wp_icN (pc := 9) (m := 1) d_92_9 (by decide) ?_
    refine wp_goto (pc := 10) (tgt := 14) d_92_10 (by decide) ?_
    refine wp_iret (pc := 14) d_92_14 (Or.inr ⟨rfl, by decide⟩) ?_
    rw [show dm.testBit j = true by have := mt (hold_c dm hd j hj).mpr zq6; simpa using this]; rfl
section PASSN
variable (ρ : SN) (n dm rn : Nat) (σ : SN)
def drN (i : Nat) : Nat := min (ρ 0 i) (σ 0 i + rn)
def waN (i : Nat) : Nat := σ 0 i + rn - drN ρ rn σ i
def s1N (i : Nat) : Nat := alg (σ 1 i) (drN ρ rn σ i) (σ 0 i + rn)
def saN (i : Nat) : Nat := σ 1 i - s1N ρ rn σ i
def goN (i : Nat) : Nat := gof (waN ρ rn σ i) (ρ 1 i) (ρ 3 i) (dm.testBit i)
def s2N (i : Nat) : Nat := alg (saN ρ rn σ i) (goN ρ dm rn σ i) (waN ρ rn σ i)
def prv (f : Nat → Nat) (i : Nat) : Nat := if i = 0 then 0 else f (i - 1)
/-- a quarter -/
def passN : SN := fun k j =>
  if k < 4 then (if j < n then (if k = 0 then waN ρ rn σ j - goN ρ dm rn σ j + prv (goN ρ dm rn σ) j else if k = 1 then saN ρ rn σ j - s2N ρ dm rn σ j + prv (s2N ρ dm rn σ) j else if k = 2 then σ 2 j + drN ρ rn σ j else σ 3 j + s1N ρ rn σ j) else σ k j)
  else if j = 4 then σ k 4 + prv (goN ρ dm rn σ) n else if j = 5 then σ k 5 + prv (s2N ρ dm rn σ) n else if j = 6 then σ k 6 + 1 else σ k j
def midN (i : Nat) : SN := fun k j => if k < 4 ∧ j < i then passN ρ n dm rn σ k j else σ k j
end PASSN
/-- nothing but place i of the rows of the Waters w is otherwise -/
def offI (w i : Nat) (I I2 : IT) : Prop := (∀ k, k < 4 → ∀ j, j ≠ i → I2 (w + 1 + k) j = I (w + 1 + k) j) ∧ (∀ q, I2 w q = I w q) ∧ offW w I I2
theorem offI.tr {I I2 I3 : IT} {w j : Nat} (h : offI w j I I2) (h2 : offI w j I2 I3) : offI w j I I3 := ⟨fun k hk j' hj => (h2.1 k hk j' hj).trans (h.1 k hk j' hj), fun q => (h2.2.1 q).trans (h.2.1 q), h.2.2.tr h2.2.2⟩
theorem offI_up {I I2 : IT} {w k j : Nat} {x : Int32} (u : Up I I2 (w + 1 + k) j x) (hk : k < 4) : offI w j I I2 := by
  refine ⟨fun k' hk' j' h => ?_, fun q => u.off (by omega), offW_arr u (by omega)⟩
  by_cases e : k' = k
  · subst e
    exact u.ne h
  · exact u.off (by omega)
theorem offC.I {I I2 : IT} {w j : Nat} (h : offC w j I I2) : offI w j I I2 := ⟨fun k hk j' hj => h.1 k hk j' (Or.inl hj), h.2.1, h.2.2⟩
theorem mid_step {I I2 : IT} {w i n dm rn : Nat} {ρ σ : SN} (h : atW I w (midN ρ n dm rn σ i)) (hn : i < n) (ho : offI w i I I2) (c : ∀ k, k < 4 → I2 (w + 1 + k) i = nI (passN ρ n dm rn σ k i)) : atW I2 w (midN ρ n dm rn σ (i + 1)) := by
  refine ⟨fun k hk j hj => ?_, fun q h1 h2 => ?_⟩
  · by_cases e : j = i
    · subst e
      rw [c k hk]
      unfold midN
      rw [if_pos ⟨hk, by omega⟩]
    · rw [ho.1 k hk j e, h.1 k hk j hj]
      unfold midN
      by_cases e2 : j < i
      · rw [if_pos ⟨hk, e2⟩, if_pos ⟨hk, by omega⟩]
      · rw [if_neg (fun q => e2 q.2), if_neg (fun q => by omega)]
  · rw [ho.2.1 q, h.2 q h1 h2]
    unfold midN
    rw [if_neg (fun q => by omega), if_neg (fun q => by omega)]
theorem mid_at {ρ σ : SN} {n dm rn i k j : Nat} (h : ¬ j < i) : midN ρ n dm rn σ i k j = σ k j := by
  unfold midN
  rw [if_neg (fun q => h q.2)]
theorem mid_0 {ρ σ : SN} {n dm rn : Nat} : midN ρ n dm rn σ 0 = σ := by
  funext k j
  exact mid_at (Nat.not_lt_zero _)
theorem mid_n {I : IT} {ρ σ : SN} {w n dm rn : Nat} (hn : n ≤ 6) (h : atW I w (midN ρ n dm rn σ n)) : ∀ k, k < 4 → ∀ j, j < 6 → I (w + 1 + k) j = nI (passN ρ n dm rn σ k j) := by
  intro k hk j hj
  rw [h.1 k hk j hj]
  unfold midN
  by_cases e : j < n
  · rw [if_pos ⟨hk, e⟩]
  · rw [if_neg (fun q => e q.2)]
    unfold passN
    rw [if_pos hk, if_neg e]
theorem prv_s (f : Nat → Nat) (i : Nat) : prv f (i + 1) = f i := by
  unfold prv
  rw [if_neg (by omega)]
  rfl
set_option maxRecDepth 4000 in
theorem pass_step {I0 : IT} {J : JT} {F : FT} {w r n dm rn : Nat} {ρ σ : SN} (hF : Fok F) (hw : isW w) (hr : isR r) (hρ : ∀ k j, ρ k j ≤ 9) (hdm : dm < 64) (hrn : rn ≤ 9) (hb : ∀ j, j < n → σ 0 j < 2 ^ 29 ∧ σ 1 j < 2 ^ 29) (hn6 : n ≤ 6) (i : Nat) (hin0 : i ≤ n) (I : IT) (x7 x8 x9 x10 : Option VV) (hA : atW I w (midN ρ n dm rn σ i)) (hoff : offW w I0 I) (hR : atR I r ρ n) (cm sm : Nat) (hcm : cm = prv (goN ρ dm rn σ) i) (hsm : sm = prv (s2N ρ dm rn σ) i)
    (ih0 : ∀ i', i < n → i' = i + 1 → ∀ (I : IT) (x7 x8 x9 x10 : Option VV), atW I w (midN ρ n dm rn σ i') → offW w I0 I → atR I r ρ n → ∀ (cm sm : Nat), cm = prv (goN ρ dm rn σ) i' → sm = prv (s2N ρ dm rn σ) i' → Wp none 75 (fun R => ∃ I2, R = (some (vI (nI (prv (goN ρ dm rn σ) n))), KK, I2, J, F) ∧ atW I2 w (passN ρ n dm rn σ) ∧ offW w I0 I2) 9 [some (vR w), some (vR r), some (vI (nI dm)), some (vI (nI rn)), some (vI (nI cm)), some (vI (nI sm)), some (vI (nI i')), x7, x8, x9, x10] [] KK I J F) :
    Wp none 75 (fun R => ∃ I2, R = (some (vI (nI (prv (goN ρ dm rn σ) n))), KK, I2, J, F) ∧ atW I2 w (passN ρ n dm rn σ) ∧ offW w I0 I2) 9 [some (vR w), some (vR r), some (vI (nI dm)), some (vI (nI rn)), some (vI (nI cm)), some (vI (nI sm)), some (vI (nI i)), x7, x8, x9, x10] [] KK I J F := by
    refine wp_aload_n (pc := 9) (i := 1) d_75_9 rfl rfl ?_
    refine wp_iload (pc := 10) d_75_10 rfl ?_
    refine wp_callV1p (pc := 12) d_75_12 lk_8_50 (by decide) rfl (Nat.le_of_ble_eq_true rfl) (kR hr) rfl (c_has hr hR (nI i)) ?_
    refine wp_ifB_eq (pc := 15) (tgt := 173) d_75_15 (by decide) (fun zq15 => ?_) (fun zq15 => ?_)
    · have hin : i = n := by rw [inR_nI (by omega)] at zq15; have := of_decide_eq_false zq15; omega
      subst hin
      refine wp_aload_n (pc := 173) (i := 0) d_75_173 rfl rfl ?_
      refine wp_dup (pc := 174) d_75_174 rfl ?_
      refine wp_gI (pc := 175) d_75_175 fl_8_24 (kW hw) ft_7_4 (hA.2 4 (by decide) (by decide)) ?_
      refine wp_iload (pc := 178) d_75_178 rfl ?_
      refine wp_iaddN (pc := 180) d_75_180 ?_
      refine wp_pI (pc := 181) d_75_181 fl_8_24 (kW hw) ft_7_4 rfl (fun Iq181 uq181 => ?_)
      refine wp_aload_n (pc := 184) (i := 0) d_75_184 rfl rfl ?_
      refine wp_dup (pc := 185) d_75_185 rfl ?_
      refine wp_gI (pc := 186) d_75_186 fl_8_28 (kW hw) ft_7_5 ((uq181.ne (by decide)).trans (hA.2 5 (by decide) (by decide))) ?_
      refine wp_iload (pc := 189) d_75_189 rfl ?_
      refine wp_iaddN (pc := 191) d_75_191 ?_
      refine wp_pI (pc := 192) d_75_192 fl_8_28 (kW hw) ft_7_5 rfl (fun Iq192 uq192 => ?_)
      refine wp_aload_n (pc := 195) (i := 0) d_75_195 rfl rfl ?_
      refine wp_dup (pc := 196) d_75_196 rfl ?_
      refine wp_gI (pc := 197) d_75_197 fl_8_31 (kW hw) ft_7_6 ((uq192.ne (by decide)).trans ((uq181.ne (by decide)).trans (hA.2 6 (by decide) (by decide)))) ?_
      refine wp_icN (pc := 200) (m := 1) d_75_200 (by decide) ?_
      refine wp_iaddN (pc := 201) d_75_201 ?_
      refine wp_pI (pc := 202) d_75_202 fl_8_31 (kW hw) ft_7_6 rfl (fun Iq202 uq202 => ?_)
      refine wp_iload (pc := 205) d_75_205 rfl ?_
      refine wp_iret (pc := 207) d_75_207 (Or.inl rfl) ⟨_, by rw [hcm], ⟨?_, ?_⟩, hoff.tr (((offW_fld uq181).tr (offW_fld uq192)).tr (offW_fld uq202))⟩
      · intro k hk j hj
        rw [uq202.off (by omega), uq192.off (by omega), uq181.off (by omega)]
        exact mid_n hn6 hA k hk j hj
      · intro q h1 h2
        unfold passN
        rw [if_neg (by decide)]
        have hq : q = 4 ∨ q = 5 ∨ q = 6 ∨ q = 7 := by omega
        have hm : ∀ z, midN ρ i dm rn σ i 4 z = σ 4 z := fun z => by unfold midN; rw [if_neg (fun q => by omega)]
        rcases hq with rfl | rfl | rfl | rfl
        · rw [if_pos rfl, uq202.ne (by decide), uq192.ne (by decide), uq181.at, ← hcm, hm]
        · rw [if_neg (by decide), if_pos rfl, uq202.ne (by decide), uq192.at, ← hsm, hm]
        · rw [if_neg (by decide), if_neg (by decide), if_pos rfl, uq202.at, hm]
        · rw [if_neg (by decide), if_neg (by decide), if_neg (by decide), uq202.ne (by decide), uq192.ne (by decide), uq181.ne (by decide), hA.2 7 (by decide) (by decide), hm]
    · have hin : i < n := by rw [inR_nI (by omega)] at zq15; exact of_decide_eq_true zq15
      have hi6 : i < 6 := by omega
      have hb0 := hb i hin
      have c0 : I (w + 1 + 0) i = nI (σ 0 i) := (hA.1 0 (by decide) i hi6).trans (congrArg nI (mid_at (Nat.lt_irrefl i)))
      have c1 : I (w + 1 + 1) i = nI (σ 1 i) := (hA.1 1 (by decide) i hi6).trans (congrArg nI (mid_at (Nat.lt_irrefl i)))
      have c2 : I (w + 1 + 2) i = nI (σ 2 i) := (hA.1 2 (by decide) i hi6).trans (congrArg nI (mid_at (Nat.lt_irrefl i)))
      have c3 : I (w + 1 + 3) i = nI (σ 3 i) := (hA.1 3 (by decide) i hi6).trans (congrArg nI (mid_at (Nat.lt_irrefl i)))
      refine wp_iload (pc := 18) d_75_18 rfl ?_
      refine wp_bpN (pc := 20) (m := 6) d_75_20 (by decide) ?_
      refine wp_icmpN_ge (pc := 22) (tgt := 173) d_75_22 (by decide) (by omega) (by decide) (fun zq22 => ?_) (fun zq22 => ?_)
      · exact absurd zq22 (by omega)
      · refine wp_aload_n (pc := 25) (i := 0) d_75_25 rfl rfl ?_
        refine wp_gA (pc := 26) d_75_26 fl_8_9 (kW hw) ft_7_0 (fW hF hw (k := 0) (by decide)) ?_
        refine wp_iload (pc := 29) d_75_29 rfl ?_
        refine wp_dup2a (pc := 31) d_75_31 rfl rfl ?_
        refine wp_aL (pc := 32) (j := i) d_75_32 (kWa hw (k := 0) (by decide)) rfl hi6 (by decide) c0 ?_
        refine wp_iload_n (pc := 33) (i := 3) d_75_33 rfl rfl ?_
        refine wp_iaddN (pc := 34) d_75_34 ?_
        refine wp_aS (pc := 35) (j := i) d_75_35 (kWa hw (k := 0) (by decide)) rfl hi6 (by decide) (fun Iq35 uq35 => ?_)
        refine wp_aload_n (pc := 36) (i := 1) d_75_36 rfl rfl ?_
        refine wp_iload (pc := 37) d_75_37 rfl ?_
        refine wp_callV1p (pc := 39) d_75_39 lk_8_67 (by decide) rfl (Nat.le_of_ble_eq_true rfl) (kR hr) rfl (c_soilOf hF hr (atR_off hr hw hR (offW_arr (k := 0) uq35 (by decide))) hin) ?_
        refine wp_aload_n (pc := 42) (i := 0) d_75_42 rfl rfl ?_
        refine wp_gA (pc := 43) d_75_43 fl_8_9 (kW hw) ft_7_0 (fW hF hw (k := 0) (by decide)) ?_
        refine wp_iload (pc := 46) d_75_46 rfl ?_
        refine wp_aL (pc := 48) (j := i) d_75_48 (kWa hw (k := 0) (by decide)) rfl hi6 (by decide) uq35.at ?_
        refine wq_mminN (pc := 49) d_75_49 mm_8_70 (Nat.le_of_ble_eq_true rfl) (by have := hρ 0 i; omega) (by omega) ?_
        refine wq_istore (pc := 52) (L2 := [_, _, _, _, _, _, _, _, _, _, _]) d_75_52 (Nat.le_of_ble_eq_true rfl) rfl rfl ?_
        refine wp_aload_n (pc := 54) (i := 0) d_75_54 rfl rfl ?_
        refine wp_gA (pc := 55) d_75_55 fl_8_18 (kW hw) ft_7_2 (fW hF hw (k := 2) (by decide)) ?_
        refine wp_iload (pc := 58) d_75_58 rfl ?_
        refine wp_dup2a (pc := 60) d_75_60 rfl rfl ?_
        refine wp_aL (pc := 61) (j := i) d_75_61 (kWa hw (k := 2) (by decide)) rfl hi6 (by decide) ((uq35.off (by omega)).trans c2) ?_
        refine wp_iload (pc := 62) d_75_62 rfl ?_
        refine wp_iaddN (pc := 64) d_75_64 ?_
        refine wp_aS (pc := 65) (j := i) d_75_65 (kWa hw (k := 2) (by decide)) rfl hi6 (by decide) (fun Iq65 uq65 => ?_)
        have hc65 : Iq65 (w + 1 + 0) i = nI (σ 0 i + rn) := (uq65.off (by omega)).trans uq35.at
        have hs65 : Iq65 (w + 1 + 1) i = nI (σ 1 i) := (uq65.off (by omega)).trans ((uq35.off (by omega)).trans c1)
        refine wp_aload_n (pc := 66) (i := 0) d_75_66 rfl rfl ?_
        refine wp_gA (pc := 67) d_75_67 fl_8_21 (kW hw) ft_7_3 (fW hF hw (k := 3) (by decide)) ?_
        refine wp_iload (pc := 70) d_75_70 rfl ?_
        refine wp_dup2a (pc := 72) d_75_72 rfl rfl ?_
        refine wp_aL (pc := 73) (j := i) d_75_73 (kWa hw (k := 3) (by decide)) rfl hi6 (by decide) ((uq65.off (by omega)).trans ((uq35.off (by omega)).trans c3)) ?_
        refine wp_aload_n (pc := 74) (i := 0) d_75_74 rfl rfl ?_
        refine wp_iload (pc := 75) d_75_75 rfl ?_
        refine wp_iload (pc := 77) d_75_77 rfl ?_
        refine wp_callV2e (pc := 79) d_75_79 lk_8_76 (by decide) rfl (Nat.le_of_ble_eq_true rfl) (kW hw) rfl (c_takeAway hF hw hi6 hc65 hs65 (g := drN ρ rn σ i) (Nat.min_le_right _ _) (by omega) (by omega)) (fun Iq79 hq79 => ?_)
        have hc83a : Iq79 (w + 1 + 0) i = nI (waN ρ rn σ i) := hq79.1
        have hs79 : Iq79 (w + 1 + 1) i = nI (saN ρ rn σ i) := hq79.2.1
        refine wp_iaddN (pc := 82) d_75_82 ?_
        refine wp_aS (pc := 83) (j := i) d_75_83 (kWa hw (k := 3) (by decide)) rfl hi6 (by decide) (fun Iq83 uq83 => ?_)
        have hc83 : Iq83 (w + 1 + 0) i = nI (waN ρ rn σ i) := (uq83.off (by omega)).trans hc83a
        have hs83 : Iq83 (w + 1 + 1) i = nI (saN ρ rn σ i) := (uq83.off (by omega)).trans hs79
        refine wp_iload_n (pc := 84) (i := 2) d_75_84 rfl rfl ?_
        refine wp_iload (pc := 85) d_75_85 rfl ?_
        refine wp_callSN2p (pc := 87) d_75_87 lk_8_79 (by decide) rfl (Nat.le_of_ble_eq_true rfl) (c_holds hdm hi6) ?_
        refine wp_ifB_eq (pc := 90) (tgt := 97) d_75_90 (by decide) (fun zq90 => ?_) (fun zq90 => ?_)
        · refine wp_aload_n (pc := 97) (i := 1) d_75_97 rfl rfl ?_
          refine wp_iload (pc := 98) d_75_98 rfl ?_
          refine wp_callV1p (pc := 100) d_75_100 lk_8_83 (by decide) rfl (Nat.le_of_ble_eq_true rfl) (kR hr) rfl (c_gutterOf hF hr (atR_off hr hw hR ((((offW_arr (k := 0) uq35 (by decide)).tr (offW_arr (k := 2) uq65 (by decide))).tr hq79.2.2.2.2).tr (offW_arr (k := 3) uq83 (by decide)))) hin) ?_
          refine wq_istore (pc := 103) (L2 := [_, _, _, _, _, _, _, _, _, _, _]) d_75_103 (Nat.le_of_ble_eq_true rfl) rfl rfl ?_
          refine wp_aload_n (pc := 105) (i := 0) d_75_105 rfl rfl ?_
          refine wp_gA (pc := 106) d_75_106 fl_8_9 (kW hw) ft_7_0 (fW hF hw (k := 0) (by decide)) ?_
          refine wp_iload (pc := 109) d_75_109 rfl ?_
          refine wp_aL (pc := 111) (j := i) d_75_111 (kWa hw (k := 0) (by decide)) rfl hi6 (by decide) hc83 ?_
          refine wp_iload (pc := 112) d_75_112 rfl ?_
          refine wp_aload_n (pc := 114) (i := 1) d_75_114 rfl rfl ?_
          refine wp_iload (pc := 115) d_75_115 rfl ?_
          refine wp_callV1p (pc := 117) d_75_117 lk_8_86 (by decide) rfl (Nat.le_of_ble_eq_true rfl) (kR hr) rfl (c_brimOf hF hr (atR_off hr hw hR ((((offW_arr (k := 0) uq35 (by decide)).tr (offW_arr (k := 2) uq65 (by decide))).tr hq79.2.2.2.2).tr (offW_arr (k := 3) uq83 (by decide)))) hin) ?_
          refine wp_callS3p (pc := 120) d_75_120 lk_8_89 (by decide) rfl (Nat.le_of_ble_eq_true rfl) (c_goingFrom (a := waN ρ rn σ i) (c := ρ 1 i) (b := ρ 3 i) (v := goN ρ dm rn σ i) (by have := hb0; unfold waN drN; omega) (by have := hρ 1 i; omega) (by have := hρ 3 i; omega) (by unfold goN gof; rw [zq90]; rfl)) ?_
          refine wq_istore (pc := 123) (L2 := [_, _, _, _, _, _, _, _, _, _, _]) d_75_123 (Nat.le_of_ble_eq_true rfl) rfl rfl ?_
          refine wp_aload_n (pc := 125) (i := 0) d_75_125 rfl rfl ?_
          refine wp_iload (pc := 126) d_75_126 rfl ?_
          refine wp_iload (pc := 128) d_75_128 rfl ?_
          refine wp_callV2e (pc := 130) d_75_130 lk_8_76 (by decide) rfl (Nat.le_of_ble_eq_true rfl) (kW hw) rfl (c_takeAway hF hw hi6 hc83 hs83 (g := goN ρ dm rn σ i) gof_le (by unfold waN drN; omega) (by unfold saN; omega)) (fun Iq130 hq130 => ?_)
          refine wq_istore (pc := 133) (L2 := [_, _, _, _, _, _, _, _, _, _, _]) d_75_133 (Nat.le_of_ble_eq_true rfl) rfl rfl ?_
          refine wp_aload_n (pc := 135) (i := 0) d_75_135 rfl rfl ?_
          refine wp_gA (pc := 136) d_75_136 fl_8_9 (kW hw) ft_7_0 (fW hF hw (k := 0) (by decide)) ?_
          refine wp_iload (pc := 139) d_75_139 rfl ?_
          refine wp_dup2a (pc := 141) d_75_141 rfl rfl ?_
          refine wp_aL (pc := 142) (j := i) d_75_142 (kWa hw (k := 0) (by decide)) rfl hi6 (by decide) hq130.1 ?_
          refine wp_iload (pc := 143) d_75_143 rfl ?_
          refine wp_iaddN (pc := 145) d_75_145 ?_
          refine wp_aS (pc := 146) (j := i) d_75_146 (kWa hw (k := 0) (by decide)) rfl hi6 (by decide) (fun Iq146 uq146 => ?_)
          refine wp_aload_n (pc := 147) (i := 0) d_75_147 rfl rfl ?_
          refine wp_gA (pc := 148) d_75_148 fl_8_15 (kW hw) ft_7_1 (fW hF hw (k := 1) (by decide)) ?_
          refine wp_iload (pc := 151) d_75_151 rfl ?_
          refine wp_dup2a (pc := 153) d_75_153 rfl rfl ?_
          refine wp_aL (pc := 154) (j := i) d_75_154 (kWa hw (k := 1) (by decide)) rfl hi6 (by decide) ((uq146.off (by omega)).trans hq130.2.1) ?_
          refine wp_iload (pc := 155) d_75_155 rfl ?_
          refine wp_iaddN (pc := 157) d_75_157 ?_
          refine wp_aS (pc := 158) (j := i) d_75_158 (kWa hw (k := 1) (by decide)) rfl hi6 (by decide) (fun Iq158 uq158 => ?_)
          refine wp_iload (pc := 159) d_75_159 rfl ?_
          refine wq_istore (pc := 161) (L2 := [_, _, _, _, _, _, _, _, _, _, _]) d_75_161 (Nat.le_of_ble_eq_true rfl) rfl rfl ?_
          refine wp_iload (pc := 163) d_75_163 rfl ?_
          refine wq_istore (pc := 165) (L2 := [_, _, _, _, _, _, _, _, _, _, _]) d_75_165 (Nat.le_of_ble_eq_true rfl) rfl rfl ?_
          refine wq_iincN (pc := 167) (L2 := [_, _, _, _, _, _, _, _, _, _, _]) d_75_167 rfl (b := 1) (by decide) rfl rfl ?_
          refine wp_goto (pc := 170) (tgt := 9) d_75_170 (by decide) ?_
          have hO : offI w i I Iq158 := (((((((offI_up (k := 0) uq35 (by decide)).tr (offI_up (k := 2) uq65 (by decide))).tr hq79.2.2.I).tr (offI_up (k := 3) uq83 (by decide))).tr hq130.2.2.I).tr (offI_up (k := 0) uq146 (by decide))).tr (offI_up (k := 1) uq158 (by decide)))
          have hS := mid_step hA hin hO (fun k hk => ?_)
          · exact ih0 (i + 1) hin rfl Iq158 _ _ _ _ hS (hoff.tr hO.2.2) (atR_off hr hw hR hO.2.2) _ _ (prv_s _ _).symm (prv_s _ _).symm
          · have hk4 : k = 0 ∨ k = 1 ∨ k = 2 ∨ k = 3 := by omega
            unfold passN
            rw [if_pos hk, if_pos hin]
            rcases hk4 with rfl | rfl | rfl | rfl
            · rw [if_pos rfl, ← hcm, uq158.off (by omega)]
              exact uq146.at
            · rw [if_neg (by decide), if_pos rfl, ← hsm]
              exact uq158.at
            · rw [if_neg (by decide), if_neg (by decide), if_pos rfl, uq158.off (by omega), uq146.off (by omega), hq130.2.2.1 2 (by decide) i (Or.inr (by decide)), uq83.off (by omega), hq79.2.2.1 2 (by decide) i (Or.inr (by decide))]
              exact uq65.at
            · rw [if_neg (by decide), if_neg (by decide), if_neg (by decide), uq158.off (by omega), uq146.off (by omega), hq130.2.2.1 3 (by decide) i (Or.inr (by decide))]
              exact uq83.at
        · refine wp_icN (pc := 93) (m := 0) d_75_93 (by decide) ?_
          refine wp_goto (pc := 94) (tgt := 103) d_75_94 (by decide) ?_
          refine wq_istore (pc := 103) (L2 := [_, _, _, _, _, _, _, _, _, _, _]) d_75_103 (Nat.le_of_ble_eq_true rfl) rfl rfl ?_
          refine wp_aload_n (pc := 105) (i := 0) d_75_105 rfl rfl ?_
          refine wp_gA (pc := 106) d_75_106 fl_8_9 (kW hw) ft_7_0 (fW hF hw (k := 0) (by decide)) ?_
          refine wp_iload (pc := 109) d_75_109 rfl ?_
          refine wp_aL (pc := 111) (j := i) d_75_111 (kWa hw (k := 0) (by decide)) rfl hi6 (by decide) hc83 ?_
          refine wp_iload (pc := 112) d_75_112 rfl ?_
          refine wp_aload_n (pc := 114) (i := 1) d_75_114 rfl rfl ?_
          refine wp_iload (pc := 115) d_75_115 rfl ?_
          refine wp_callV1p (pc := 117) d_75_117 lk_8_86 (by decide) rfl (Nat.le_of_ble_eq_true rfl) (kR hr) rfl (c_brimOf hF hr (atR_off hr hw hR ((((offW_arr (k := 0) uq35 (by decide)).tr (offW_arr (k := 2) uq65 (by decide))).tr hq79.2.2.2.2).tr (offW_arr (k := 3) uq83 (by decide)))) hin) ?_
          refine wp_callS3p (pc := 120) d_75_120 lk_8_89 (by decide) rfl (Nat.le_of_ble_eq_true rfl) (c_goingFrom (a := waN ρ rn σ i) (c := 0) (b := ρ 3 i) (v := goN ρ dm rn σ i) (by have := hb0; unfold waN drN; omega) (by have := hρ 1 i; omega) (by have := hρ 3 i; omega) (by unfold goN gof; rw [zq90, Nat.zero_min]; rfl)) ?_
          refine wq_istore (pc := 123) (L2 := [_, _, _, _, _, _, _, _, _, _, _]) d_75_123 (Nat.le_of_ble_eq_true rfl) rfl rfl ?_
          refine wp_aload_n (pc := 125) (i := 0) d_75_125 rfl rfl ?_
          refine wp_iload (pc := 126) d_75_126 rfl ?_
          refine wp_iload (pc := 128) d_75_128 rfl ?_
          refine wp_callV2e (pc := 130) d_75_130 lk_8_76 (by decide) rfl (Nat.le_of_ble_eq_true rfl) (kW hw) rfl (c_takeAway hF hw hi6 hc83 hs83 (g := goN ρ dm rn σ i) gof_le (by unfold waN drN; omega) (by unfold saN; omega)) (fun Iq130 hq130 => ?_)
          refine wq_istore (pc := 133) (L2 := [_, _, _, _, _, _, _, _, _, _, _]) d_75_133 (Nat.le_of_ble_eq_true rfl) rfl rfl ?_
          refine wp_aload_n (pc := 135) (i := 0) d_75_135 rfl rfl ?_
          refine wp_gA (pc := 136) d_75_136 fl_8_9 (kW hw) ft_7_0 (fW hF hw (k := 0) (by decide)) ?_
          refine wp_iload (pc := 139) d_75_139 rfl ?_
          refine wp_dup2a (pc := 141) d_75_141 rfl rfl ?_
          refine wp_aL (pc := 142) (j := i) d_75_142 (kWa hw (k := 0) (by decide)) rfl hi6 (by decide) hq130.1 ?_
          refine wp_iload (pc := 143) d_75_143 rfl ?_
          refine wp_iaddN (pc := 145) d_75_145 ?_
          refine wp_aS (pc := 146) (j := i) d_75_146 (kWa hw (k := 0) (by decide)) rfl hi6 (by decide) (fun Iq146 uq146 => ?_)
          refine wp_aload_n (pc := 147) (i := 0) d_75_147 rfl rfl ?_
          refine wp_gA (pc := 148) d_75_148 fl_8_15 (kW hw) ft_7_1 (fW hF hw (k := 1) (by decide)) ?_
          refine wp_iload (pc := 151) d_75_151 rfl ?_
          refine wp_dup2a (pc := 153) d_75_153 rfl rfl ?_
          refine wp_aL (pc := 154) (j := i) d_75_154 (kWa hw (k := 1) (by decide)) rfl hi6 (by decide) ((uq146.off (by omega)).trans hq130.2.1) ?_
          refine wp_iload (pc := 155) d_75_155 rfl ?_
          refine wp_iaddN (pc := 157) d_75_157 ?_
          refine wp_aS (pc := 158) (j := i) d_75_158 (kWa hw (k := 1) (by decide)) rfl hi6 (by decide) (fun Iq158 uq158 => ?_)
          refine wp_iload (pc := 159) d_75_159 rfl ?_
          refine wq_istore (pc := 161) (L2 := [_, _, _, _, _, _, _, _, _, _, _]) d_75_161 (Nat.le_of_ble_eq_true rfl) rfl rfl ?_
          refine wp_iload (pc := 163) d_75_163 rfl ?_
          refine wq_istore (pc := 165) (L2 := [_, _, _, _, _, _, _, _, _, _, _]) d_75_165 (Nat.le_of_ble_eq_true rfl) rfl rfl ?_
          refine wq_iincN (pc := 167) (L2 := [_, _, _, _, _, _, _, _, _, _, _]) d_75_167 rfl (b := 1) (by decide) rfl rfl ?_
          refine wp_goto (pc := 170) (tgt := 9) d_75_170 (by decide) ?_
          have hO : offI w i I Iq158 := (((((((offI_up (k := 0) uq35 (by decide)).tr (offI_up (k := 2) uq65 (by decide))).tr hq79.2.2.I).tr (offI_up (k := 3) uq83 (by decide))).tr hq130.2.2.I).tr (offI_up (k := 0) uq146 (by decide))).tr (offI_up (k := 1) uq158 (by decide)))
          have hS := mid_step hA hin hO (fun k hk => ?_)
          · exact ih0 (i + 1) hin rfl Iq158 _ _ _ _ hS (hoff.tr hO.2.2) (atR_off hr hw hR hO.2.2) _ _ (prv_s _ _).symm (prv_s _ _).symm
          · have hk4 : k = 0 ∨ k = 1 ∨ k = 2 ∨ k = 3 := by omega
            unfold passN
            rw [if_pos hk, if_pos hin]
            rcases hk4 with rfl | rfl | rfl | rfl
            · rw [if_pos rfl, ← hcm, uq158.off (by omega)]
              exact uq146.at
            · rw [if_neg (by decide), if_pos rfl, ← hsm]
              exact uq158.at
            · rw [if_neg (by decide), if_neg (by decide), if_pos rfl, uq158.off (by omega), uq146.off (by omega), hq130.2.2.1 2 (by decide) i (Or.inr (by decide)), uq83.off (by omega), hq79.2.2.1 2 (by decide) i (Or.inr (by decide))]
              exact uq65.at
            · rw [if_neg (by decide), if_neg (by decide), if_neg (by decide), uq158.off (by omega), uq146.off (by omega), hq130.2.2.1 3 (by decide) i (Or.inr (by decide))]
              exact uq83.at
set_option maxRecDepth 4000 in
theorem pass_loop {I0 : IT} {J : JT} {F : FT} {w r n dm rn : Nat} {ρ σ : SN} (hF : Fok F) (hw : isW w) (hr : isR r) (hρ : ∀ k j, ρ k j ≤ 9) (hdm : dm < 64) (hrn : rn ≤ 9) (hb : ∀ j, j < n → σ 0 j < 2 ^ 29 ∧ σ 1 j < 2 ^ 29) (hn6 : n ≤ 6) : ∀ (d i : Nat), i + d = n → ∀ (I : IT) (x7 x8 x9 x10 : Option VV), atW I w (midN ρ n dm rn σ i) → offW w I0 I → atR I r ρ n → ∀ (cm sm : Nat), cm = prv (goN ρ dm rn σ) i → sm = prv (s2N ρ dm rn σ) i →
    Wp none 75 (fun R => ∃ I2, R = (some (vI (nI (prv (goN ρ dm rn σ) n))), KK, I2, J, F) ∧ atW I2 w (passN ρ n dm rn σ) ∧ offW w I0 I2) 9 [some (vR w), some (vR r), some (vI (nI dm)), some (vI (nI rn)), some (vI (nI cm)), some (vI (nI sm)), some (vI (nI i)), x7, x8, x9, x10] [] KK I J F := by
  intro d
  induction d with
  | zero =>
    intro i hid I x7 x8 x9 x10 hA hoff hR cm sm hcm hsm
    refine pass_step hF hw hr hρ hdm hrn hb hn6 i (by omega) I x7 x8 x9 x10 hA hoff hR cm sm hcm hsm (fun i' hlt => absurd hlt (by omega))
  | succ d ih =>
    intro i hid I x7 x8 x9 x10 hA hoff hR cm sm hcm hsm
    refine pass_step hF hw hr hρ hdm hrn hb hn6 i (by omega) I x7 x8 x9 x10 hA hoff hR cm sm hcm hsm (fun i' hlt he => ih i' (by omega))
/-- pass: a quarter -/
theorem c_pass {I : IT} {J : JT} {F : FT} {w r n dm rn : Nat} {ρ σ : SN} (hF : Fok F) (hw : isW w) (hr : isR r) (hρ : ∀ k j, ρ k j ≤ 9) (hdm : dm < 64) (hrn : rn ≤ 9) (hb : ∀ j, j < n → σ 0 j < 2 ^ 29 ∧ σ 1 j < 2 ^ 29) (hA : atW I w σ) (hR : atR I r ρ n) : Sp 75 [vR w, vR r, vI (nI dm), vI (nI rn)] KK I J F (fun R => ∃ I2, R = (some (vI (nI (prv (goN ρ dm rn σ) n))), KK, I2, J, F) ∧ atW I2 w (passN ρ n dm rn σ) ∧ offW w I I2) := by
  refine Sp.mk2 (Nat.le_of_ble_eq_true rfl) (L2 := [_, _, _, _, _, _, _, _, _, _, _]) rfl ?_
  refine wp_icN (pc := 0) (m := 0) d_75_0 (by decide) ?_
  refine wq_istore (pc := 1) (L2 := [_, _, _, _, _, _, _, _, _, _, _]) d_75_1 (Nat.le_of_ble_eq_true rfl) rfl rfl ?_
  refine wp_icN (pc := 3) (m := 0) d_75_3 (by decide) ?_
  refine wq_istore (pc := 4) (L2 := [_, _, _, _, _, _, _, _, _, _, _]) d_75_4 (Nat.le_of_ble_eq_true rfl) rfl rfl ?_
  refine wp_icN (pc := 6) (m := 0) d_75_6 (by decide) ?_
  refine wq_istore (pc := 7) (L2 := [_, _, _, _, _, _, _, _, _, _, _]) d_75_7 (Nat.le_of_ble_eq_true rfl) rfl rfl ?_
  exact pass_loop hF hw hr hρ hdm hrn hb hR.1 n 0 (by omega) I _ _ _ _ (by rw [mid_0]; exact hA) offW.rf hR 0 0 rfl rfl
