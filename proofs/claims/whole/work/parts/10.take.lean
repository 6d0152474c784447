/-- nothing but water and soap of place j, of the Waters w, is otherwise -/
def offC (w j : Nat) (I I2 : IT) : Prop := (∀ k, k < 4 → ∀ j', (j' ≠ j ∨ 2 ≤ k) → I2 (w + 1 + k) j' = I (w + 1 + k) j') ∧ (∀ q, I2 w q = I w q) ∧ offW w I I2
theorem offC_up {I I2 : IT} {w k j : Nat} {x : Int32} (u : Up I I2 (w + 1 + k) j x) (hk : k < 2) : offC w j I I2 := by
  refine ⟨fun k' hk' j' h => ?_, fun q => u.off (by omega), offW_arr u (by omega)⟩
  by_cases e : k' = k
  · subst e
    exact u.ne (by omega)
  · exact u.off (by omega)
theorem offC.tr {I I2 I3 : IT} {w j : Nat} (h : offC w j I I2) (h2 : offC w j I2 I3) : offC w j I I3 := ⟨fun k hk j' hj => (h2.1 k hk j' hj).trans (h.1 k hk j' hj), fun q => (h2.2.1 q).trans (h.2.1 q), h.2.2.tr h2.2.2⟩
set_option maxRecDepth 4000 in
theorem c_takeAway {I : IT} {J : JT} {F : FT} {w j a s g : Nat} (hF : Fok F) (hw : isW w) (hj : j < 6) (c0 : I (w + 1 + 0) j = nI a) (c1 : I (w + 1 + 1) j = nI s) (hg : g ≤ a) (ha : a < 2 ^ 31) (hs : s < 2 ^ 31) : Sp 76 [vR w, vI (nI j), vI (nI g)] KK I J F (fun R => ∃ I2, R = (some (vI (nI (alg s g a))), KK, I2, J, F) ∧ I2 (w + 1 + 0) j = nI (a - g) ∧ I2 (w + 1 + 1) j = nI (s - alg s g a) ∧ offC w j I I2) := by
  have hin : inR (nI j) 6 = true := by rw [inR_nI (by omega)]; exact decide_eq_true hj
  refine Sp.mk2 (Nat.le_of_ble_eq_true rfl) (L2 := [_, _, _, _]) rfl ?_
  refine wp_iload_n (pc := 0) (i := 1) d_76_0 rfl rfl ?_
  refine wp_callS1p (pc := 1) d_76_1 lk_8_37 (by decide) rfl (Nat.le_of_ble_eq_true rfl) (c_isPlace (nI j)) ?_
  refine wp_ifB_ne (pc := 4) (tgt := 9) d_76_4 (by decide) (fun zq4 => ?_) (fun zq4 => ?_)
  · refine wp_aload_n (pc := 9) (i := 0) d_76_9 rfl rfl ?_
    refine wp_gA (pc := 10) d_76_10 fl_8_15 (kW hw) ft_7_1 (fW hF hw (k := 1) (by decide)) ?_
    refine wp_iload_n (pc := 13) (i := 1) d_76_13 rfl rfl ?_
    refine wp_aL (pc := 14) (j := j) d_76_14 (kWa hw (k := 1) (by decide)) rfl hj (by decide) c1 ?_
    refine wp_iload_n (pc := 15) (i := 2) d_76_15 rfl rfl ?_
    refine wp_aload_n (pc := 16) (i := 0) d_76_16 rfl rfl ?_
    refine wp_gA (pc := 17) d_76_17 fl_8_9 (kW hw) ft_7_0 (fW hF hw (k := 0) (by decide)) ?_
    refine wp_iload_n (pc := 20) (i := 1) d_76_20 rfl rfl ?_
    refine wp_aL (pc := 21) (j := j) d_76_21 (kWa hw (k := 0) (by decide)) rfl hj (by decide) c0 ?_
    refine wp_callS3p (pc := 22) d_76_22 lk_8_63 (by decide) rfl (Nat.le_of_ble_eq_true rfl) (c_soapAlong hs (Nat.lt_of_le_of_lt hg ha) ha) ?_
    refine wq_istore_n (pc := 25) (L2 := [_, _, _, _]) (i := 3) d_76_25 rfl (Nat.le_of_ble_eq_true rfl) rfl rfl ?_
    refine wp_aload_n (pc := 26) (i := 0) d_76_26 rfl rfl ?_
    refine wp_gA (pc := 27) d_76_27 fl_8_9 (kW hw) ft_7_0 (fW hF hw (k := 0) (by decide)) ?_
    refine wp_iload_n (pc := 30) (i := 1) d_76_30 rfl rfl ?_
    refine wp_dup2a (pc := 31) d_76_31 rfl rfl ?_
    refine wp_aL (pc := 32) (j := j) d_76_32 (kWa hw (k := 0) (by decide)) rfl hj (by decide) c0 ?_
    refine wp_iload_n (pc := 33) (i := 2) d_76_33 rfl rfl ?_
    refine wp_isubN (pc := 34) d_76_34 hg ?_
    refine wp_aS (pc := 35) (j := j) d_76_35 (kWa hw (k := 0) (by decide)) rfl hj (by decide) (fun Iq35 uq35 => ?_)
    refine wp_aload_n (pc := 36) (i := 0) d_76_36 rfl rfl ?_
    refine wp_gA (pc := 37) d_76_37 fl_8_15 (kW hw) ft_7_1 (fW hF hw (k := 1) (by decide)) ?_
    refine wp_iload_n (pc := 40) (i := 1) d_76_40 rfl rfl ?_
    refine wp_dup2a (pc := 41) d_76_41 rfl rfl ?_
    refine wp_aL (pc := 42) (j := j) d_76_42 (kWa hw (k := 1) (by decide)) rfl hj (by decide) ((uq35.off (by omega)).trans c1) ?_
    refine wp_iload_n (pc := 43) (i := 3) d_76_43 rfl rfl ?_
    refine wp_isubN (pc := 44) d_76_44 (alg_le s g a) ?_
    refine wp_aS (pc := 45) (j := j) d_76_45 (kWa hw (k := 1) (by decide)) rfl hj (by decide) (fun Iq45 uq45 => ?_)
    refine wp_iload_n (pc := 46) (i := 3) d_76_46 rfl rfl ?_
    exact wp_iret (pc := 47) d_76_47 (Or.inl rfl) ⟨_, rfl, (uq45.off (by omega)).trans uq35.at, uq45.at, (offC_up uq35 (by decide)).tr (offC_up uq45 (by decide))⟩
  · refine wp_icN (pc := 7) (m := 0) d_76_7 (by decide) ?_
    exact absurd (zq4.symm.trans hin) (by decide)
set_option maxRecDepth 4000 in
theorem c_putSoap {I : IT} {J : JT} {F : FT} {w j s g : Nat} (hF : Fok F) (hw : isW w) (hj : j < 6) (c1 : I (w + 1 + 1) j = nI s) : Sp 79 [vR w, vI (nI j), vI (nI g)] KK I J F (fun R => ∃ I2, R = (some (vI (nI (s + g))), KK, I2, J, F) ∧ Up I I2 (w + 1 + 1) j (nI (s + g))) := by
  have hin : inR (nI j) 6 = true := by rw [inR_nI (by omega)]; exact decide_eq_true hj
  refine Sp.mk2 (Nat.le_of_ble_eq_true rfl) (L2 := [_, _, _]) rfl ?_
  refine wp_iload_n (pc := 0) (i := 1) d_79_0 rfl rfl ?_
  refine wp_callS1p (pc := 1) d_79_1 lk_8_37 (by decide) rfl (Nat.le_of_ble_eq_true rfl) (c_isPlace (nI j)) ?_
  refine wp_ifB_ne (pc := 4) (tgt := 9) d_79_4 (by decide) (fun zq4 => ?_) (fun zq4 => ?_)
  · refine wp_aload_n (pc := 9) (i := 0) d_79_9 rfl rfl ?_
    refine wp_gA (pc := 10) d_79_10 fl_8_15 (kW hw) ft_7_1 (fW hF hw (k := 1) (by decide)) ?_
    refine wp_iload_n (pc := 13) (i := 1) d_79_13 rfl rfl ?_
    refine wp_dup2a (pc := 14) d_79_14 rfl rfl ?_
    refine wp_aL (pc := 15) (j := j) d_79_15 (kWa hw (k := 1) (by decide)) rfl hj (by decide) c1 ?_
    refine wp_iload_n (pc := 16) (i := 2) d_79_16 rfl rfl ?_
    refine wp_iaddN (pc := 17) d_79_17 ?_
    refine wp_aS (pc := 18) (j := j) d_79_18 (kWa hw (k := 1) (by decide)) rfl hj (by decide) (fun Iq18 uq18 => ?_)
    refine wp_aload_n (pc := 19) (i := 0) d_79_19 rfl rfl ?_
    refine wp_gA (pc := 20) d_79_20 fl_8_15 (kW hw) ft_7_1 (fW hF hw (k := 1) (by decide)) ?_
    refine wp_iload_n (pc := 23) (i := 1) d_79_23 rfl rfl ?_
    refine wp_aL (pc := 24) (j := j) d_79_24 (kWa hw (k := 1) (by decide)) rfl hj (by decide) uq18.at ?_
    exact wp_iret (pc := 25) d_79_25 (Or.inl rfl) ⟨_, rfl, uq18⟩
  · refine wp_icN (pc := 7) (m := 0) d_79_7 (by decide) ?_
    exact absurd (zq4.symm.trans hin) (by decide)
/-- what goes from a roof where a stands: gutter c, brim b, dammed or not -/
def gof (a c b : Nat) (dam : Bool) : Nat := (if dam then 0 else min c a) + (a - (if dam then 0 else min c a) - b)
theorem gof_le {a c b : Nat} {dam : Bool} : gof a c b dam ≤ a := by
  unfold gof
  cases dam
  · simp only [Bool.false_eq_true, if_false]
    omega
  · simp only [if_true]
    omega
theorem mm_c {a b c : Nat} (ha : a < 2 ^ 30) (hb : b < 2 ^ 30) (hc : c ≤ a) : (if (nI 0) < (nI a - nI c - nI b) then (nI a - nI c - nI b) else nI 0) = nI (a - c - b) := by
  rw [pk_sub hc]
  by_cases h : a - c < b
  · have h1 := pk_sneg (a := a - c) (b := b) hb h
    rw [if_neg (fun q => ?_), show a - c - b = 0 by omega]
    rw [Int32.lt_iff_toInt_lt] at h1 q
    have h0 : (0 : Int32).toInt = 0 := by decide
    have h0' : (nI 0).toInt = 0 := by decide
    omega
  · rw [pk_sub (by omega)]
    by_cases h2 : 0 < a - c - b
    · rw [if_pos ((nI_ltI (by decide) (by omega)).mpr h2)]
    · rw [if_neg (fun q => h2 ((nI_ltI (by decide) (by omega)).mp q)), show a - c - b = 0 by omega]
set_option maxRecDepth 4000 in
theorem c_goingFrom {I : IT} {J : JT} {F : FT} {a c b v : Nat} (ha : a < 2 ^ 30) (hc : c < 2 ^ 30) (hb : b < 2 ^ 30) (hv : v = min c a + (a - min c a - b)) : Sp 78 [vI (nI a), vI (nI c), vI (nI b)] KK I J F (fun R => R = (some (vI (nI v)), KK, I, J, F)) := by
  refine Sp.mk2 (Nat.le_of_ble_eq_true rfl) (L2 := [_, _, _, _, _]) rfl ?_
  refine wp_iload_n (pc := 0) (i := 1) d_78_0 rfl rfl ?_
  refine wp_iload_n (pc := 1) (i := 0) d_78_1 rfl rfl ?_
  refine wq_mminN (pc := 2) d_78_2 mm_8_70 (Nat.le_of_ble_eq_true rfl) (by omega) (by omega) ?_
  refine wq_istore_n (pc := 5) (L2 := [_, _, _, _, _]) (i := 3) d_78_5 rfl (Nat.le_of_ble_eq_true rfl) rfl rfl ?_
  refine wp_icN (pc := 6) (m := 0) d_78_6 (by decide) ?_
  refine wp_iload_n (pc := 7) (i := 0) d_78_7 rfl rfl ?_
  refine wp_iload_n (pc := 8) (i := 3) d_78_8 rfl rfl ?_
  refine wp_isub (pc := 9) d_78_9 ?_
  refine wp_iload_n (pc := 10) (i := 2) d_78_10 rfl rfl ?_
  refine wp_isub (pc := 11) d_78_11 ?_
  refine wp_mmax (pc := 12) d_78_12 mm_8_92 (Nat.le_of_ble_eq_true rfl) ?_
  rw [mm_c (a := a) (b := b) (c := min c a) ha hb (by omega)]
  refine wq_istore (pc := 15) (L2 := [_, _, _, _, _]) d_78_15 (Nat.le_of_ble_eq_true rfl) rfl rfl ?_
  refine wp_iload_n (pc := 17) (i := 3) d_78_17 rfl rfl ?_
  refine wp_iload (pc := 18) d_78_18 rfl ?_
  refine wp_iaddN (pc := 20) d_78_20 ?_
  exact wp_iret (pc := 21) d_78_21 (Or.inl rfl) (by rw [hv])
