/-- the first best set, by how many and by the fewest dams -/
def fdN (f : Nat → Nat) : Nat → Nat × Nat
  | 0 => (0, f 0)
  | i + 1 => if (fdN f i).2 < f (i + 1) ∨ (f (i + 1) = (fdN f i).2 ∧ pcn (i + 1) < pcn (fdN f i).1) then (i + 1, f (i + 1)) else fdN f i
theorem fdN_le (f : Nat → Nat) : ∀ i, (fdN f i).1 ≤ i
  | 0 => Nat.le_refl _
  | i + 1 => by
    unfold fdN
    have := fdN_le f i
    split
    · exact Nat.le_refl _
    · omega
theorem fdN_v (f : Nat → Nat) : ∀ i, (fdN f i).2 = f (fdN f i).1
  | 0 => rfl
  | i + 1 => by
    unfold fdN
    split
    · rfl
    · exact fdN_v f i
theorem p64 {n : Nat} (h : n ≤ 6) : 2 ^ n ≤ 64 := Nat.pow_le_pow_right (by decide) h
theorem neg1_lt {c : Nat} (h : c < 2 ^ 31) : (-1 : Int32) < nI c := by
  rw [Int32.lt_iff_toInt_lt, nI_toInt h]
  have : (-1 : Int32).toInt = -1 := by decide
  omega
set_option maxRecDepth 4000 in
theorem fewest_step {I0 : IT} {J : JT} {F : FT} {n rn q t : Nat} {ρ σ : SN} (hF : Fok F) (hρ : ∀ k j, ρ k j ≤ 9) (hrn : rn ≤ 9) (hok : okN t σ) (htq : t + q ≤ 1000) (hn6 : n ≤ 6) (h64 : 2 ^ n ≤ 64) (i : Nat) (hi0 : i ≤ 2 ^ n) (I : IT) (best : Nat) (bc : Int32) (x6 : Option VV) (x7 : Option VV) (hA : atW I 18 σ) (hR : atR I 12 ρ n) (hoff : offW 93 I0 I) (hst : (i = 0 ∧ best = 0 ∧ bc = (-1)) ∨ ∃ k, i = k + 1 ∧ best = (fdN (cntB ρ n rn σ q) k).1 ∧ bc = nI (fdN (cntB ρ n rn σ q) k).2) (hb : best < 64)
    (ih0 : ∀ i', i < 2 ^ n → i' = i + 1 → ∀ (I : IT) (best : Nat) (bc : Int32) (x6 : Option VV) (x7 : Option VV), (atW I 18 σ) → (atR I 12 ρ n) → (offW 93 I0 I) → ((i' = 0 ∧ best = 0 ∧ bc = (-1)) ∨ ∃ k, i' = k + 1 ∧ best = (fdN (cntB ρ n rn σ q) k).1 ∧ bc = nI (fdN (cntB ρ n rn σ q) k).2) → (best < 64) → Wp none 18 (fun R => ∃ I2, R = (some (vI (nI (fdN (cntB ρ n rn σ q) (2 ^ n - 1)).1)), KK, I2, J, F) ∧ offW 93 I0 I2) 8 [some (vR 92), some (vI (nI q)), some (vI (nI rn)), some (vI (nI best)), some (vI bc), some (vI (nI i')), x6, x7] [] KK I J F) : Wp none 18 (fun R => ∃ I2, R = (some (vI (nI (fdN (cntB ρ n rn σ q) (2 ^ n - 1)).1)), KK, I2, J, F) ∧ offW 93 I0 I2) 8 [some (vR 92), some (vI (nI q)), some (vI (nI rn)), some (vI (nI best)), some (vI bc), some (vI (nI i)), x6, x7] [] KK I J F := by
  refine wp_iload (pc := 8) d_18_8 rfl ?_
  refine wp_aload_n (pc := 10) (i := 0) d_18_10 rfl rfl ?_
  refine wp_callV0p (pc := 11) d_18_11 lk_3_75 (by decide) rfl (Nat.le_of_ble_eq_true rfl) rfl rfl (c_sets hF hR) ?_
  refine wp_icmpN_ge (pc := 14) (tgt := 78) d_18_14 (by decide) (by omega) (by omega) (fun zq14 => ?_) (fun zq14 => ?_)
  · refine wp_iload_n (pc := 78) (i := 3) d_18_78 rfl rfl ?_
    have hie : i = 2 ^ n := by omega
    rcases hst with ⟨g1, g2, g3⟩ | ⟨k, g1, g2, g3⟩
    · exact absurd (Nat.two_pow_pos n) (by omega)
    · exact wp_iret (pc := 79) d_18_79 (Or.inl rfl) ⟨_, by rw [g2, show k = 2 ^ n - 1 by omega], hoff⟩
  · have hlt : i < 2 ^ n := zq14
    refine wp_aload_n (pc := 17) (i := 0) d_18_17 rfl rfl ?_
    refine wp_iload_n (pc := 18) (i := 1) d_18_18 rfl rfl ?_
    refine wp_iload_n (pc := 19) (i := 2) d_18_19 rfl rfl ?_
    refine wp_iload (pc := 20) d_18_20 rfl ?_
    refine wp_callV3e (pc := 22) d_18_22 lk_3_78 (by decide) rfl (Nat.le_of_ble_eq_true rfl) rfl rfl (c_contentBehind hF hρ (dm := i) (by omega) hrn hok htq hA hR) (fun Iq22 hq22 => ?_)
    refine wq_istore (pc := 25) (L2 := [_, _, _, _, _, _, _, _]) d_18_25 (Nat.le_of_ble_eq_true rfl) rfl rfl ?_
    refine wp_iload (pc := 27) d_18_27 rfl ?_
    refine wp_callS1p (pc := 29) d_18_29 lk_3_70 (by decide) rfl (Nat.le_of_ble_eq_true rfl) (c_bitCount (x := i) (by omega)) ?_
    refine wp_iload_n (pc := 32) (i := 3) d_18_32 rfl rfl ?_
    refine wp_callS1p (pc := 33) d_18_33 lk_3_70 (by decide) rfl (Nat.le_of_ble_eq_true rfl) (c_bitCount (x := best) (by omega)) ?_
    refine wp_icmpN_ge (pc := 36) (tgt := 43) d_18_36 (by decide) (by have := pcn_le i (by omega); omega) (by have := pcn_le best (by omega); omega) (fun zq36 => ?_) (fun zq36 => ?_)
    · refine wp_icN (pc := 43) (m := 0) d_18_43 (by decide) ?_
      refine wq_istore (pc := 44) (L2 := [_, _, _, _, _, _, _, _]) d_18_44 (Nat.le_of_ble_eq_true rfl) rfl rfl ?_
      rcases hst with ⟨g1, g2, g3⟩ | ⟨k, g1, g2, g3⟩
      · subst g3
        have hcl : (cntB ρ n rn σ q) i ≤ 8 := cntB_le hn6
        refine wp_iload (pc := 46) d_18_46 rfl ?_
        refine wp_iload (pc := 48) d_18_48 rfl ?_
        refine wp_icmp_gt (pc := 50) (tgt := 65) d_18_50 (by decide) (fun zq50 => ?_) (fun zq50 => ?_)
        · refine wp_iload (pc := 65) d_18_65 rfl ?_
          refine wq_istore_n (pc := 67) (L2 := [_, _, _, _, _, _, _, _]) (i := 3) d_18_67 rfl (Nat.le_of_ble_eq_true rfl) rfl rfl ?_
          refine wp_iload (pc := 68) d_18_68 rfl ?_
          refine wq_istore (pc := 70) (L2 := [_, _, _, _, _, _, _, _]) d_18_70 (Nat.le_of_ble_eq_true rfl) rfl rfl ?_
          refine wq_iincN (pc := 72) (L2 := [_, _, _, _, _, _, _, _]) d_18_72 rfl (b := 1) (by decide) rfl rfl ?_
          refine wp_goto (pc := 75) (tgt := 8) d_18_75 (by decide) ?_
          exact ih0 (i + 1) hlt rfl _ _ _ _ _ (atW_off isW18 isW93 (by decide) hA hq22) (atR_off isR12 isW93 hR hq22) (hoff.tr hq22) (Or.inr ⟨i, rfl, by subst g1; rfl, by subst g1; rfl⟩) (by omega)
        · exact absurd (neg1_lt (by omega)) zq50
      · subst g3
        have hcl : (cntB ρ n rn σ q) i ≤ 8 := cntB_le hn6
        have hfl : (fdN (cntB ρ n rn σ q) k).2 ≤ 8 := by rw [fdN_v]; exact cntB_le hn6
        refine wp_iload (pc := 46) d_18_46 rfl ?_
        refine wp_iload (pc := 48) d_18_48 rfl ?_
        refine wp_icmpN_gt (pc := 50) (tgt := 65) d_18_50 (by decide) (by omega) (by omega) (fun zq50 => ?_) (fun zq50 => ?_)
        · refine wp_iload (pc := 65) d_18_65 rfl ?_
          refine wq_istore_n (pc := 67) (L2 := [_, _, _, _, _, _, _, _]) (i := 3) d_18_67 rfl (Nat.le_of_ble_eq_true rfl) rfl rfl ?_
          refine wp_iload (pc := 68) d_18_68 rfl ?_
          refine wq_istore (pc := 70) (L2 := [_, _, _, _, _, _, _, _]) d_18_70 (Nat.le_of_ble_eq_true rfl) rfl rfl ?_
          refine wq_iincN (pc := 72) (L2 := [_, _, _, _, _, _, _, _]) d_18_72 rfl (b := 1) (by decide) rfl rfl ?_
          refine wp_goto (pc := 75) (tgt := 8) d_18_75 (by decide) ?_
          have hfd : fdN (cntB ρ n rn σ q) i = (i, (cntB ρ n rn σ q) i) := by rw [g1]; exact if_pos (Or.inl (by rw [← g1]; exact zq50))
          exact ih0 (i + 1) hlt rfl _ _ _ _ _ (atW_off isW18 isW93 (by decide) hA hq22) (atR_off isR12 isW93 hR hq22) (hoff.tr hq22) (Or.inr ⟨i, rfl, by rw [hfd], by rw [hfd]⟩) (by omega)
        · refine wp_iload (pc := 53) d_18_53 rfl ?_
          refine wp_iload (pc := 55) d_18_55 rfl ?_
          refine wp_icmpN_ne (pc := 57) (tgt := 72) d_18_57 (by decide) (by omega) (by omega) (fun zq57 => ?_) (fun zq57 => ?_)
          · refine wq_iincN (pc := 72) (L2 := [_, _, _, _, _, _, _, _]) d_18_72 rfl (b := 1) (by decide) rfl rfl ?_
            refine wp_goto (pc := 75) (tgt := 8) d_18_75 (by decide) ?_
            have hfd : fdN (cntB ρ n rn σ q) i = fdN (cntB ρ n rn σ q) k := by rw [g1]; exact if_neg (fun h => h.elim (fun h9 => absurd h9 (by rw [← g1]; omega)) (fun h9 => zq57 (by rw [g1]; exact h9.1)))
            exact ih0 (i + 1) hlt rfl _ _ _ _ _ (atW_off isW18 isW93 (by decide) hA hq22) (atR_off isR12 isW93 hR hq22) (hoff.tr hq22) (Or.inr ⟨i, rfl, by rw [hfd]; exact g2, by rw [hfd]⟩) (by omega)
          · refine wp_iload (pc := 60) d_18_60 rfl ?_
            refine wp_ifN_eq (pc := 62) (tgt := 72) d_18_62 (by decide) (by decide) (fun zq62 => ?_) (fun zq62 => ?_)
            · refine wq_iincN (pc := 72) (L2 := [_, _, _, _, _, _, _, _]) d_18_72 rfl (b := 1) (by decide) rfl rfl ?_
              refine wp_goto (pc := 75) (tgt := 8) d_18_75 (by decide) ?_
              have hfd : fdN (cntB ρ n rn σ q) i = fdN (cntB ρ n rn σ q) k := by rw [g1]; exact if_neg (fun h => h.elim (fun h9 => absurd h9 (by rw [← g1]; omega)) (fun h9 => absurd h9.2 (by rw [← g1, ← g2]; omega)))
              exact ih0 (i + 1) hlt rfl _ _ _ _ _ (atW_off isW18 isW93 (by decide) hA hq22) (atR_off isR12 isW93 hR hq22) (hoff.tr hq22) (Or.inr ⟨i, rfl, by rw [hfd]; exact g2, by rw [hfd]⟩) (by omega)
            · exact absurd rfl zq62
    · refine wp_icN (pc := 39) (m := 1) d_18_39 (by decide) ?_
      refine wp_goto (pc := 40) (tgt := 44) d_18_40 (by decide) ?_
      refine wq_istore (pc := 44) (L2 := [_, _, _, _, _, _, _, _]) d_18_44 (Nat.le_of_ble_eq_true rfl) rfl rfl ?_
      rcases hst with ⟨g1, g2, g3⟩ | ⟨k, g1, g2, g3⟩
      · subst g3
        have hcl : (cntB ρ n rn σ q) i ≤ 8 := cntB_le hn6
        refine wp_iload (pc := 46) d_18_46 rfl ?_
        refine wp_iload (pc := 48) d_18_48 rfl ?_
        refine wp_icmp_gt (pc := 50) (tgt := 65) d_18_50 (by decide) (fun zq50 => ?_) (fun zq50 => ?_)
        · refine wp_iload (pc := 65) d_18_65 rfl ?_
          refine wq_istore_n (pc := 67) (L2 := [_, _, _, _, _, _, _, _]) (i := 3) d_18_67 rfl (Nat.le_of_ble_eq_true rfl) rfl rfl ?_
          refine wp_iload (pc := 68) d_18_68 rfl ?_
          refine wq_istore (pc := 70) (L2 := [_, _, _, _, _, _, _, _]) d_18_70 (Nat.le_of_ble_eq_true rfl) rfl rfl ?_
          refine wq_iincN (pc := 72) (L2 := [_, _, _, _, _, _, _, _]) d_18_72 rfl (b := 1) (by decide) rfl rfl ?_
          refine wp_goto (pc := 75) (tgt := 8) d_18_75 (by decide) ?_
          exact ih0 (i + 1) hlt rfl _ _ _ _ _ (atW_off isW18 isW93 (by decide) hA hq22) (atR_off isR12 isW93 hR hq22) (hoff.tr hq22) (Or.inr ⟨i, rfl, by subst g1; rfl, by subst g1; rfl⟩) (by omega)
        · exact absurd (neg1_lt (by omega)) zq50
      · subst g3
        have hcl : (cntB ρ n rn σ q) i ≤ 8 := cntB_le hn6
        have hfl : (fdN (cntB ρ n rn σ q) k).2 ≤ 8 := by rw [fdN_v]; exact cntB_le hn6
        refine wp_iload (pc := 46) d_18_46 rfl ?_
        refine wp_iload (pc := 48) d_18_48 rfl ?_
        refine wp_icmpN_gt (pc := 50) (tgt := 65) d_18_50 (by decide) (by omega) (by omega) (fun zq50 => ?_) (fun zq50 => ?_)
        · refine wp_iload (pc := 65) d_18_65 rfl ?_
          refine wq_istore_n (pc := 67) (L2 := [_, _, _, _, _, _, _, _]) (i := 3) d_18_67 rfl (Nat.le_of_ble_eq_true rfl) rfl rfl ?_
          refine wp_iload (pc := 68) d_18_68 rfl ?_
          refine wq_istore (pc := 70) (L2 := [_, _, _, _, _, _, _, _]) d_18_70 (Nat.le_of_ble_eq_true rfl) rfl rfl ?_
          refine wq_iincN (pc := 72) (L2 := [_, _, _, _, _, _, _, _]) d_18_72 rfl (b := 1) (by decide) rfl rfl ?_
          refine wp_goto (pc := 75) (tgt := 8) d_18_75 (by decide) ?_
          have hfd : fdN (cntB ρ n rn σ q) i = (i, (cntB ρ n rn σ q) i) := by rw [g1]; exact if_pos (Or.inl (by rw [← g1]; exact zq50))
          exact ih0 (i + 1) hlt rfl _ _ _ _ _ (atW_off isW18 isW93 (by decide) hA hq22) (atR_off isR12 isW93 hR hq22) (hoff.tr hq22) (Or.inr ⟨i, rfl, by rw [hfd], by rw [hfd]⟩) (by omega)
        · refine wp_iload (pc := 53) d_18_53 rfl ?_
          refine wp_iload (pc := 55) d_18_55 rfl ?_
          refine wp_icmpN_ne (pc := 57) (tgt := 72) d_18_57 (by decide) (by omega) (by omega) (fun zq57 => ?_) (fun zq57 => ?_)
          · refine wq_iincN (pc := 72) (L2 := [_, _, _, _, _, _, _, _]) d_18_72 rfl (b := 1) (by decide) rfl rfl ?_
            refine wp_goto (pc := 75) (tgt := 8) d_18_75 (by decide) ?_
            have hfd : fdN (cntB ρ n rn σ q) i = fdN (cntB ρ n rn σ q) k := by rw [g1]; exact if_neg (fun h => h.elim (fun h9 => absurd h9 (by rw [← g1]; omega)) (fun h9 => zq57 (by rw [g1]; exact h9.1)))
            exact ih0 (i + 1) hlt rfl _ _ _ _ _ (atW_off isW18 isW93 (by decide) hA hq22) (atR_off isR12 isW93 hR hq22) (hoff.tr hq22) (Or.inr ⟨i, rfl, by rw [hfd]; exact g2, by rw [hfd]⟩) (by omega)
          · refine wp_iload (pc := 60) d_18_60 rfl ?_
            refine wp_ifN_eq (pc := 62) (tgt := 72) d_18_62 (by decide) (by decide) (fun zq62 => ?_) (fun zq62 => ?_)
            · exact absurd zq62 (by decide)
            · refine wp_iload (pc := 65) d_18_65 rfl ?_
              refine wq_istore_n (pc := 67) (L2 := [_, _, _, _, _, _, _, _]) (i := 3) d_18_67 rfl (Nat.le_of_ble_eq_true rfl) rfl rfl ?_
              refine wp_iload (pc := 68) d_18_68 rfl ?_
              refine wq_istore (pc := 70) (L2 := [_, _, _, _, _, _, _, _]) d_18_70 (Nat.le_of_ble_eq_true rfl) rfl rfl ?_
              refine wq_iincN (pc := 72) (L2 := [_, _, _, _, _, _, _, _]) d_18_72 rfl (b := 1) (by decide) rfl rfl ?_
              refine wp_goto (pc := 75) (tgt := 8) d_18_75 (by decide) ?_
              have hfd : fdN (cntB ρ n rn σ q) i = (i, (cntB ρ n rn σ q) i) := by rw [g1]; exact if_pos (Or.inr ⟨by rw [← g1]; exact zq57, by rw [← g1, ← g2]; exact zq36⟩)
              exact ih0 (i + 1) hlt rfl _ _ _ _ _ (atW_off isW18 isW93 (by decide) hA hq22) (atR_off isR12 isW93 hR hq22) (hoff.tr hq22) (Or.inr ⟨i, rfl, by rw [hfd], by rw [hfd]⟩) (by omega)
theorem fewest_loop {I0 : IT} {J : JT} {F : FT} {n rn q t : Nat} {ρ σ : SN} (hF : Fok F) (hρ : ∀ k j, ρ k j ≤ 9) (hrn : rn ≤ 9) (hok : okN t σ) (htq : t + q ≤ 1000) (hn6 : n ≤ 6) (h64 : 2 ^ n ≤ 64) : ∀ (d i : Nat), i + d = 2 ^ n → ∀ (I : IT) (best : Nat) (bc : Int32) (x6 : Option VV) (x7 : Option VV), (atW I 18 σ) → (atR I 12 ρ n) → (offW 93 I0 I) → ((i = 0 ∧ best = 0 ∧ bc = (-1)) ∨ ∃ k, i = k + 1 ∧ best = (fdN (cntB ρ n rn σ q) k).1 ∧ bc = nI (fdN (cntB ρ n rn σ q) k).2) → (best < 64) → Wp none 18 (fun R => ∃ I2, R = (some (vI (nI (fdN (cntB ρ n rn σ q) (2 ^ n - 1)).1)), KK, I2, J, F) ∧ offW 93 I0 I2) 8 [some (vR 92), some (vI (nI q)), some (vI (nI rn)), some (vI (nI best)), some (vI bc), some (vI (nI i)), x6, x7] [] KK I J F := by
  intro d
  induction d with
  | zero =>
    intro i hid I best bc x6 x7 hA hR hoff hst hb
    exact fewest_step hF hρ hrn hok htq hn6 h64 i (by omega) I best bc x6 x7 hA hR hoff hst hb (fun i' hlt => absurd hlt (by omega))
  | succ d ih =>
    intro i hid I best bc x6 x7 hA hR hoff hst hb
    exact fewest_step hF hρ hrn hok htq hn6 h64 i (by omega) I best bc x6 x7 hA hR hoff hst hb (fun i' hlt he => ih i' (by omega))

set_option maxRecDepth 4000 in
theorem c_fewestDams {I0 : IT} {J : JT} {F : FT} {n rn q t : Nat} {ρ σ : SN} (hF : Fok F) (hρ : ∀ k j, ρ k j ≤ 9) (hrn : rn ≤ 9) (hok : okN t σ) (htq : t + q ≤ 1000) (hA : atW I0 18 σ) (hR : atR I0 12 ρ n) : Sp 18 [vR 92, vI (nI q), vI (nI rn)] KK I0 J F (fun R => ∃ I2, R = (some (vI (nI (fdN (cntB ρ n rn σ q) (2 ^ n - 1)).1)), KK, I2, J, F) ∧ offW 93 I0 I2) := by
  refine Sp.mk2 (Nat.le_of_ble_eq_true rfl) (L2 := [_, _, _, _, _, _, _, _]) rfl ?_
  refine wp_icN (pc := 0) (m := 0) d_18_0 (by decide) ?_
  refine wq_istore_n (pc := 1) (L2 := [_, _, _, _, _, _, _, _]) (i := 3) d_18_1 rfl (Nat.le_of_ble_eq_true rfl) rfl rfl ?_
  refine wp_iconst (pc := 2) (v := (-1)) d_18_2 (by decide) ?_
  refine wq_istore (pc := 3) (L2 := [_, _, _, _, _, _, _, _]) d_18_3 (Nat.le_of_ble_eq_true rfl) rfl rfl ?_
  refine wp_icN (pc := 5) (m := 0) d_18_5 (by decide) ?_
  refine wq_istore (pc := 6) (L2 := [_, _, _, _, _, _, _, _]) d_18_6 (Nat.le_of_ble_eq_true rfl) rfl rfl ?_
  exact fewest_loop hF hρ hrn hok htq hR.1 (p64 hR.1) (2 ^ n) 0 (by omega) I0 0 (-1) _ _ hA hR offW.rf (Or.inl ⟨rfl, rfl, rfl⟩) (by decide)
/-- each for itself, from the highest roof on: g d j is what j gets by the dams d -/
def eachN (g : Nat → Nat → Nat) : Nat → Nat
  | 0 => 0
  | i + 1 => if g (eachN g i) i < g (eachN g i + 2 ^ i) i then eachN g i + 2 ^ i else eachN g i
theorem eachN_s (g : Nat → Nat → Nat) (i : Nat) : eachN g (i + 1) = if g (eachN g i) i < g (eachN g i + 2 ^ i) i then eachN g i + 2 ^ i else eachN g i := rfl
theorem eachN_lt (g : Nat → Nat → Nat) : ∀ i, eachN g i < 2 ^ i
  | 0 => Nat.zero_lt_one
  | i + 1 => by
    have := eachN_lt g i
    have h2 : 2 ^ (i + 1) = 2 ^ i + 2 ^ i := by rw [Nat.pow_succ]; omega
    unfold eachN
    split <;> omega
/-- what roof j gets in q quarters by the dams d -/
def gotB (ρ : SN) (n rn : Nat) (σ : SN) (q d j : Nat) : Nat := behN ρ n d rn σ q 2 j
set_option maxRecDepth 4000 in
theorem eachl_step {I0 : IT} {J : JT} {F : FT} {n rn q t : Nat} {ρ σ : SN} (hF : Fok F) (hρ : ∀ k j, ρ k j ≤ 9) (hrn : rn ≤ 9) (hok : okN t σ) (htq : t + q ≤ 1000) (hn6 : n ≤ 6) (i : Nat) (hi0 : i ≤ n) (I : IT) (ch : Nat) (x5 : Option VV) (x6 : Option VV) (hA : atW I 18 σ) (hR : atR I 12 ρ n) (hoff : offW 93 I0 I) (hc : ch = eachN (gotB ρ n rn σ q) i)
    (ih0 : ∀ i', i < n → i' = i + 1 → ∀ (I : IT) (ch : Nat) (x5 : Option VV) (x6 : Option VV), (atW I 18 σ) → (atR I 12 ρ n) → (offW 93 I0 I) → (ch = eachN (gotB ρ n rn σ q) i') → Wp none 27 (fun R => ∃ I2, R = (some (vI (nI (eachN (gotB ρ n rn σ q) n))), KK, I2, J, F) ∧ offW 93 I0 I2) 5 [some (vR 92), some (vI (nI q)), some (vI (nI rn)), some (vI (nI ch)), some (vI (nI i')), x5, x6] [] KK I J F) : Wp none 27 (fun R => ∃ I2, R = (some (vI (nI (eachN (gotB ρ n rn σ q) n))), KK, I2, J, F) ∧ offW 93 I0 I2) 5 [some (vR 92), some (vI (nI q)), some (vI (nI rn)), some (vI (nI ch)), some (vI (nI i)), x5, x6] [] KK I J F := by
  refine wp_iload (pc := 5) d_27_5 rfl ?_
  refine wp_aload_n (pc := 7) (i := 0) d_27_7 rfl rfl ?_
  refine wp_gA (pc := 8) d_27_8 fl_3_34 rfl ft_2_0 (F_92_0 hF) ?_
  refine wp_callV0p (pc := 11) d_27_11 lk_3_49 (by decide) rfl (Nat.le_of_ble_eq_true rfl) (kR isR12) rfl (c_Rnumber isR12 hR) ?_
  refine wp_icmpN_ge (pc := 14) (tgt := 72) d_27_14 (by decide) (by omega) (by omega) (fun zq14 => ?_) (fun zq14 => ?_)
  · refine wp_iload_n (pc := 72) (i := 3) d_27_72 rfl rfl ?_
    exact wp_iret (pc := 73) d_27_73 (Or.inl rfl) ⟨_, by rw [hc, show i = n by omega], hoff⟩
  · have hlt : i < n := zq14
    have hi6 : i < 6 := by omega
    have hch : ch < 2 ^ i := by rw [hc]; exact eachN_lt _ _
    have h32 : 2 ^ i ≤ 32 := Nat.pow_le_pow_right (by decide) (show i ≤ 5 by omega)
    refine wp_aload_n (pc := 17) (i := 0) d_27_17 rfl rfl ?_
    refine wp_iload_n (pc := 18) (i := 1) d_27_18 rfl rfl ?_
    refine wp_iload_n (pc := 19) (i := 2) d_27_19 rfl rfl ?_
    refine wp_iload_n (pc := 20) (i := 3) d_27_20 rfl rfl ?_
    refine wp_callV3e (pc := 21) d_27_21 lk_3_62 (by decide) rfl (Nat.le_of_ble_eq_true rfl) rfl rfl (c_behind hF hρ (dm := ch) (by omega) hrn hok htq hA hR) (fun Iq21 hq21 => ?_)
    have hA21 := atW_off isW18 isW93 (by decide) hA hq21.2
    have hR21 := atR_off isR12 isW93 hR hq21.2
    refine wp_iload (pc := 24) d_27_24 rfl ?_
    refine wp_callV1p (pc := 26) d_27_26 lk_3_82 (by decide) rfl (Nat.le_of_ble_eq_true rfl) (kW isW93) rfl (c_gotBy hF isW93 hi6 (hq21.1.1 2 (by decide) i hi6)) ?_
    refine wq_istore (pc := 29) (L2 := [_, _, _, _, _, _, _]) d_27_29 (Nat.le_of_ble_eq_true rfl) rfl rfl ?_
    refine wp_aload_n (pc := 31) (i := 0) d_27_31 rfl rfl ?_
    refine wp_iload_n (pc := 32) (i := 1) d_27_32 rfl rfl ?_
    refine wp_iload_n (pc := 33) (i := 2) d_27_33 rfl rfl ?_
    refine wp_iload_n (pc := 34) (i := 3) d_27_34 rfl rfl ?_
    refine wp_iload (pc := 35) d_27_35 rfl ?_
    refine wp_callSN1p (pc := 37) d_27_37 lk_3_55 (by decide) rfl (Nat.le_of_ble_eq_true rfl) (c_bit (by omega)) ?_
    refine wp_ior (pc := 40) d_27_40 ?_
    rw [or_c i hi6 _ hch]
    refine wp_callV3e (pc := 41) d_27_41 lk_3_62 (by decide) rfl (Nat.le_of_ble_eq_true rfl) rfl rfl (c_behind hF hρ (dm := ch + 2 ^ i) (by omega) hrn hok htq hA21 hR21) (fun Iq41 hq41 => ?_)
    have hA41 := atW_off isW18 isW93 (by decide) hA21 hq41.2
    have hR41 := atR_off isR12 isW93 hR21 hq41.2
    refine wp_iload (pc := 44) d_27_44 rfl ?_
    refine wp_callV1p (pc := 46) d_27_46 lk_3_82 (by decide) rfl (Nat.le_of_ble_eq_true rfl) (kW isW93) rfl (c_gotBy hF isW93 hi6 (hq41.1.1 2 (by decide) i hi6)) ?_
    refine wq_istore (pc := 49) (L2 := [_, _, _, _, _, _, _]) d_27_49 (Nat.le_of_ble_eq_true rfl) rfl rfl ?_
    refine wp_iload (pc := 51) d_27_51 rfl ?_
    refine wp_iload (pc := 53) d_27_53 rfl ?_
    refine wp_icmpN_le (pc := 55) (tgt := 66) d_27_55 (by decide) ((beh_ok hn6 hrn hρ hok q).g htq i hi6) ((beh_ok hn6 hrn hρ hok q).g htq i hi6) (fun zq55 => ?_) (fun zq55 => ?_)
    · refine wq_iincN (pc := 66) (L2 := [_, _, _, _, _, _, _]) d_27_66 rfl (b := 1) (by decide) rfl rfl ?_
      refine wp_goto (pc := 69) (tgt := 5) d_27_69 (by decide) ?_
      exact ih0 (i + 1) hlt rfl _ _ _ _ hA41 hR41 ((hoff.tr hq21.2).tr hq41.2) (by rw [eachN_s, ← hc, if_neg (by unfold gotB; omega)])
    · refine wp_iload_n (pc := 58) (i := 3) d_27_58 rfl rfl ?_
      refine wp_iload (pc := 59) d_27_59 rfl ?_
      refine wp_callSN1p (pc := 61) d_27_61 lk_3_55 (by decide) rfl (Nat.le_of_ble_eq_true rfl) (c_bit (by omega)) ?_
      refine wp_ior (pc := 64) d_27_64 ?_
      rw [or_c i hi6 _ hch]
      refine wq_istore_n (pc := 65) (L2 := [_, _, _, _, _, _, _]) (i := 3) d_27_65 rfl (Nat.le_of_ble_eq_true rfl) rfl rfl ?_
      refine wq_iincN (pc := 66) (L2 := [_, _, _, _, _, _, _]) d_27_66 rfl (b := 1) (by decide) rfl rfl ?_
      refine wp_goto (pc := 69) (tgt := 5) d_27_69 (by decide) ?_
      exact ih0 (i + 1) hlt rfl _ _ _ _ hA41 hR41 ((hoff.tr hq21.2).tr hq41.2) (by rw [eachN_s, ← hc, if_pos (by unfold gotB; omega)])
theorem eachl_loop {I0 : IT} {J : JT} {F : FT} {n rn q t : Nat} {ρ σ : SN} (hF : Fok F) (hρ : ∀ k j, ρ k j ≤ 9) (hrn : rn ≤ 9) (hok : okN t σ) (htq : t + q ≤ 1000) (hn6 : n ≤ 6) : ∀ (d i : Nat), i + d = n → ∀ (I : IT) (ch : Nat) (x5 : Option VV) (x6 : Option VV), (atW I 18 σ) → (atR I 12 ρ n) → (offW 93 I0 I) → (ch = eachN (gotB ρ n rn σ q) i) → Wp none 27 (fun R => ∃ I2, R = (some (vI (nI (eachN (gotB ρ n rn σ q) n))), KK, I2, J, F) ∧ offW 93 I0 I2) 5 [some (vR 92), some (vI (nI q)), some (vI (nI rn)), some (vI (nI ch)), some (vI (nI i)), x5, x6] [] KK I J F := by
  intro d
  induction d with
  | zero =>
    intro i hid I ch x5 x6 hA hR hoff hc
    exact eachl_step hF hρ hrn hok htq hn6 i (by omega) I ch x5 x6 hA hR hoff hc (fun i' hlt => absurd hlt (by omega))
  | succ d ih =>
    intro i hid I ch x5 x6 hA hR hoff hc
    exact eachl_step hF hρ hrn hok htq hn6 i (by omega) I ch x5 x6 hA hR hoff hc (fun i' hlt he => ih i' (by omega))

set_option maxRecDepth 4000 in
theorem c_each {I0 : IT} {J : JT} {F : FT} {n rn q t : Nat} {ρ σ : SN} (hF : Fok F) (hρ : ∀ k j, ρ k j ≤ 9) (hrn : rn ≤ 9) (hok : okN t σ) (htq : t + q ≤ 1000) (hA : atW I0 18 σ) (hR : atR I0 12 ρ n) : Sp 27 [vR 92, vI (nI q), vI (nI rn)] KK I0 J F (fun R => ∃ I2, R = (some (vI (nI (eachN (gotB ρ n rn σ q) n))), KK, I2, J, F) ∧ offW 93 I0 I2) := by
  refine Sp.mk2 (Nat.le_of_ble_eq_true rfl) (L2 := [_, _, _, _, _, _, _]) rfl ?_
  refine wp_icN (pc := 0) (m := 0) d_27_0 (by decide) ?_
  refine wq_istore_n (pc := 1) (L2 := [_, _, _, _, _, _, _]) (i := 3) d_27_1 rfl (Nat.le_of_ble_eq_true rfl) rfl rfl ?_
  refine wp_icN (pc := 2) (m := 0) d_27_2 (by decide) ?_
  refine wq_istore (pc := 3) (L2 := [_, _, _, _, _, _, _]) d_27_3 (Nat.le_of_ble_eq_true rfl) rfl rfl ?_
  exact eachl_loop hF hρ hrn hok htq hR.1 n 0 (by omega) I0 0 _ _ hA hR offW.rf rfl
/-- for all below n -/
def allN (p : Nat → Bool) : Nat → Bool
  | 0 => true
  | n + 1 => allN p n && p n
theorem allN_f {p : Nat → Bool} : ∀ {n i : Nat}, i < n → p i = false → allN p n = false
  | 0, i, h, _ => absurd h (by omega)
  | n + 1, i, h, hp => by
    unfold allN
    by_cases e : i = n
    · subst e
      rw [hp, Bool.and_false]
    · rw [allN_f (p := p) (n := n) (i := i) (by omega) hp, Bool.false_and]
theorem allN_s (p : Nat → Bool) (n : Nat) : allN p (n + 1) = (allN p n && p n) := rfl
/-- gauges: rows 0 quarters, 1 rain, 2 more -/
def atG (I : IT) (γ : SN) (gn : Nat) : Prop := gn ≤ 6 ∧ I 151 3 = nI gn ∧ ∀ k, k < 3 → ∀ j, j < gn → I (151 + 1 + k) j = nI (γ k j)
def gOk (γ : SN) (gn : Nat) : Prop := ∀ j, j < gn → γ 0 j ≤ 6 ∧ γ 1 j ≤ 9 ∧ γ 2 j ≤ 999
theorem atG_off {I I2 : IT} {w gn : Nat} {γ : SN} (hw : w + 4 < 151) (h : atG I γ gn) (ho : offW w I I2) : atG I2 γ gn :=
  ⟨h.1, by rw [ho 151 (by omega)]; exact h.2.1, fun k hk j hj => by rw [ho (151 + 1 + k) (by omega)]; exact h.2.2 k hk j hj⟩
theorem beh_butt {ρ σ : SN} {n dm rn : Nat} : ∀ k, σ 4 4 ≤ behN ρ n dm rn σ k 4 4
  | 0 => Nat.le_refl _
  | k + 1 => by
    have := beh_butt (ρ := ρ) (σ := σ) (n := n) (dm := dm) (rn := rn) k
    show σ 4 4 ≤ passN ρ n dm rn (behN ρ n dm rn σ k) 4 4
    rw [pass44]
    omega
/-- does a set fit a gauge -/
def fitG (ρ : SN) (n : Nat) (σ γ : SN) (set g : Nat) : Bool := decide (behN ρ n set (γ 1 g) σ (γ 0 g) 4 4 - σ 4 4 = γ 2 g)
def fitN (ρ : SN) (n : Nat) (σ γ : SN) (gn set : Nat) : Bool := allN (fitG ρ n σ γ set) gn
set_option maxRecDepth 4000 in
theorem fitsAll_step {I0 : IT} {J : JT} {F : FT} {n t gn set : Nat} {ρ σ γ : SN} (hF : Fok F) (hρ : ∀ k j, ρ k j ≤ 9) (hset : set < 64) (hok : okN t σ) (htq : t + 6 ≤ 1000) (hn6 : n ≤ 6) (hg6 : gn ≤ 6) (hgo : gOk γ gn) (i : Nat) (hi0 : i ≤ gn) (I : IT) (x4 : Option VV) (hA : atW I 18 σ) (hR : atR I 12 ρ n) (hG : atG I γ gn) (hoff : offW 93 I0 I) (hall : allN (fitG ρ n σ γ set) i = true)
    (ih0 : ∀ i', i < gn → i' = i + 1 → ∀ (I : IT) (x4 : Option VV), (atW I 18 σ) → (atR I 12 ρ n) → (atG I γ gn) → (offW 93 I0 I) → (allN (fitG ρ n σ γ set) i' = true) → Wp none 12 (fun R => ∃ I2, R = (some (vI (b2 (fitN ρ n σ γ gn set))), KK, I2, J, F) ∧ offW 93 I0 I2) 2 [some (vR 151), some (vR 92), some (vI (nI set)), some (vI (nI i')), x4] [] KK I J F) : Wp none 12 (fun R => ∃ I2, R = (some (vI (b2 (fitN ρ n σ γ gn set))), KK, I2, J, F) ∧ offW 93 I0 I2) 2 [some (vR 151), some (vR 92), some (vI (nI set)), some (vI (nI i)), x4] [] KK I J F := by
  refine wp_iload_n (pc := 2) (i := 3) d_12_2 rfl rfl ?_
  refine wp_aload_n (pc := 3) (i := 0) d_12_3 rfl rfl ?_
  refine wp_gI (pc := 4) d_12_4 fl_2_21 rfl ft_1_3 hG.2.1 ?_
  refine wp_icmpN_ge (pc := 7) (tgt := 62) d_12_7 (by decide) (by omega) (by omega) (fun zq7 => ?_) (fun zq7 => ?_)
  · refine wp_icN (pc := 62) (m := 1) d_12_62 (by decide) ?_
    exact wp_iret (pc := 63) d_12_63 (Or.inr ⟨rfl, by decide⟩) ⟨_, by unfold fitN; rw [← show i = gn by omega, hall]; rfl, hoff⟩
  · refine wp_iload_n (pc := 10) (i := 3) d_12_10 rfl rfl ?_
    refine wp_bpN (pc := 11) (m := 6) d_12_11 (by decide) ?_
    refine wp_icmpN_ge (pc := 13) (tgt := 62) d_12_13 (by decide) (by omega) (by decide) (fun zq13 => ?_) (fun zq13 => ?_)
    · refine wp_icN (pc := 62) (m := 1) d_12_62 (by decide) ?_
      exact absurd zq13 (by omega)
    · have hgi := hgo i zq7
      have hg1 := hgi.2.1
      refine wp_aload_n (pc := 16) (i := 1) d_12_16 rfl rfl ?_
      refine wp_aload_n (pc := 17) (i := 0) d_12_17 rfl rfl ?_
      refine wp_gA (pc := 18) d_12_18 fl_2_9 rfl ft_1_0 (F_151_0 hF) ?_
      refine wp_iload_n (pc := 21) (i := 3) d_12_21 rfl rfl ?_
      refine wp_aL (pc := 22) (j := i) d_12_22 rfl rfl zq13 (by decide) (hG.2.2 0 (by decide) i zq7) ?_
      refine wp_aload_n (pc := 23) (i := 0) d_12_23 rfl rfl ?_
      refine wp_gA (pc := 24) d_12_24 fl_2_15 rfl ft_1_1 (F_151_1 hF) ?_
      refine wp_iload_n (pc := 27) (i := 3) d_12_27 rfl rfl ?_
      refine wp_aL (pc := 28) (j := i) d_12_28 rfl rfl zq13 (by decide) (hG.2.2 1 (by decide) i zq7) ?_
      refine wp_iload_n (pc := 29) (i := 2) d_12_29 rfl rfl ?_
      refine wp_callV3e (pc := 30) d_12_30 lk_2_44 (by decide) rfl (Nat.le_of_ble_eq_true rfl) rfl rfl (c_behind hF hρ hset hg1 hok (by omega) hA hR) (fun Iq30 hq30 => ?_)
      have hA30 := atW_off isW18 isW93 (by decide) hA hq30.2
      have hG30 := atG_off (by decide) hG hq30.2
      refine wp_callV0p (pc := 33) d_12_33 lk_2_48 (by decide) rfl (Nat.le_of_ble_eq_true rfl) (kW isW93) rfl (c_waterInButt isW93 (hq30.1.2 4 (by decide) (by decide))) ?_
      refine wq_istore (pc := 36) (L2 := [_, _, _, _, _]) d_12_36 (Nat.le_of_ble_eq_true rfl) rfl rfl ?_
      refine wp_iload (pc := 38) d_12_38 rfl ?_
      refine wp_aload_n (pc := 40) (i := 1) d_12_40 rfl rfl ?_
      refine wp_callV0p (pc := 41) d_12_41 lk_2_53 (by decide) rfl (Nat.le_of_ble_eq_true rfl) rfl rfl (c_wibNow hF hA30) ?_
      refine wp_isubN (pc := 44) d_12_44 (beh_butt _) ?_
      refine wp_aload_n (pc := 45) (i := 0) d_12_45 rfl rfl ?_
      refine wp_gA (pc := 46) d_12_46 fl_2_18 rfl ft_1_2 (F_151_2 hF) ?_
      refine wp_iload_n (pc := 49) (i := 3) d_12_49 rfl rfl ?_
      refine wp_aL (pc := 50) (j := i) d_12_50 rfl rfl zq13 (by decide) (hG30.2.2 2 (by decide) i zq7) ?_
      refine wp_icmpN_eq (pc := 51) (tgt := 56) d_12_51 (by decide) (by have := (beh_ok hn6 hg1 hρ hok (γ 0 i) (dm := set)).1; omega) (by omega) (fun zq51 => ?_) (fun zq51 => ?_)
      · refine wq_iincN (pc := 56) (L2 := [_, _, _, _, _]) d_12_56 rfl (b := 1) (by decide) rfl rfl ?_
        refine wp_goto (pc := 59) (tgt := 2) d_12_59 (by decide) ?_
        exact ih0 (i + 1) zq7 rfl _ _ (atW_off isW18 isW93 (by decide) hA hq30.2) (atR_off isR12 isW93 hR hq30.2) hG30 (hoff.tr hq30.2) (by rw [allN_s, hall, show fitG ρ n σ γ set i = true from decide_eq_true zq51]; rfl)
      · refine wp_icN (pc := 54) (m := 0) d_12_54 (by decide) ?_
        exact wp_iret (pc := 55) d_12_55 (Or.inr ⟨rfl, by decide⟩) ⟨_, by unfold fitN; rw [allN_f zq7 (show fitG ρ n σ γ set i = false from decide_eq_false zq51)]; rfl, hoff.tr hq30.2⟩
theorem fitsAll_loop {I0 : IT} {J : JT} {F : FT} {n t gn set : Nat} {ρ σ γ : SN} (hF : Fok F) (hρ : ∀ k j, ρ k j ≤ 9) (hset : set < 64) (hok : okN t σ) (htq : t + 6 ≤ 1000) (hn6 : n ≤ 6) (hg6 : gn ≤ 6) (hgo : gOk γ gn) : ∀ (d i : Nat), i + d = gn → ∀ (I : IT) (x4 : Option VV), (atW I 18 σ) → (atR I 12 ρ n) → (atG I γ gn) → (offW 93 I0 I) → (allN (fitG ρ n σ γ set) i = true) → Wp none 12 (fun R => ∃ I2, R = (some (vI (b2 (fitN ρ n σ γ gn set))), KK, I2, J, F) ∧ offW 93 I0 I2) 2 [some (vR 151), some (vR 92), some (vI (nI set)), some (vI (nI i)), x4] [] KK I J F := by
  intro d
  induction d with
  | zero =>
    intro i hid I x4 hA hR hG hoff hall
    exact fitsAll_step hF hρ hset hok htq hn6 hg6 hgo i (by omega) I x4 hA hR hG hoff hall (fun i' hlt => absurd hlt (by omega))
  | succ d ih =>
    intro i hid I x4 hA hR hG hoff hall
    exact fitsAll_step hF hρ hset hok htq hn6 hg6 hgo i (by omega) I x4 hA hR hG hoff hall (fun i' hlt he => ih i' (by omega))

set_option maxRecDepth 4000 in
theorem c_fitsAll {I0 : IT} {J : JT} {F : FT} {n t gn set : Nat} {ρ σ γ : SN} (hF : Fok F) (hρ : ∀ k j, ρ k j ≤ 9) (hset : set < 64) (hok : okN t σ) (htq : t + 6 ≤ 1000) (hgo : gOk γ gn) (hA : atW I0 18 σ) (hR : atR I0 12 ρ n) (hG : atG I0 γ gn) : Sp 12 [vR 151, vR 92, vI (nI set)] KK I0 J F (fun R => ∃ I2, R = (some (vI (b2 (fitN ρ n σ γ gn set))), KK, I2, J, F) ∧ offW 93 I0 I2) := by
  refine Sp.mk2 (Nat.le_of_ble_eq_true rfl) (L2 := [_, _, _, _, _]) rfl ?_
  refine wp_icN (pc := 0) (m := 0) d_12_0 (by decide) ?_
  refine wq_istore_n (pc := 1) (L2 := [_, _, _, _, _]) (i := 3) d_12_1 rfl (Nat.le_of_ble_eq_true rfl) rfl rfl ?_
  exact fitsAll_loop hF hρ hset hok htq hR.1 hG.1 hgo gn 0 (by omega) I0 _ hA hR hG offW.rf rfl
def ctN (p : Nat → Bool) : Nat → Nat
  | 0 => 0
  | n + 1 => ctN p n + if p n then 1 else 0
/-- those that are in all, in some of the sets -/
def anN (p : Nat → Bool) (a : Nat) : Nat → Nat
  | 0 => a
  | n + 1 => if p n then anN p a n &&& n else anN p a n
def orN (p : Nat → Bool) : Nat → Nat
  | 0 => 0
  | n + 1 => if p n then orN p n ||| n else orN p n
theorem ctN_le (p : Nat → Bool) : ∀ n, ctN p n ≤ n
  | 0 => Nat.le_refl _
  | n + 1 => by
    have := ctN_le p n
    unfold ctN
    split <;> omega
theorem and64 : ∀ a, a < 64 → ∀ b, b < 64 → nI a &&& nI b = nI (a &&& b) ∧ a &&& b < 64 := by decide +kernel
theorem or64 : ∀ a, a < 64 → ∀ b, b < 64 → nI a ||| nI b = nI (a ||| b) ∧ a ||| b < 64 := by decide +kernel
theorem anN_lt {p : Nat → Bool} {a : Nat} (ha : a < 64) : ∀ n, n ≤ 64 → anN p a n < 64
  | 0, _ => ha
  | n + 1, h => by
    have ih := anN_lt (p := p) ha n (by omega)
    unfold anN
    split
    · exact (and64 _ ih n (by omega)).2
    · exact ih
theorem orN_lt {p : Nat → Bool} : ∀ n, n ≤ 64 → orN p n < 64
  | 0, _ => (by decide : 0 < 64)
  | n + 1, h => by
    have ih := orN_lt (p := p) n (by omega)
    unfold orN
    split
    · exact (or64 _ ih n (by omega)).2
    · exact ih
theorem offW.G {I I2 : IT} (h : offW 93 I I2) (q : Nat) : I2 151 q = I 151 q := by rw [h 151 (by omega)]
set_option maxRecDepth 4000 in
theorem seek_step {I0 : IT} {J : JT} {F : FT} {n t gn : Nat} {ρ σ γ : SN} (hF : Fok F) (hρ : ∀ k j, ρ k j ≤ 9) (hok : okN t σ) (htq : t + 6 ≤ 1000) (hn6 : n ≤ 6) (h64 : 2 ^ n ≤ 64) (hgo : gOk γ gn) (i : Nat) (hi0 : i ≤ 2 ^ n) (I : IT) (hA : atW I 18 σ) (hR : atR I 12 ρ n) (hG : atG I γ gn) (h4 : I 151 4 = nI (ctN (fitN ρ n σ γ gn) i)) (h5 : I 151 5 = nI (anN (fitN ρ n σ γ gn) (2 ^ n - 1) i)) (h6 : I 151 6 = nI (orN (fitN ρ n σ γ gn) i)) (hoff : ∀ a, (a < 93 ∨ 97 < a) → a ≠ 151 → I a = I0 a)
    (ih0 : ∀ i', i < 2 ^ n → i' = i + 1 → ∀ (I : IT), (atW I 18 σ) → (atR I 12 ρ n) → (atG I γ gn) → (I 151 4 = nI (ctN (fitN ρ n σ γ gn) i')) → (I 151 5 = nI (anN (fitN ρ n σ γ gn) (2 ^ n - 1) i')) → (I 151 6 = nI (orN (fitN ρ n σ γ gn) i')) → (∀ a, (a < 93 ∨ 97 < a) → a ≠ 151 → I a = I0 a) → Wp none 11 (fun R => ∃ I2, R = (none, KK, I2, J, F) ∧ I2 151 3 = nI gn ∧ I2 151 4 = nI (ctN (fitN ρ n σ γ gn) (2 ^ n)) ∧ I2 151 5 = nI (anN (fitN ρ n σ γ gn) (2 ^ n - 1) (2 ^ n)) ∧ I2 151 6 = nI (orN (fitN ρ n σ γ gn) (2 ^ n)) ∧ ∀ a, (a < 93 ∨ 97 < a) → a ≠ 151 → I2 a = I0 a) 22 [some (vR 151), some (vR 92), some (vI (nI i'))] [] KK I J F) : Wp none 11 (fun R => ∃ I2, R = (none, KK, I2, J, F) ∧ I2 151 3 = nI gn ∧ I2 151 4 = nI (ctN (fitN ρ n σ γ gn) (2 ^ n)) ∧ I2 151 5 = nI (anN (fitN ρ n σ γ gn) (2 ^ n - 1) (2 ^ n)) ∧ I2 151 6 = nI (orN (fitN ρ n σ γ gn) (2 ^ n)) ∧ ∀ a, (a < 93 ∨ 97 < a) → a ≠ 151 → I2 a = I0 a) 22 [some (vR 151), some (vR 92), some (vI (nI i))] [] KK I J F := by
  refine wp_iload_n (pc := 22) (i := 2) d_11_22 rfl rfl ?_
  refine wp_aload_n (pc := 23) (i := 1) d_11_23 rfl rfl ?_
  refine wp_callV0p (pc := 24) d_11_24 lk_2_34 (by decide) rfl (Nat.le_of_ble_eq_true rfl) rfl rfl (c_sets hF hR) ?_
  refine wp_icmpN_ge (pc := 27) (tgt := 75) d_11_27 (by decide) (by omega) (by omega) (fun zq27 => ?_) (fun zq27 => ?_)
  · exact wp_vret (pc := 75) d_11_75 rfl ⟨_, rfl, hG.2.1, (by rw [h4, show i = 2 ^ n by omega]), (by rw [h5, show i = 2 ^ n by omega]), (by rw [h6, show i = 2 ^ n by omega]), hoff⟩
  · have hlt : i < 2 ^ n := zq27
    refine wp_aload_n (pc := 30) (i := 0) d_11_30 rfl rfl ?_
    refine wp_aload_n (pc := 31) (i := 1) d_11_31 rfl rfl ?_
    refine wp_iload_n (pc := 32) (i := 2) d_11_32 rfl rfl ?_
    refine wp_callV2e (pc := 33) d_11_33 lk_2_40 (by decide) rfl (Nat.le_of_ble_eq_true rfl) rfl rfl (c_fitsAll hF hρ (set := i) (by omega) hok htq hgo hA hR hG) (fun Iq33 hq33 => ?_)
    refine wp_ifB_eq (pc := 36) (tgt := 69) d_11_36 (by decide) (fun zq36 => ?_) (fun zq36 => ?_)
    · refine wq_iincN (pc := 69) (L2 := [_, _, _]) d_11_69 rfl (b := 1) (by decide) rfl rfl ?_
      refine wp_goto (pc := 72) (tgt := 22) d_11_72 (by decide) ?_
      exact ih0 (i + 1) hlt rfl _ (atW_off isW18 isW93 (by decide) hA hq33) (atR_off isR12 isW93 hR hq33) (atG_off (by decide) hG hq33) (by rw [hq33 151 (by omega), h4]; show _ = nI (ctN (fitN ρ n σ γ gn) i + if (fitN ρ n σ γ gn) i then 1 else 0); rw [zq36]; rfl) (by rw [hq33 151 (by omega), h5]; show _ = nI (if (fitN ρ n σ γ gn) i then _ else _); rw [zq36]; rfl) (by rw [hq33 151 (by omega), h6]; show _ = nI (if (fitN ρ n σ γ gn) i then _ else _); rw [zq36]; rfl) (fun a h1 h2 => (hq33 a (by omega)).trans (hoff a h1 h2))
    · refine wp_aload_n (pc := 39) (i := 0) d_11_39 rfl rfl ?_
      refine wp_dup (pc := 40) d_11_40 rfl ?_
      refine wp_gI (pc := 41) d_11_41 fl_2_25 rfl ft_1_4 ((hq33.G 4).trans h4) ?_
      refine wp_icN (pc := 44) (m := 1) d_11_44 (by decide) ?_
      refine wp_iaddN (pc := 45) d_11_45 ?_
      refine wp_pI (pc := 46) d_11_46 fl_2_25 rfl ft_1_4 rfl (fun Iq46 uq46 => ?_)
      refine wp_aload_n (pc := 49) (i := 0) d_11_49 rfl rfl ?_
      refine wp_dup (pc := 50) d_11_50 rfl ?_
      refine wp_gI (pc := 51) d_11_51 fl_2_28 rfl ft_1_5 ((uq46.ne (by decide)).trans ((hq33.G 5).trans h5)) ?_
      refine wp_iload_n (pc := 54) (i := 2) d_11_54 rfl rfl ?_
      refine wp_iand (pc := 55) d_11_55 ?_
      rw [(and64 _ (anN_lt (by omega) i (by omega)) i (by omega)).1]
      refine wp_pI (pc := 56) d_11_56 fl_2_28 rfl ft_1_5 rfl (fun Iq56 uq56 => ?_)
      refine wp_aload_n (pc := 59) (i := 0) d_11_59 rfl rfl ?_
      refine wp_dup (pc := 60) d_11_60 rfl ?_
      refine wp_gI (pc := 61) d_11_61 fl_2_31 rfl ft_1_6 ((uq56.ne (by decide)).trans ((uq46.ne (by decide)).trans ((hq33.G 6).trans h6))) ?_
      refine wp_iload_n (pc := 64) (i := 2) d_11_64 rfl rfl ?_
      refine wp_ior (pc := 65) d_11_65 ?_
      rw [(or64 _ (orN_lt i (by omega)) i (by omega)).1]
      refine wp_pI (pc := 66) d_11_66 fl_2_31 rfl ft_1_6 rfl (fun Iq66 uq66 => ?_)
      refine wq_iincN (pc := 69) (L2 := [_, _, _]) d_11_69 rfl (b := 1) (by decide) rfl rfl ?_
      refine wp_goto (pc := 72) (tgt := 22) d_11_72 (by decide) ?_
      refine ih0 (i + 1) hlt rfl _ ?_ ?_ ?_ ?_ ?_ ?_ (fun a h1 h2 => by rw [uq66.2 a h2, uq56.2 a h2, uq46.2 a h2, hq33 a (by omega)]; exact hoff a h1 h2)
      · have hA3 := atW_off isW18 isW93 (by decide) hA hq33
        exact ⟨fun k hk j hj => by rw [uq66.off (by omega), uq56.off (by omega), uq46.off (by omega)]; exact hA3.1 k hk j hj, fun q g1 g2 => by rw [uq66.off (by decide), uq56.off (by decide), uq46.off (by decide)]; exact hA3.2 q g1 g2⟩
      · exact atR_keep (atR_off isR12 isW93 hR hq33) (fun a g1 g2 => by rw [uq66.2 a (by omega), uq56.2 a (by omega), uq46.2 a (by omega)])
      · have hG3 := atG_off (by decide) hG hq33
        exact ⟨hG3.1, by rw [uq66.ne (by decide), uq56.ne (by decide), uq46.ne (by decide)]; exact hG3.2.1, fun k hk j hj => by rw [uq66.off (by omega), uq56.off (by omega), uq46.off (by omega)]; exact hG3.2.2 k hk j hj⟩
      · rw [uq66.ne (by decide), uq56.ne (by decide), uq46.at]; show _ = nI (ctN (fitN ρ n σ γ gn) i + if (fitN ρ n σ γ gn) i then 1 else 0); rw [zq36]; rfl
      · rw [uq66.ne (by decide), uq56.at]; show _ = nI (if (fitN ρ n σ γ gn) i then _ else _); rw [zq36]; rfl
      · rw [uq66.at]; show _ = nI (if (fitN ρ n σ γ gn) i then _ else _); rw [zq36]; rfl
theorem seek_loop {I0 : IT} {J : JT} {F : FT} {n t gn : Nat} {ρ σ γ : SN} (hF : Fok F) (hρ : ∀ k j, ρ k j ≤ 9) (hok : okN t σ) (htq : t + 6 ≤ 1000) (hn6 : n ≤ 6) (h64 : 2 ^ n ≤ 64) (hgo : gOk γ gn) : ∀ (d i : Nat), i + d = 2 ^ n → ∀ (I : IT), (atW I 18 σ) → (atR I 12 ρ n) → (atG I γ gn) → (I 151 4 = nI (ctN (fitN ρ n σ γ gn) i)) → (I 151 5 = nI (anN (fitN ρ n σ γ gn) (2 ^ n - 1) i)) → (I 151 6 = nI (orN (fitN ρ n σ γ gn) i)) → (∀ a, (a < 93 ∨ 97 < a) → a ≠ 151 → I a = I0 a) → Wp none 11 (fun R => ∃ I2, R = (none, KK, I2, J, F) ∧ I2 151 3 = nI gn ∧ I2 151 4 = nI (ctN (fitN ρ n σ γ gn) (2 ^ n)) ∧ I2 151 5 = nI (anN (fitN ρ n σ γ gn) (2 ^ n - 1) (2 ^ n)) ∧ I2 151 6 = nI (orN (fitN ρ n σ γ gn) (2 ^ n)) ∧ ∀ a, (a < 93 ∨ 97 < a) → a ≠ 151 → I2 a = I0 a) 22 [some (vR 151), some (vR 92), some (vI (nI i))] [] KK I J F := by
  intro d
  induction d with
  | zero =>
    intro i hid I hA hR hG h4 h5 h6 hoff
    exact seek_step hF hρ hok htq hn6 h64 hgo i (by omega) I hA hR hG h4 h5 h6 hoff (fun i' hlt => absurd hlt (by omega))
  | succ d ih =>
    intro i hid I hA hR hG h4 h5 h6 hoff
    exact seek_step hF hρ hok htq hn6 h64 hgo i (by omega) I hA hR hG h4 h5 h6 hoff (fun i' hlt he => ih i' (by omega))

set_option maxRecDepth 4000 in
theorem c_seek {I0 : IT} {J : JT} {F : FT} {n t gn : Nat} {ρ σ γ : SN} (hF : Fok F) (hρ : ∀ k j, ρ k j ≤ 9) (hok : okN t σ) (htq : t + 6 ≤ 1000) (hgo : gOk γ gn) (hA : atW I0 18 σ) (hR : atR I0 12 ρ n) (hG : atG I0 γ gn) : Sp 11 [vR 151, vR 92] KK I0 J F (fun R => ∃ I2, R = (none, KK, I2, J, F) ∧ I2 151 3 = nI gn ∧ I2 151 4 = nI (ctN (fitN ρ n σ γ gn) (2 ^ n)) ∧ I2 151 5 = nI (anN (fitN ρ n σ γ gn) (2 ^ n - 1) (2 ^ n)) ∧ I2 151 6 = nI (orN (fitN ρ n σ γ gn) (2 ^ n)) ∧ ∀ a, (a < 93 ∨ 97 < a) → a ≠ 151 → I2 a = I0 a) := by
  refine Sp.mk2 (Nat.le_of_ble_eq_true rfl) (L2 := [_, _, _]) rfl ?_
  refine wp_aload_n (pc := 0) (i := 0) d_11_0 rfl rfl ?_
  refine wp_icN (pc := 1) (m := 0) d_11_1 (by decide) ?_
  refine wp_pI (pc := 2) d_11_2 fl_2_25 rfl ft_1_4 rfl (fun Iq2 uq2 => ?_)
  refine wp_aload_n (pc := 5) (i := 0) d_11_5 rfl rfl ?_
  refine wp_aload_n (pc := 6) (i := 1) d_11_6 rfl rfl ?_
  refine wp_callV0p (pc := 7) d_11_7 lk_2_34 (by decide) rfl (Nat.le_of_ble_eq_true rfl) rfl rfl (c_sets hF (atR_keep hR (fun a g1 g2 => uq2.2 a (by omega)))) ?_
  refine wp_icN (pc := 10) (m := 1) d_11_10 (by decide) ?_
  refine wp_isubN (pc := 11) d_11_11 (Nat.one_le_two_pow) ?_
  refine wp_pI (pc := 12) d_11_12 fl_2_28 rfl ft_1_5 rfl (fun Iq12 uq12 => ?_)
  refine wp_aload_n (pc := 15) (i := 0) d_11_15 rfl rfl ?_
  refine wp_icN (pc := 16) (m := 0) d_11_16 (by decide) ?_
  refine wp_pI (pc := 17) d_11_17 fl_2_31 rfl ft_1_6 rfl (fun Iq17 uq17 => ?_)
  refine wp_icN (pc := 20) (m := 0) d_11_20 (by decide) ?_
  refine wq_istore_n (pc := 21) (L2 := [_, _, _]) (i := 2) d_11_21 rfl (Nat.le_of_ble_eq_true rfl) rfl rfl ?_
  refine seek_loop hF hρ hok htq hR.1 (p64 hR.1) hgo (2 ^ n) 0 (by omega) _ ?_ ?_ ?_ ?_ ?_ ?_ (fun a h1 h2 => by rw [uq17.2 a h2, uq12.2 a h2, uq2.2 a h2])
  · exact ⟨fun k hk j hj => by rw [uq17.off (by omega), uq12.off (by omega), uq2.off (by omega)]; exact hA.1 k hk j hj, fun q g1 g2 => by rw [uq17.off (by decide), uq12.off (by decide), uq2.off (by decide)]; exact hA.2 q g1 g2⟩
  · exact atR_keep hR (fun a g1 g2 => by rw [uq17.2 a (by omega), uq12.2 a (by omega), uq2.2 a (by omega)])
  · exact ⟨hG.1, by rw [uq17.ne (by decide), uq12.ne (by decide), uq2.ne (by decide)]; exact hG.2.1, fun k hk j hj => by rw [uq17.off (by omega), uq12.off (by omega), uq2.off (by omega)]; exact hG.2.2 k hk j hj⟩
  · rw [uq17.ne (by decide), uq12.ne (by decide)]; exact uq2.at
  · rw [uq17.ne (by decide)]; exact uq12.at
  · exact uq17.at
set_option maxRecDepth 4000 in
theorem c_Gnumber {I : IT} {J : JT} {F : FT} {v : Nat} (hv : I 151 3 = nI v) : Sp 9 [vR 151] KK I J F (fun R => R = (some (vI (nI v)), KK, I, J, F)) := by
  refine Sp.mk2 (Nat.le_of_ble_eq_true rfl) (L2 := [_]) rfl ?_
  refine wp_aload_n (pc := 0) (i := 0) d_9_0 rfl rfl ?_
  refine wp_gI (pc := 1) d_9_1 fl_2_21 rfl ft_1_3 hv ?_
  exact wp_iret (pc := 4) d_9_4 (Or.inl rfl) rfl
set_option maxRecDepth 4000 in
theorem c_Gfitting {I : IT} {J : JT} {F : FT} {v : Nat} (hv : I 151 4 = nI v) : Sp 13 [vR 151] KK I J F (fun R => R = (some (vI (nI v)), KK, I, J, F)) := by
  refine Sp.mk2 (Nat.le_of_ble_eq_true rfl) (L2 := [_]) rfl ?_
  refine wp_aload_n (pc := 0) (i := 0) d_13_0 rfl rfl ?_
  refine wp_gI (pc := 1) d_13_1 fl_2_25 rfl ft_1_4 hv ?_
  exact wp_iret (pc := 4) d_13_4 (Or.inl rfl) rfl
set_option maxRecDepth 4000 in
theorem c_GdammedInAll {I : IT} {J : JT} {F : FT} {v : Nat} (hv : I 151 5 = nI v) : Sp 15 [vR 151] KK I J F (fun R => R = (some (vI (nI v)), KK, I, J, F)) := by
  refine Sp.mk2 (Nat.le_of_ble_eq_true rfl) (L2 := [_]) rfl ?_
  refine wp_aload_n (pc := 0) (i := 0) d_15_0 rfl rfl ?_
  refine wp_gI (pc := 1) d_15_1 fl_2_28 rfl ft_1_5 hv ?_
  exact wp_iret (pc := 4) d_15_4 (Or.inl rfl) rfl
set_option maxRecDepth 4000 in
theorem c_GdammedInSome {I : IT} {J : JT} {F : FT} {v : Nat} (hv : I 151 6 = nI v) : Sp 14 [vR 151] KK I J F (fun R => R = (some (vI (nI v)), KK, I, J, F)) := by
  refine Sp.mk2 (Nat.le_of_ble_eq_true rfl) (L2 := [_]) rfl ?_
  refine wp_aload_n (pc := 0) (i := 0) d_14_0 rfl rfl ?_
  refine wp_gI (pc := 1) d_14_1 fl_2_31 rfl ft_1_6 hv ?_
  exact wp_iret (pc := 4) d_14_4 (Or.inl rfl) rfl
set_option maxRecDepth 4000 in
theorem c_GhasRoom {I : IT} {J : JT} {F : FT} {v : Nat} (hv : I 151 3 = nI v) (h6 : v ≤ 6) : Sp 7 [vR 151] KK I J F (fun R => R = (some (vI (b2 (decide (v < 6)))), KK, I, J, F)) := by
  refine Sp.mk2 (Nat.le_of_ble_eq_true rfl) (L2 := [_]) rfl ?_
  refine wp_aload_n (pc := 0) (i := 0) d_7_0 rfl rfl ?_
  refine wp_gI (pc := 1) d_7_1 fl_2_21 rfl ft_1_3 hv ?_
  refine wp_bpN (pc := 4) (m := 6) d_7_4 (by decide) ?_
  refine wp_icmpN_ge (pc := 6) (tgt := 13) d_7_6 (by decide) (by omega) (by decide) (fun zq6 => ?_) (fun zq6 => ?_)
  · refine wp_icN (pc := 13) (m := 0) d_7_13 (by decide) ?_
    refine wp_iret (pc := 14) d_7_14 (Or.inr ⟨rfl, by decide⟩) ?_
    rw [show decide (v < 6) = false from decide_eq_false (by omega)]; rfl
  · refine wp_icN (pc := 9) (m := 1) d_7_9 (by decide) ?_
    refine wp_goto (pc := 10) (tgt := 14) d_7_10 (by decide) ?_
    refine wp_iret (pc := 14) d_7_14 (Or.inr ⟨rfl, by decide⟩) ?_
    rw [show decide (v < 6) = true from decide_eq_true (by omega)]; rfl
set_option maxRecDepth 4000 in
theorem c_Gclear {I : IT} {J : JT} {F : FT} : Sp 10 [vR 151] KK I J F (fun R => ∃ I2, R = (none, KK, I2, J, F) ∧ Up I I2 151 3 (nI 0)) := by
  refine Sp.mk2 (Nat.le_of_ble_eq_true rfl) (L2 := [_]) rfl ?_
  refine wp_aload_n (pc := 0) (i := 0) d_10_0 rfl rfl ?_
  refine wp_icN (pc := 1) (m := 0) d_10_1 (by decide) ?_
  refine wp_pI (pc := 2) d_10_2 fl_2_21 rfl ft_1_3 rfl (fun Iq2 uq2 => ?_)
  exact wp_vret (pc := 5) d_10_5 rfl ⟨_, rfl, uq2⟩
def addG (γ : SN) (n a b c : Nat) : SN := fun k j => if j = n then (if k = 0 then a else if k = 1 then b else c) else γ k j
set_option maxRecDepth 4000 in
theorem c_Gadd {I : IT} {J : JT} {F : FT} {gn a b c : Nat} {γ : SN} (hF : Fok F) (hG : atG I γ gn) (hn : gn < 6) : Sp 8 [vR 151, vI (nI a), vI (nI b), vI (nI c)] KK I J F (fun R => ∃ I2, R = (none, KK, I2, J, F) ∧ atG I2 (addG γ gn a b c) (gn + 1) ∧ ∀ x, (x < 151 ∨ 154 < x) → I2 x = I x) := by
  refine Sp.mk2 (Nat.le_of_ble_eq_true rfl) (L2 := [_, _, _, _]) rfl ?_
  refine wp_aload_n (pc := 0) (i := 0) d_8_0 rfl rfl ?_
  refine wp_gI (pc := 1) d_8_1 fl_2_21 rfl ft_1_3 hG.2.1 ?_
  refine wp_ifN_lt (pc := 4) (tgt := 16) d_8_4 (by decide) (by omega) ?_
  refine wp_aload_n (pc := 7) (i := 0) d_8_7 rfl rfl ?_
  refine wp_gI (pc := 8) d_8_8 fl_2_21 rfl ft_1_3 hG.2.1 ?_
  refine wp_bpN (pc := 11) (m := 6) d_8_11 (by decide) ?_
  refine wp_icmpN_lt (pc := 13) (tgt := 17) d_8_13 (by decide) (by omega) (by decide) (fun zq13 => ?_) (fun zq13 => ?_)
  · refine wp_aload_n (pc := 17) (i := 0) d_8_17 rfl rfl ?_
    refine wp_gA (pc := 18) d_8_18 fl_2_9 rfl ft_1_0 (F_151_0 hF) ?_
    refine wp_aload_n (pc := 21) (i := 0) d_8_21 rfl rfl ?_
    refine wp_gI (pc := 22) d_8_22 fl_2_21 rfl ft_1_3 hG.2.1 ?_
    refine wp_iload_n (pc := 25) (i := 1) d_8_25 rfl rfl ?_
    refine wp_aS (pc := 26) (j := gn) d_8_26 rfl rfl hn (by decide) (fun Iq26 uq26 => ?_)
    refine wp_aload_n (pc := 27) (i := 0) d_8_27 rfl rfl ?_
    refine wp_gA (pc := 28) d_8_28 fl_2_15 rfl ft_1_1 (F_151_1 hF) ?_
    refine wp_aload_n (pc := 31) (i := 0) d_8_31 rfl rfl ?_
    refine wp_gI (pc := 32) d_8_32 fl_2_21 rfl ft_1_3 ((uq26.off (by decide)).trans hG.2.1) ?_
    refine wp_iload_n (pc := 35) (i := 2) d_8_35 rfl rfl ?_
    refine wp_aS (pc := 36) (j := gn) d_8_36 rfl rfl hn (by decide) (fun Iq36 uq36 => ?_)
    refine wp_aload_n (pc := 37) (i := 0) d_8_37 rfl rfl ?_
    refine wp_gA (pc := 38) d_8_38 fl_2_18 rfl ft_1_2 (F_151_2 hF) ?_
    refine wp_aload_n (pc := 41) (i := 0) d_8_41 rfl rfl ?_
    refine wp_gI (pc := 42) d_8_42 fl_2_21 rfl ft_1_3 ((uq36.off (by decide)).trans ((uq26.off (by decide)).trans hG.2.1)) ?_
    refine wp_iload_n (pc := 45) (i := 3) d_8_45 rfl rfl ?_
    refine wp_aS (pc := 46) (j := gn) d_8_46 rfl rfl hn (by decide) (fun Iq46 uq46 => ?_)
    refine wp_aload_n (pc := 47) (i := 0) d_8_47 rfl rfl ?_
    refine wp_dup (pc := 48) d_8_48 rfl ?_
    refine wp_gI (pc := 49) d_8_49 fl_2_21 rfl ft_1_3 ((uq46.off (by decide)).trans ((uq36.off (by decide)).trans ((uq26.off (by decide)).trans hG.2.1))) ?_
    refine wp_icN (pc := 52) (m := 1) d_8_52 (by decide) ?_
    refine wp_iaddN (pc := 53) d_8_53 ?_
    refine wp_pI (pc := 54) d_8_54 fl_2_21 rfl ft_1_3 rfl (fun Iq54 uq54 => ?_)
    refine wp_vret (pc := 57) d_8_57 rfl ⟨_, rfl, ⟨by omega, uq54.at, fun k hk j hj => ?_⟩, fun a h1 => by rw [uq54.2 a (by omega), uq46.2 a (by omega), uq36.2 a (by omega), uq26.2 a (by omega)]⟩
    rw [uq54.off (by omega)]
    unfold addG
    have hk3 : k = 0 ∨ k = 1 ∨ k = 2 := by omega
    by_cases e : j = gn
    · subst e; rcases hk3 with rfl | rfl | rfl
      · rw [uq46.off (by decide), uq36.off (by decide)]; rw [if_pos rfl]; exact uq26.at
      · rw [uq46.off (by decide)]; rw [if_pos rfl]; exact uq36.at
      · rw [if_pos rfl]; exact uq46.at
    · rcases hk3 with rfl | rfl | rfl
      · rw [uq46.off (by decide), uq36.off (by decide), uq26.ne e, if_neg e]; exact hG.2.2 0 (by decide) j (by omega)
      · rw [uq46.off (by decide), uq36.ne e, uq26.off (by decide), if_neg e]; exact hG.2.2 1 (by decide) j (by omega)
      · rw [uq46.ne e, uq36.off (by decide), uq26.off (by decide), if_neg e]; exact hG.2.2 2 (by decide) j (by omega)
  · exact absurd zq13 (by omega)
