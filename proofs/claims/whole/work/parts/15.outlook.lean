/-- the numbers of a state t steps on stay small; where no water is there's no soap -/
def okN (t : Nat) (σ : SN) : Prop := sumN (σ 0) 6 + σ 4 4 ≤ 54 * (t + 1) ∧ sumN (σ 1) 6 + σ 4 5 ≤ 9 * t ∧ (∀ j, j < 6 → σ 2 j ≤ 9 * t) ∧ σ 4 6 ≤ t ∧ (∀ j, j < 6 → σ 0 j = 0 → σ 1 j = 0) ∧ σ 4 7 < 64
theorem sum6 (f : Nat → Nat) : sumN f 6 = f 0 + f 1 + f 2 + f 3 + f 4 + f 5 := by simp [sumN]
theorem le_sum6 {f : Nat → Nat} {j : Nat} (h : j < 6) : f j ≤ sumN f 6 := by
  rw [sum6]
  have : j = 0 ∨ j = 1 ∨ j = 2 ∨ j = 3 ∨ j = 4 ∨ j = 5 := by omega
  rcases this with rfl | rfl | rfl | rfl | rfl | rfl <;> omega
theorem okN.b {t : Nat} {σ : SN} (h : okN t σ) (ht : t ≤ 1000) : ∀ j, j < 6 → σ 0 j < 2 ^ 17 ∧ σ 1 j < 2 ^ 14 := by
  intro j hj
  have h0 := le_sum6 (f := σ 0) hj
  have h1 := le_sum6 (f := σ 1) hj
  obtain ⟨a, b, -⟩ := h
  omega
theorem okN.g {t : Nat} {σ : SN} (h : okN t σ) (ht : t ≤ 1000) : ∀ j, j < 6 → σ 2 j < 2 ^ 31 := by
  intro j hj
  have := h.2.2.1 j hj
  omega
theorem okN.mono {t t2 : Nat} {σ : SN} (h : okN t σ) (ht : t ≤ t2) : okN t2 σ := by
  obtain ⟨a, b, c, d, e, f⟩ := h
  exact ⟨by omega, by omega, fun j hj => by have := c j hj; omega, by omega, e, f⟩
theorem wa_le (ρ : SN) (rn : Nat) (σ : SN) (i : Nat) : waN ρ rn σ i ≤ σ 0 i + rn := by unfold waN; omega
theorem go_le (ρ : SN) (dm rn : Nat) (σ : SN) (i : Nat) : goN ρ dm rn σ i ≤ waN ρ rn σ i := gof_le
theorem sa_le (ρ : SN) (rn : Nat) (σ : SN) (i : Nat) : saN ρ rn σ i ≤ σ 1 i := by unfold saN; omega
theorem s2_le (ρ : SN) (dm rn : Nat) (σ : SN) (i : Nat) : s2N ρ dm rn σ i ≤ saN ρ rn σ i := alg_le _ _ _
theorem dr_le (ρ : SN) (rn : Nat) (σ : SN) (i : Nat) : drN ρ rn σ i ≤ ρ 0 i := Nat.min_le_left _ _
theorem sa_z {ρ : SN} {rn : Nat} {σ : SN} {i : Nat} (h : waN ρ rn σ i = 0) : saN ρ rn σ i = 0 := by
  have h2 : drN ρ rn σ i ≤ σ 0 i + rn := Nat.min_le_right _ _
  unfold waN at h
  have h3 : s1N ρ rn σ i = σ 1 i := if_pos (by omega)
  unfold saN
  omega
theorem s2_z {ρ : SN} {dm rn : Nat} {σ : SN} {i : Nat} (h : goN ρ dm rn σ i = 0) : s2N ρ dm rn σ i = 0 := by
  by_cases hw : waN ρ rn σ i = 0
  · have := s2_le ρ dm rn σ i
    have := sa_z hw
    omega
  · unfold s2N
    rw [h]
    unfold alg
    rw [if_neg (by omega), Nat.mul_zero, Nat.zero_div]
theorem s2_f {ρ : SN} {dm rn : Nat} {σ : SN} {i : Nat} (h : waN ρ rn σ i ≤ goN ρ dm rn σ i) : s2N ρ dm rn σ i = saN ρ rn σ i := if_pos (Or.inl h)
theorem pass0 {ρ σ : SN} {n dm rn j : Nat} (h : j < n) : passN ρ n dm rn σ 0 j = waN ρ rn σ j - goN ρ dm rn σ j + prv (goN ρ dm rn σ) j := by unfold passN; rw [if_pos (by decide), if_pos h, if_pos rfl]
theorem pass1 {ρ σ : SN} {n dm rn j : Nat} (h : j < n) : passN ρ n dm rn σ 1 j = saN ρ rn σ j - s2N ρ dm rn σ j + prv (s2N ρ dm rn σ) j := by unfold passN; rw [if_pos (by decide), if_pos h, if_neg (by decide), if_pos rfl]
theorem pass2 {ρ σ : SN} {n dm rn j : Nat} (h : j < n) : passN ρ n dm rn σ 2 j = σ 2 j + drN ρ rn σ j := by unfold passN; rw [if_pos (by decide), if_pos h, if_neg (by decide), if_neg (by decide), if_pos rfl]
theorem passO {ρ σ : SN} {n dm rn k j : Nat} (hk : k < 4) (h : ¬ j < n) : passN ρ n dm rn σ k j = σ k j := by unfold passN; rw [if_pos hk, if_neg h]
theorem pass44 {ρ σ : SN} {n dm rn : Nat} : passN ρ n dm rn σ 4 4 = σ 4 4 + prv (goN ρ dm rn σ) n := by unfold passN; rw [if_neg (by decide), if_pos rfl]
theorem pass45 {ρ σ : SN} {n dm rn : Nat} : passN ρ n dm rn σ 4 5 = σ 4 5 + prv (s2N ρ dm rn σ) n := by unfold passN; rw [if_neg (by decide), if_neg (by decide), if_pos rfl]
theorem pass46 {ρ σ : SN} {n dm rn : Nat} : passN ρ n dm rn σ 4 6 = σ 4 6 + 1 := by unfold passN; rw [if_neg (by decide), if_neg (by decide), if_neg (by decide), if_pos rfl]
theorem pass47 {ρ σ : SN} {n dm rn : Nat} : passN ρ n dm rn σ 4 7 = σ 4 7 := by unfold passN; rw [if_neg (by decide), if_neg (by decide), if_neg (by decide), if_neg (by decide)]
theorem prv0 (f : Nat → Nat) : prv f 0 = 0 := rfl
/-- sums along the row: what goes from one comes to the next -/
theorem sum_row {a g z f : Nat → Nat} (hg : ∀ j, g j ≤ a j) : ∀ n, (∀ j, j < n → f j = a j - g j + prv g j) → sumN f n + prv g n = sumN a n
  | 0, _ => rfl
  | n + 1, h => by
    have ih := sum_row (z := z) hg n (fun j hj => h j (by omega))
    have h1 := h n (by omega)
    have h2 := hg n
    rw [prv_s]
    show sumN f n + f n + g n = sumN a n + a n
    omega
theorem sum_split (f : Nat → Nat) (n : Nat) : ∀ d, sumN f (n + d) = sumN f n + sumN (fun j => f (n + j)) d
  | 0 => rfl
  | d + 1 => by
    show sumN f (n + d) + f (n + d) = sumN f n + (sumN (fun j => f (n + j)) d + f (n + d))
    rw [sum_split f n d]
    omega
theorem sum_le {f g : Nat → Nat} : ∀ {n : Nat}, (∀ j, j < n → f j ≤ g j) → sumN f n ≤ sumN g n
  | 0, _ => Nat.le_refl _
  | n + 1, h => by
    have := sum_le (f := f) (g := g) (n := n) (fun j hj => h j (by omega))
    have := h n (by omega)
    show sumN f n + f n ≤ sumN g n + g n
    omega
theorem sum_const (f : Nat → Nat) (c : Nat) : ∀ n, sumN (fun j => f j + c) n = sumN f n + n * c
  | 0 => by simp [sumN]
  | n + 1 => by
    show sumN (fun j => f j + c) n + (f n + c) = sumN f n + f n + (n + 1) * c
    rw [sum_const f c n, Nat.succ_mul]
    omega
theorem sum_cong {f g : Nat → Nat} : ∀ {n : Nat}, (∀ j, j < n → f j = g j) → sumN f n = sumN g n
  | 0, _ => rfl
  | n + 1, h => by
    show sumN f n + f n = sumN g n + g n
    rw [sum_cong (f := f) (g := g) (n := n) (fun j hj => h j (by omega)), h n (by omega)]
theorem pass_ok {ρ σ : SN} {n dm rn t : Nat} (hn : n ≤ 6) (hrn : rn ≤ 9) (hρ : ∀ k j, ρ k j ≤ 9) (h : okN t σ) : okN (t + 1) (passN ρ n dm rn σ) := by
  obtain ⟨a, b, c, d, e, f⟩ := h
  obtain ⟨m, hm⟩ : ∃ m, 6 = n + m := ⟨6 - n, by omega⟩
  refine ⟨?_, ?_, ?_, ?_, ?_, ?_⟩
  · rw [pass44]
    have h1 : sumN (passN ρ n dm rn σ 0) n + prv (goN ρ dm rn σ) n = sumN (waN ρ rn σ) n := sum_row (z := id) (go_le ρ dm rn σ) n (fun j hj => pass0 (ρ := ρ) (σ := σ) (dm := dm) (rn := rn) hj)
    have h2 := sum_le (n := n) (fun j _ => wa_le ρ rn σ j)
    rw [sum_const] at h2
    have h3 : sumN (fun j => passN ρ n dm rn σ 0 (n + j)) m = sumN (fun j => σ 0 (n + j)) m := sum_cong (fun j _ => passO (by decide) (by omega))
    rw [hm, sum_split] at a ⊢
    rw [h3]
    have h4 : n * rn ≤ 6 * 9 := Nat.mul_le_mul hn hrn
    omega
  · rw [pass45]
    have h1 : sumN (passN ρ n dm rn σ 1) n + prv (s2N ρ dm rn σ) n = sumN (saN ρ rn σ) n := sum_row (z := id) (s2_le ρ dm rn σ) n (fun j hj => pass1 (ρ := ρ) (σ := σ) (dm := dm) (rn := rn) hj)
    have h2 := sum_le (n := n) (fun j _ => sa_le ρ rn σ j)
    have h3 : sumN (fun j => passN ρ n dm rn σ 1 (n + j)) m = sumN (fun j => σ 1 (n + j)) m := sum_cong (fun j _ => passO (by decide) (by omega))
    rw [hm, sum_split] at b ⊢
    rw [h3]
    omega
  · intro j hj
    have := c j hj
    by_cases hjn : j < n
    · rw [pass2 hjn]
      have := dr_le ρ rn σ j
      have := hρ 0 j
      omega
    · rw [passO (by decide) hjn]
      omega
  · rw [pass46]
    omega
  · intro j hj hz
    by_cases hjn : j < n
    · rw [pass0 hjn] at hz
      rw [pass1 hjn]
      have h1 := go_le ρ dm rn σ j
      have h2 : s2N ρ dm rn σ j = saN ρ rn σ j := s2_f (by omega)
      have h3 : prv (s2N ρ dm rn σ) j = 0 := by
        unfold prv
        by_cases hj0 : j = 0
        · rw [if_pos hj0]
        · rw [if_neg hj0]
          refine s2_z ?_
          have : prv (goN ρ dm rn σ) j = goN ρ dm rn σ (j - 1) := if_neg hj0
          omega
      omega
    · rw [passO (by decide) hjn] at hz ⊢
      exact e j hj hz
  · rw [pass47]
    exact f
/-- k quarters on -/
def behN (ρ : SN) (n dm rn : Nat) (σ : SN) : Nat → SN
  | 0 => σ
  | k + 1 => passN ρ n dm rn (behN ρ n dm rn σ k)
theorem beh_ok {ρ σ : SN} {n dm rn t : Nat} (hn : n ≤ 6) (hrn : rn ≤ 9) (hρ : ∀ k j, ρ k j ≤ 9) (h : okN t σ) : ∀ k, okN (t + k) (behN ρ n dm rn σ k)
  | 0 => h
  | k + 1 => pass_ok hn hrn hρ (beh_ok hn hrn hρ h k)
theorem ok29 {t n : Nat} {σ : SN} (h : okN t σ) (ht : t ≤ 1000) (hn : n ≤ 6) : ∀ j, j < n → σ 0 j < 2 ^ 29 ∧ σ 1 j < 2 ^ 29 := fun j hj => by have := h.b ht j (by omega); omega
theorem isW18 : isW 18 := by unfold isW; decide +kernel
theorem isW93 : isW 93 := by unfold isW; decide +kernel
/-- how many bits of eight -/
def pcn (x : Nat) : Nat := sumN (fun i => x / 2 ^ i % 2) 8
set_option maxRecDepth 4000 in
theorem behind_step {I0 : IT} {J : JT} {F : FT} {n dm rn q t : Nat} {ρ σ : SN} (hF : Fok F) (hρ : ∀ k j, ρ k j ≤ 9) (hdm : dm < 64) (hrn : rn ≤ 9) (hok : okN t σ) (htq : t + q ≤ 1000) (i : Nat) (hi0 : i ≤ q) (I : IT) (hT : atW I 93 (behN ρ n dm rn σ i)) (hR : atR I 12 ρ n) (hoff : offW 93 I0 I)
    (ih0 : ∀ i', i < q → i' = i + 1 → ∀ (I : IT), (atW I 93 (behN ρ n dm rn σ i')) → (atR I 12 ρ n) → (offW 93 I0 I) → Wp none 17 (fun R => ∃ I2, R = (some (vR 93), KK, I2, J, F) ∧ atW I2 93 (behN ρ n dm rn σ q) ∧ offW 93 I0 I2) 14 [some (vR 92), some (vI (nI q)), some (vI (nI rn)), some (vI (nI dm)), some (vI (nI i'))] [] KK I J F) : Wp none 17 (fun R => ∃ I2, R = (some (vR 93), KK, I2, J, F) ∧ atW I2 93 (behN ρ n dm rn σ q) ∧ offW 93 I0 I2) 14 [some (vR 92), some (vI (nI q)), some (vI (nI rn)), some (vI (nI dm)), some (vI (nI i))] [] KK I J F := by
  refine wp_iload (pc := 14) d_17_14 rfl ?_
  refine wp_iload_n (pc := 16) (i := 1) d_17_16 rfl rfl ?_
  refine wp_icmpN_ge (pc := 17) (tgt := 40) d_17_17 (by decide) (by omega) (by omega) (fun zq17 => ?_) (fun zq17 => ?_)
  · refine wp_aload_n (pc := 40) (i := 0) d_17_40 rfl rfl ?_
    refine wp_gA (pc := 41) d_17_41 fl_3_12 rfl ft_2_2 (F_92_2 hF) ?_
    exact wp_aret (pc := 44) d_17_44 (Or.inl rfl) ⟨_, rfl, (by rw [← show i = q by omega]; exact hT), hoff⟩
  · refine wp_aload_n (pc := 20) (i := 0) d_17_20 rfl rfl ?_
    refine wp_gA (pc := 21) d_17_21 fl_3_12 rfl ft_2_2 (F_92_2 hF) ?_
    refine wp_aload_n (pc := 24) (i := 0) d_17_24 rfl rfl ?_
    refine wp_gA (pc := 25) d_17_25 fl_3_34 rfl ft_2_0 (F_92_0 hF) ?_
    refine wp_iload_n (pc := 28) (i := 3) d_17_28 rfl rfl ?_
    refine wp_iload_n (pc := 29) (i := 2) d_17_29 rfl rfl ?_
    refine wp_callV3e (pc := 30) d_17_30 lk_3_45 (by decide) rfl (Nat.le_of_ble_eq_true rfl) (kW isW93) rfl (c_pass hF isW93 isR12 hρ hdm hrn (ok29 (beh_ok hR.1 hrn hρ hok i) (by omega) hR.1) hT hR) (fun Iq30 hq30 => ?_)
    refine wp_pop (pc := 33) d_17_33 rfl ?_
    refine wq_iincN (pc := 34) (L2 := [_, _, _, _, _]) d_17_34 rfl (b := 1) (by decide) rfl rfl ?_
    refine wp_goto (pc := 37) (tgt := 14) d_17_37 (by decide) ?_
    exact ih0 (i + 1) zq17 rfl _ hq30.1 (atR_off isR12 isW93 hR hq30.2) (hoff.tr hq30.2)
theorem behind_loop {I0 : IT} {J : JT} {F : FT} {n dm rn q t : Nat} {ρ σ : SN} (hF : Fok F) (hρ : ∀ k j, ρ k j ≤ 9) (hdm : dm < 64) (hrn : rn ≤ 9) (hok : okN t σ) (htq : t + q ≤ 1000) : ∀ (d i : Nat), i + d = q → ∀ (I : IT), (atW I 93 (behN ρ n dm rn σ i)) → (atR I 12 ρ n) → (offW 93 I0 I) → Wp none 17 (fun R => ∃ I2, R = (some (vR 93), KK, I2, J, F) ∧ atW I2 93 (behN ρ n dm rn σ q) ∧ offW 93 I0 I2) 14 [some (vR 92), some (vI (nI q)), some (vI (nI rn)), some (vI (nI dm)), some (vI (nI i))] [] KK I J F := by
  intro d
  induction d with
  | zero =>
    intro i hid I hT hR hoff
    exact behind_step hF hρ hdm hrn hok htq i (by omega) I hT hR hoff (fun i' hlt => absurd hlt (by omega))
  | succ d ih =>
    intro i hid I hT hR hoff
    exact behind_step hF hρ hdm hrn hok htq i (by omega) I hT hR hoff (fun i' hlt he => ih i' (by omega))

set_option maxRecDepth 4000 in
theorem c_behind {I0 : IT} {J : JT} {F : FT} {n dm rn q t : Nat} {ρ σ : SN} (hF : Fok F) (hρ : ∀ k j, ρ k j ≤ 9) (hdm : dm < 64) (hrn : rn ≤ 9) (hok : okN t σ) (htq : t + q ≤ 1000) (hA : atW I0 18 σ) (hR : atR I0 12 ρ n) : Sp 17 [vR 92, vI (nI q), vI (nI rn), vI (nI dm)] KK I0 J F (fun R => ∃ I2, R = (some (vR 93), KK, I2, J, F) ∧ atW I2 93 (behN ρ n dm rn σ q) ∧ offW 93 I0 I2) := by
  refine Sp.mk2 (Nat.le_of_ble_eq_true rfl) (L2 := [_, _, _, _, _]) rfl ?_
  refine wp_aload_n (pc := 0) (i := 0) d_17_0 rfl rfl ?_
  refine wp_gA (pc := 1) d_17_1 fl_3_12 rfl ft_2_2 (F_92_2 hF) ?_
  refine wp_aload_n (pc := 4) (i := 0) d_17_4 rfl rfl ?_
  refine wp_gA (pc := 5) d_17_5 fl_3_38 rfl ft_2_1 (F_92_1 hF) ?_
  refine wp_callV1v (pc := 8) d_17_8 lk_3_41 (by decide) rfl (Nat.le_of_ble_eq_true rfl) (kW isW93) rfl (c_become hF isW93 isW18 (by decide) hA) (fun Iq8 hq8 => ?_)
  refine wp_icN (pc := 11) (m := 0) d_17_11 (by decide) ?_
  refine wq_istore (pc := 12) (L2 := [_, _, _, _, _]) d_17_12 (Nat.le_of_ble_eq_true rfl) rfl rfl ?_
  exact behind_loop hF hρ hdm hrn hok htq q 0 (by omega) _ hq8.1 (atR_off isR12 isW93 hR hq8.2) hq8.2
set_option maxRecDepth 4000 in
theorem c_sets {I : IT} {J : JT} {F : FT} {n : Nat} {ρ : SN} (hF : Fok F) (hR : atR I 12 ρ n) : Sp 19 [vR 92] KK I J F (fun R => R = (some (vI (nI (2 ^ n))), KK, I, J, F)) := by
  have hn6 := hR.1
  refine Sp.mk2 (Nat.le_of_ble_eq_true rfl) (L2 := [_]) rfl ?_
  refine wp_aload_n (pc := 0) (i := 0) d_19_0 rfl rfl ?_
  refine wp_gA (pc := 1) d_19_1 fl_3_34 rfl ft_2_0 (F_92_0 hF) ?_
  refine wp_callV0p (pc := 4) d_19_4 lk_3_49 (by decide) rfl (Nat.le_of_ble_eq_true rfl) (kR isR12) rfl (c_Rnumber isR12 hR) ?_
  refine wp_callSN1p (pc := 7) d_19_7 lk_3_55 (by decide) rfl (Nat.le_of_ble_eq_true rfl) (c_bit (by omega)) ?_
  exact wp_iret (pc := 10) d_19_10 (Or.inl rfl) rfl
set_option maxRecDepth 4000 in
theorem c_wibNow {I : IT} {J : JT} {F : FT} {σ : SN} (hF : Fok F) (hA : atW I 18 σ) : Sp 28 [vR 92] KK I J F (fun R => R = (some (vI (nI (σ 4 4))), KK, I, J, F)) := by
  refine Sp.mk2 (Nat.le_of_ble_eq_true rfl) (L2 := [_]) rfl ?_
  refine wp_aload_n (pc := 0) (i := 0) d_28_0 rfl rfl ?_
  refine wp_gA (pc := 1) d_28_1 fl_3_38 rfl ft_2_1 (F_92_1 hF) ?_
  refine wp_callV0p (pc := 4) d_28_4 lk_3_59 (by decide) rfl (Nat.le_of_ble_eq_true rfl) (kW isW18) rfl (c_waterInButt isW18 (hA.2 4 (by decide) (by decide))) ?_
  exact wp_iret (pc := 7) d_28_7 (Or.inl rfl) rfl
/-- the int steps of bitCount -/
def bcE (x : Int32) : Int32 :=
  let u := fun (a s : Int32) => (a.toUInt32 >>> (s.toUInt32 &&& Int32.toUInt32 31)).toInt32
  let a := x - (u x (nI 1) &&& (1431655765))
  let b := (a &&& (858993459)) + (u a (nI 2) &&& (858993459))
  let c := (b + u b (nI 4)) &&& (252645135)
  let d := c + u c (nI 8)
  let e := d + u d (nI 16)
  e &&& nI 63
theorem bc_c : ∀ x, x < 256 → bcE (nI x) = nI (pcn x) := by decide +kernel
set_option maxRecDepth 4000 in
theorem c_bitCount {I : IT} {J : JT} {F : FT} {x : Nat} (hx : x < 256) : Sp 165 [vI (nI x)] KK I J F (fun R => R = (some (vI (nI (pcn x))), KK, I, J, F)) := by
  refine Sp.mk2 (Nat.le_of_ble_eq_true rfl) (L2 := [_]) rfl ?_
  refine wp_iload_n (pc := 0) (i := 0) d_165_0 rfl rfl ?_
  refine wp_iload_n (pc := 1) (i := 0) d_165_1 rfl rfl ?_
  refine wp_icN (pc := 2) (m := 1) d_165_2 (by decide) ?_
  refine wp_iushr (pc := 3) d_165_3 ?_
  refine wp_ldcw (pc := 4) d_165_4 cs_11_265 ?_
  refine wp_iand (pc := 7) d_165_7 ?_
  refine wp_isub (pc := 8) d_165_8 ?_
  refine wq_istore_n (pc := 9) (L2 := [_]) (i := 0) d_165_9 rfl (Nat.le_of_ble_eq_true rfl) rfl rfl ?_
  refine wp_iload_n (pc := 10) (i := 0) d_165_10 rfl rfl ?_
  refine wp_ldcw (pc := 11) d_165_11 cs_11_266 ?_
  refine wp_iand (pc := 14) d_165_14 ?_
  refine wp_iload_n (pc := 15) (i := 0) d_165_15 rfl rfl ?_
  refine wp_icN (pc := 16) (m := 2) d_165_16 (by decide) ?_
  refine wp_iushr (pc := 17) d_165_17 ?_
  refine wp_ldcw (pc := 18) d_165_18 cs_11_266 ?_
  refine wp_iand (pc := 21) d_165_21 ?_
  refine wp_iadd (pc := 22) d_165_22 ?_
  refine wq_istore_n (pc := 23) (L2 := [_]) (i := 0) d_165_23 rfl (Nat.le_of_ble_eq_true rfl) rfl rfl ?_
  refine wp_iload_n (pc := 24) (i := 0) d_165_24 rfl rfl ?_
  refine wp_iload_n (pc := 25) (i := 0) d_165_25 rfl rfl ?_
  refine wp_icN (pc := 26) (m := 4) d_165_26 (by decide) ?_
  refine wp_iushr (pc := 27) d_165_27 ?_
  refine wp_iadd (pc := 28) d_165_28 ?_
  refine wp_ldcw (pc := 29) d_165_29 cs_11_267 ?_
  refine wp_iand (pc := 32) d_165_32 ?_
  refine wq_istore_n (pc := 33) (L2 := [_]) (i := 0) d_165_33 rfl (Nat.le_of_ble_eq_true rfl) rfl rfl ?_
  refine wp_iload_n (pc := 34) (i := 0) d_165_34 rfl rfl ?_
  refine wp_iload_n (pc := 35) (i := 0) d_165_35 rfl rfl ?_
  refine wp_bpN (pc := 36) (m := 8) d_165_36 (by decide) ?_
  refine wp_iushr (pc := 38) d_165_38 ?_
  refine wp_iadd (pc := 39) d_165_39 ?_
  refine wq_istore_n (pc := 40) (L2 := [_]) (i := 0) d_165_40 rfl (Nat.le_of_ble_eq_true rfl) rfl rfl ?_
  refine wp_iload_n (pc := 41) (i := 0) d_165_41 rfl rfl ?_
  refine wp_iload_n (pc := 42) (i := 0) d_165_42 rfl rfl ?_
  refine wp_bpN (pc := 43) (m := 16) d_165_43 (by decide) ?_
  refine wp_iushr (pc := 45) d_165_45 ?_
  refine wp_iadd (pc := 46) d_165_46 ?_
  refine wq_istore_n (pc := 47) (L2 := [_]) (i := 0) d_165_47 rfl (Nat.le_of_ble_eq_true rfl) rfl rfl ?_
  refine wp_iload_n (pc := 48) (i := 0) d_165_48 rfl rfl ?_
  refine wp_bpN (pc := 49) (m := 63) d_165_49 (by decide) ?_
  refine wp_iand (pc := 51) d_165_51 ?_
  refine wp_iret (pc := 52) d_165_52 (Or.inl rfl) ?_
  exact congrArg (fun v => (some (vI v), KK, I, J, F)) (bc_c x hx)
/-- how many have enough k quarters on -/
def cntB (ρ : SN) (n rn : Nat) (σ : SN) (k dm : Nat) : Nat := pcn (bitsN (enN ρ (behN ρ n dm rn σ k)) n)
theorem pcn_le : ∀ x, x < 256 → pcn x ≤ 8 := by decide +kernel
theorem bits64 (p : Nat → Bool) {n : Nat} (hn : n ≤ 6) : bitsN p n < 64 := Nat.lt_of_lt_of_le (bitsN_lt p n) (Nat.pow_le_pow_right (by decide) hn)
theorem cntB_le {ρ σ : SN} {n rn k dm : Nat} (hn : n ≤ 6) : cntB ρ n rn σ k dm ≤ 8 := pcn_le _ (by have := bits64 (enN ρ (behN ρ n dm rn σ k)) hn; omega)
set_option maxRecDepth 4000 in
theorem c_contentBehind {I0 : IT} {J : JT} {F : FT} {n dm rn q t : Nat} {ρ σ : SN} (hF : Fok F) (hρ : ∀ k j, ρ k j ≤ 9) (hdm : dm < 64) (hrn : rn ≤ 9) (hok : okN t σ) (htq : t + q ≤ 1000) (hA : atW I0 18 σ) (hR : atR I0 12 ρ n) : Sp 20 [vR 92, vI (nI q), vI (nI rn), vI (nI dm)] KK I0 J F (fun R => ∃ I2, R = (some (vI (nI (cntB ρ n rn σ q dm))), KK, I2, J, F) ∧ offW 93 I0 I2) := by
  refine Sp.mk2 (Nat.le_of_ble_eq_true rfl) (L2 := [_, _, _, _]) rfl ?_
  refine wp_aload_n (pc := 0) (i := 0) d_20_0 rfl rfl ?_
  refine wp_iload_n (pc := 1) (i := 1) d_20_1 rfl rfl ?_
  refine wp_iload_n (pc := 2) (i := 2) d_20_2 rfl rfl ?_
  refine wp_iload_n (pc := 3) (i := 3) d_20_3 rfl rfl ?_
  refine wp_callV3e (pc := 4) d_20_4 lk_3_62 (by decide) rfl (Nat.le_of_ble_eq_true rfl) rfl rfl (c_behind hF hρ hdm hrn hok htq hA hR) (fun Iq4 hq4 => ?_)
  have hR4 := atR_off isR12 isW93 hR hq4.2
  refine wp_aload_n (pc := 7) (i := 0) d_20_7 rfl rfl ?_
  refine wp_gA (pc := 8) d_20_8 fl_3_34 rfl ft_2_0 (F_92_0 hF) ?_
  refine wp_callV1p (pc := 11) d_20_11 lk_3_66 (by decide) rfl (Nat.le_of_ble_eq_true rfl) (kW isW93) rfl (c_contentBits hF isW93 isR12 hq4.1 hR4 hρ ((beh_ok hR.1 hrn hρ hok q).g htq)) ?_
  refine wp_callS1p (pc := 14) d_20_14 lk_3_70 (by decide) rfl (Nat.le_of_ble_eq_true rfl) (c_bitCount (by have := bits64 (enN ρ (behN ρ n dm rn σ q)) hR.1; omega)) ?_
  exact wp_iret (pc := 17) d_20_17 (Or.inl rfl) ⟨_, rfl, hq4.2⟩
