/-- only what is tried is otherwise -/
def SCP (I I2 : IT) : Prop := (∀ k, k < 30 → I2 177 k = I 177 k) ∧ ∀ a, a ≠ 177 → a ≠ 180 → a ≠ 181 → I2 a = I a
theorem SCP.M {I I2 : IT} (h : SCP I I2) : SCM I I2 := ⟨fun q _ _ _ _ => by rw [h.2 173 (by decide) (by decide) (by decide)], h.1, fun a ha => h.2 a (by omega) (by omega) (by omega)⟩
theorem SCP.tr {I I2 I3 : IT} (h : SCP I I2) (k : SCP I2 I3) : SCP I I3 := ⟨fun j hj => (k.1 j hj).trans (h.1 j hj), fun a a1 a2 a3 => (k.2 a a1 a2 a3).trans (h.2 a a1 a2 a3)⟩
theorem mRo.s {I I2 : IT} {ρ : SN} {n : Nat} (h : mRo I ρ n) (k : SCM I I2) : mRo I2 ρ n := h.k (k.1 5 (by decide) (by decide) (by decide) (by decide)) (k.2.2 176 (by omega))
theorem mW.s {I I2 : IT} {σ : SN} (h : mW (I 177) 0 σ) (k : SCM I I2) : mW (I2 177) 0 σ := h.k (fun q _ hq => k.2.1 q (by omega))
set_option maxRecDepth 4000 in
theorem goOn_step {I0 : IT} {J : JT} {F : FT} {n dm rn q t : Nat} {ρ σ : SN} (hF : Fok F) (hRo0 : mRo I0 ρ n) (hρ : ∀ k j, ρ k j ≤ 9) (hdm : dm < 64) (hrn : rn ≤ 9) (hok : okN t σ) (htq : t + q ≤ 1000) (i : Nat) (hi0 : i ≤ q) (I : IT) (hT : mW (I 177) 30 (behN ρ n dm rn σ i)) (hsc : SCP I0 I)
    (ih0 : ∀ i', i < q → i' = i + 1 → ∀ (I : IT), (mW (I 177) 30 (behN ρ n dm rn σ i')) → (SCP I0 I) → Wp none 141 (fun R => ∃ I2, R = (none, KK, I2, J, F) ∧ mW (I2 177) 30 (behN ρ n dm rn σ q) ∧ SCP I0 I2) 7 [some (vR 173), some (vI (nI q)), some (vI (nI rn)), some (vI (nI dm)), some (vI (nI i'))] [] KK I J F) : Wp none 141 (fun R => ∃ I2, R = (none, KK, I2, J, F) ∧ mW (I2 177) 30 (behN ρ n dm rn σ q) ∧ SCP I0 I2) 7 [some (vR 173), some (vI (nI q)), some (vI (nI rn)), some (vI (nI dm)), some (vI (nI i))] [] KK I J F := by
  refine wp_iload (pc := 7) d_141_7 rfl ?_
  refine wp_iload_n (pc := 9) (i := 1) d_141_9 rfl rfl ?_
  refine wp_icmpN_ge (pc := 10) (tgt := 28) d_141_10 (by decide) (by omega) (by omega) (fun zq10 => ?_) (fun zq10 => ?_)
  · exact wp_vret (pc := 28) d_141_28 rfl ⟨_, rfl, by rw [show i = q by omega] at hT; exact hT, hsc⟩
  · refine wp_aload_n (pc := 13) (i := 0) d_141_13 rfl rfl ?_
    refine wp_bpN (pc := 14) (m := 30) d_141_14 (by decide) ?_
    refine wp_iload_n (pc := 16) (i := 2) d_141_16 rfl rfl ?_
    refine wp_iload_n (pc := 17) (i := 3) d_141_17 rfl rfl ?_
    refine wp_callV3e (pc := 18) d_141_18 lk_10_121 (by decide) rfl (Nat.le_of_ble_eq_true rfl) rfl rfl (m_pass hF (hRo0.s hsc.M) hρ (Nat.le_refl 30) hdm hrn (beh_ok hRo0.1 hrn hρ hok i) (by omega) hT) (fun Iq18 hq18 => ?_)
    refine wp_pop (pc := 21) d_141_21 rfl ?_
    refine wq_iincN (pc := 22) (L2 := [_, _, _, _, _]) d_141_22 rfl (b := 1) (by decide) rfl rfl ?_
    refine wp_goto (pc := 25) (tgt := 7) d_141_25 (by decide) ?_
    exact ih0 (i + 1) zq10 rfl _ hq18.1 (hsc.tr ⟨fun k hk => hq18.2.1 k (by omega), hq18.2.2⟩)
theorem goOn_loop {I0 : IT} {J : JT} {F : FT} {n dm rn q t : Nat} {ρ σ : SN} (hF : Fok F) (hRo0 : mRo I0 ρ n) (hρ : ∀ k j, ρ k j ≤ 9) (hdm : dm < 64) (hrn : rn ≤ 9) (hok : okN t σ) (htq : t + q ≤ 1000) : ∀ (d i : Nat), i + d = q → ∀ (I : IT), (mW (I 177) 30 (behN ρ n dm rn σ i)) → (SCP I0 I) → Wp none 141 (fun R => ∃ I2, R = (none, KK, I2, J, F) ∧ mW (I2 177) 30 (behN ρ n dm rn σ q) ∧ SCP I0 I2) 7 [some (vR 173), some (vI (nI q)), some (vI (nI rn)), some (vI (nI dm)), some (vI (nI i))] [] KK I J F := by
  intro d
  induction d with
  | zero =>
    intro i hid I hT hsc
    exact goOn_step hF hRo0 hρ hdm hrn hok htq i (by omega) I hT hsc (fun i' hlt => absurd hlt (by omega))
  | succ d ih =>
    intro i hid I hT hsc
    exact goOn_step hF hRo0 hρ hdm hrn hok htq i (by omega) I hT hsc (fun i' hlt he => ih i' (by omega))

set_option maxRecDepth 4000 in
theorem m_goOn {I0 : IT} {J : JT} {F : FT} {n dm rn q t : Nat} {ρ σ : SN} (hF : Fok F) (hRo0 : mRo I0 ρ n) (hρ : ∀ k j, ρ k j ≤ 9) (hdm : dm < 64) (hrn : rn ≤ 9) (hok : okN t σ) (htq : t + q ≤ 1000) (hW0 : mW (I0 177) 0 σ) : Sp 141 [vR 173, vI (nI q), vI (nI rn), vI (nI dm)] KK I0 J F (fun R => ∃ I2, R = (none, KK, I2, J, F) ∧ mW (I2 177) 30 (behN ρ n dm rn σ q) ∧ SCP I0 I2) := by
  refine Sp.mk2 (Nat.le_of_ble_eq_true rfl) (L2 := [_, _, _, _, _]) rfl ?_
  refine wp_aload_n (pc := 0) (i := 0) d_141_0 rfl rfl ?_
  refine wp_callV0v (pc := 1) d_141_1 lk_10_124 (by decide) rfl (Nat.le_of_ble_eq_true rfl) rfl rfl (m_copy hF) (fun Iq1 hq1 => ?_)
  have hcW : mW (Iq1 177) 30 σ := hW0.cp (fun q hq => by rw [Nat.zero_add]; exact hq1.1 q (by omega))
  have hcS : SCP I0 Iq1 := ⟨fun k hk => hq1.2.1 k (Or.inl hk), fun a a1 _ _ => hq1.2.2 a a1⟩
  refine wp_icN (pc := 4) (m := 0) d_141_4 (by decide) ?_
  refine wq_istore (pc := 5) (L2 := [_, _, _, _, _]) d_141_5 (Nat.le_of_ble_eq_true rfl) rfl rfl ?_
  exact goOn_loop hF hRo0 hρ hdm hrn hok htq q 0 (by omega) _ hcW hcS
theorem pcn_add : ∀ i, i < 6 → ∀ x, x < 2 ^ i → pcn (x + 2 ^ i) = pcn x + 1 := by decide +kernel
theorem pcn_bits (p : Nat → Bool) : ∀ n, n ≤ 6 → pcn (bitsN p n) = ctN p n
  | 0, _ => (show pcn 0 = 0 by decide)
  | n + 1, h => by
    have ih := pcn_bits p n (by omega)
    unfold bitsN ctN
    by_cases e : p n = true
    · rw [if_pos e, if_pos e, pcn_add n (by omega) _ (bitsN_lt p n), ih]
    · rw [if_neg e, if_neg e, Nat.add_zero, Nat.add_zero, ih]
set_option maxRecDepth 4000 in
theorem served_step {I : IT} {J : JT} {F : FT} {ρ τ : SN} {n : Nat} (hF : Fok F) (hRo : mRo I ρ n) (hT : mW (I 177) 30 τ) (hρ : ∀ k j, ρ k j ≤ 9) (hb : ∀ j, j < 6 → τ 2 j < 2 ^ 31) (i : Nat) (hi0 : i ≤ n) (x : Nat) (hx : x = ctN (enN ρ τ) i)
    (ih0 : ∀ i', i < n → i' = i + 1 → ∀ (x : Nat), (x = ctN (enN ρ τ) i') → Wp none 146 (fun R => R = (some (vI (nI (pcn (bitsN (enN ρ τ) n)))), KK, I, J, F)) 4 [some (vR 173), some (vI (nI x)), some (vI (nI i'))] [] KK I J F) : Wp none 146 (fun R => R = (some (vI (nI (pcn (bitsN (enN ρ τ) n)))), KK, I, J, F)) 4 [some (vR 173), some (vI (nI x)), some (vI (nI i))] [] KK I J F := by
  have hn6 := hRo.1
  refine wp_iload_n (pc := 4) (i := 2) d_146_4 rfl rfl ?_
  refine wp_aload_n (pc := 5) (i := 0) d_146_5 rfl rfl ?_
  refine wp_gI (pc := 6) d_146_6 fl_10_53 rfl ft_9_5 hRo.2.1 ?_
  refine wp_icmpN_ge (pc := 9) (tgt := 36) d_146_9 (by decide) (by omega) (by omega) (fun zq9 => ?_) (fun zq9 => ?_)
  · refine wp_iload_n (pc := 36) (i := 1) d_146_36 rfl rfl ?_
    exact wp_iret (pc := 37) d_146_37 (Or.inl rfl) (by rw [hx, pcn_bits _ _ hn6, show i = n by omega])
  · refine wp_iload_n (pc := 12) (i := 1) d_146_12 rfl rfl ?_
    refine wp_aload_n (pc := 13) (i := 0) d_146_13 rfl rfl ?_
    refine wp_bpN (pc := 14) (m := 30) d_146_14 (by decide) ?_
    refine wp_iload_n (pc := 16) (i := 2) d_146_16 rfl rfl ?_
    refine wp_callV2p (pc := 17) d_146_17 lk_10_105 (by decide) rfl (Nat.le_of_ble_eq_true rfl) rfl rfl (m_hasEnough hF hRo hT (Nat.le_refl 30) zq9 hρ (hb i (by omega))) ?_
    refine wp_ifB_eq (pc := 20) (tgt := 27) d_146_20 (by decide) (fun zq20 => ?_) (fun zq20 => ?_)
    · refine wp_icN (pc := 27) (m := 0) d_146_27 (by decide) ?_
      refine wp_iaddN (pc := 28) d_146_28 ?_
      refine wq_istore_n (pc := 29) (L2 := [_, _, _]) (i := 1) d_146_29 rfl (Nat.le_of_ble_eq_true rfl) rfl rfl ?_
      refine wq_iincN (pc := 30) (L2 := [_, _, _]) d_146_30 rfl (b := 1) (by decide) rfl rfl ?_
      refine wp_goto (pc := 33) (tgt := 4) d_146_33 (by decide) ?_
      refine ih0 (i + 1) zq9 rfl _ ?_
      rw [hx]
      show _ = ctN (enN ρ τ) i + (if enN ρ τ i then 1 else 0)
      rw [show enN ρ τ i = false from zq20]; rfl
    · refine wp_icN (pc := 23) (m := 1) d_146_23 (by decide) ?_
      refine wp_goto (pc := 24) (tgt := 28) d_146_24 (by decide) ?_
      refine wp_iaddN (pc := 28) d_146_28 ?_
      refine wq_istore_n (pc := 29) (L2 := [_, _, _]) (i := 1) d_146_29 rfl (Nat.le_of_ble_eq_true rfl) rfl rfl ?_
      refine wq_iincN (pc := 30) (L2 := [_, _, _]) d_146_30 rfl (b := 1) (by decide) rfl rfl ?_
      refine wp_goto (pc := 33) (tgt := 4) d_146_33 (by decide) ?_
      refine ih0 (i + 1) zq9 rfl _ ?_
      rw [hx]
      show _ = ctN (enN ρ τ) i + (if enN ρ τ i then 1 else 0)
      rw [show enN ρ τ i = true from zq20]; rfl
theorem served_loop {I : IT} {J : JT} {F : FT} {ρ τ : SN} {n : Nat} (hF : Fok F) (hRo : mRo I ρ n) (hT : mW (I 177) 30 τ) (hρ : ∀ k j, ρ k j ≤ 9) (hb : ∀ j, j < 6 → τ 2 j < 2 ^ 31) : ∀ (d i : Nat), i + d = n → ∀ (x : Nat), (x = ctN (enN ρ τ) i) → Wp none 146 (fun R => R = (some (vI (nI (pcn (bitsN (enN ρ τ) n)))), KK, I, J, F)) 4 [some (vR 173), some (vI (nI x)), some (vI (nI i))] [] KK I J F := by
  intro d
  induction d with
  | zero =>
    intro i hid x hx
    exact served_step hF hRo hT hρ hb i (by omega) x hx (fun i' hlt => absurd hlt (by omega))
  | succ d ih =>
    intro i hid x hx
    exact served_step hF hRo hT hρ hb i (by omega) x hx (fun i' hlt he => ih i' (by omega))

set_option maxRecDepth 4000 in
theorem m_served {I : IT} {J : JT} {F : FT} {ρ τ : SN} {n : Nat} (hF : Fok F) (hRo : mRo I ρ n) (hT : mW (I 177) 30 τ) (hρ : ∀ k j, ρ k j ≤ 9) (hb : ∀ j, j < 6 → τ 2 j < 2 ^ 31) : Sp 146 [vR 173] KK I J F (fun R => R = (some (vI (nI (pcn (bitsN (enN ρ τ) n)))), KK, I, J, F)) := by
  refine Sp.mk2 (Nat.le_of_ble_eq_true rfl) (L2 := [_, _, _]) rfl ?_
  refine wp_icN (pc := 0) (m := 0) d_146_0 (by decide) ?_
  refine wq_istore_n (pc := 1) (L2 := [_, _, _]) (i := 1) d_146_1 rfl (Nat.le_of_ble_eq_true rfl) rfl rfl ?_
  refine wp_icN (pc := 2) (m := 0) d_146_2 (by decide) ?_
  refine wq_istore_n (pc := 3) (L2 := [_, _, _]) (i := 2) d_146_3 rfl (Nat.le_of_ble_eq_true rfl) rfl rfl ?_
  exact served_loop hF hRo hT hρ hb n 0 (by omega) 0 rfl
theorem m_servedE {v : Nat} {I : IT} {J : JT} {F : FT} {ρ τ : SN} {n : Nat} (hv : pcn (bitsN (enN ρ τ) n) = v) (hF : Fok F) (hRo : mRo I ρ n) (hT : mW (I 177) 30 τ) (hρ : ∀ k j, ρ k j ≤ 9) (hb : ∀ j, j < 6 → τ 2 j < 2 ^ 31) : Sp 146 [vR 173] KK I J F (fun R => R = (some (vI (nI v)), KK, I, J, F)) := by
  have h := m_served (I := I) (J := J) (F := F) hF hRo hT hρ hb
  rw [hv] at h
  exact h
theorem pcn_6 : ∀ x, x < 64 → sumN (fun k => x / 2 ^ k % 2) 6 = pcn x := by decide +kernel
set_option maxRecDepth 4000 in
theorem ones_step {I : IT} {J : JT} {F : FT} {xs : Nat} (hx64 : xs < 64) (i : Nat) (hi0 : i ≤ 6) (x : Nat) (hx : x = sumN (fun k => xs / 2 ^ k % 2) i)
    (ih0 : ∀ i', i < 6 → i' = i + 1 → ∀ (x : Nat), (x = sumN (fun k => xs / 2 ^ k % 2) i') → Wp none 147 (fun R => R = (some (vI (nI (pcn xs))), KK, I, J, F)) 4 [some (vI (nI xs)), some (vI (nI x)), some (vI (nI i'))] [] KK I J F) : Wp none 147 (fun R => R = (some (vI (nI (pcn xs))), KK, I, J, F)) 4 [some (vI (nI xs)), some (vI (nI x)), some (vI (nI i))] [] KK I J F := by
  refine wp_iload_n (pc := 4) (i := 2) d_147_4 rfl rfl ?_
  refine wp_bpN (pc := 5) (m := 6) d_147_5 (by decide) ?_
  refine wp_icmpN_ge (pc := 7) (tgt := 24) d_147_7 (by decide) (by omega) (by decide) (fun zq7 => ?_) (fun zq7 => ?_)
  · refine wp_iload_n (pc := 24) (i := 1) d_147_24 rfl rfl ?_
    exact wp_iret (pc := 25) d_147_25 (Or.inl rfl) (by rw [hx, show i = 6 by omega, pcn_6 xs hx64])
  · refine wp_iload_n (pc := 10) (i := 1) d_147_10 rfl rfl ?_
    refine wp_iload_n (pc := 11) (i := 0) d_147_11 rfl rfl ?_
    refine wp_iload_n (pc := 12) (i := 2) d_147_12 rfl rfl ?_
    refine wp_ishr (pc := 13) d_147_13 ?_
    refine wp_icN (pc := 14) (m := 1) d_147_14 (by decide) ?_
    refine wp_iand (pc := 15) d_147_15 ?_
    rw [bit1_c hx64 (by omega)]
    refine wp_iaddN (pc := 16) d_147_16 ?_
    refine wq_istore_n (pc := 17) (L2 := [_, _, _]) (i := 1) d_147_17 rfl (Nat.le_of_ble_eq_true rfl) rfl rfl ?_
    refine wq_iincN (pc := 18) (L2 := [_, _, _]) d_147_18 rfl (b := 1) (by decide) rfl rfl ?_
    refine wp_goto (pc := 21) (tgt := 4) d_147_21 (by decide) ?_
    exact ih0 (i + 1) zq7 rfl _ (by rw [hx]; rfl)
theorem ones_loop {I : IT} {J : JT} {F : FT} {xs : Nat} (hx64 : xs < 64) : ∀ (d i : Nat), i + d = 6 → ∀ (x : Nat), (x = sumN (fun k => xs / 2 ^ k % 2) i) → Wp none 147 (fun R => R = (some (vI (nI (pcn xs))), KK, I, J, F)) 4 [some (vI (nI xs)), some (vI (nI x)), some (vI (nI i))] [] KK I J F := by
  intro d
  induction d with
  | zero =>
    intro i hid x hx
    exact ones_step hx64 i (by omega) x hx (fun i' hlt => absurd hlt (by omega))
  | succ d ih =>
    intro i hid x hx
    exact ones_step hx64 i (by omega) x hx (fun i' hlt he => ih i' (by omega))

set_option maxRecDepth 4000 in
theorem m_ones {I : IT} {J : JT} {F : FT} {xs : Nat} (hx64 : xs < 64) : Sp 147 [vI (nI xs)] KK I J F (fun R => R = (some (vI (nI (pcn xs))), KK, I, J, F)) := by
  refine Sp.mk2 (Nat.le_of_ble_eq_true rfl) (L2 := [_, _, _]) rfl ?_
  refine wp_icN (pc := 0) (m := 0) d_147_0 (by decide) ?_
  refine wq_istore_n (pc := 1) (L2 := [_, _, _]) (i := 1) d_147_1 rfl (Nat.le_of_ble_eq_true rfl) rfl rfl ?_
  refine wp_icN (pc := 2) (m := 0) d_147_2 (by decide) ?_
  refine wq_istore_n (pc := 3) (L2 := [_, _, _]) (i := 2) d_147_3 rfl (Nat.le_of_ble_eq_true rfl) rfl rfl ?_
  exact ones_loop hx64 6 0 (by omega) 0 rfl
theorem neg9_lt {c : Nat} (h : c < 2 ^ 31) : (-9 : Int32) < nI c := by
  rw [Int32.lt_iff_toInt_lt, nI_toInt h]
  have : (-9 : Int32).toInt = -9 := by decide
  omega
theorem fdN_s (f : Nat → Nat) (i : Nat) : fdN f (i + 1) = if (fdN f i).2 < f (i + 1) ∨ (f (i + 1) = (fdN f i).2 ∧ pcn (i + 1) < pcn (fdN f i).1) then (i + 1, f (i + 1)) else fdN f i := rfl
set_option maxRecDepth 4000 in
theorem layDams_step {I0 : IT} {J : JT} {F : FT} {n rn q t : Nat} {ρ σ : SN} (hF : Fok F) (hRo0 : mRo I0 ρ n) (hW0 : mW (I0 177) 0 σ) (hρ : ∀ k j, ρ k j ≤ 9) (hrn : rn ≤ 9) (hok : okN t σ) (htq : t + q ≤ 1000) (i : Nat) (hi0 : i ≤ 2 ^ n) (I : IT) (x : Nat) (x5 : Option VV) (x6 : Option VV) (hsc : SCM I0 I) (hst : (i = 0 ∧ x = 0 ∧ I 173 17 = -9) ∨ ∃ k, i = k + 1 ∧ x = (fdN (cntB ρ n rn σ q) k).1 ∧ I 173 17 = nI (fdN (cntB ρ n rn σ q) k).2) (hx64 : x < 64)
    (ih0 : ∀ i', i < 2 ^ n → i' = i + 1 → ∀ (I : IT) (x : Nat) (x5 : Option VV) (x6 : Option VV), (SCM I0 I) → ((i' = 0 ∧ x = 0 ∧ I 173 17 = -9) ∨ ∃ k, i' = k + 1 ∧ x = (fdN (cntB ρ n rn σ q) k).1 ∧ I 173 17 = nI (fdN (cntB ρ n rn σ q) k).2) → (x < 64) → Wp none 145 (fun R => ∃ I2, R = (some (vI (nI (fdN (cntB ρ n rn σ q) (2 ^ n - 1)).1)), KK, I2, J, F) ∧ I2 173 17 = nI (fdN (cntB ρ n rn σ q) (2 ^ n - 1)).2 ∧ SCM I0 I2) 11 [some (vR 173), some (vI (nI q)), some (vI (nI rn)), some (vI (nI x)), some (vI (nI i')), x5, x6] [] KK I J F) : Wp none 145 (fun R => ∃ I2, R = (some (vI (nI (fdN (cntB ρ n rn σ q) (2 ^ n - 1)).1)), KK, I2, J, F) ∧ I2 173 17 = nI (fdN (cntB ρ n rn σ q) (2 ^ n - 1)).2 ∧ SCM I0 I2) 11 [some (vR 173), some (vI (nI q)), some (vI (nI rn)), some (vI (nI x)), some (vI (nI i)), x5, x6] [] KK I J F := by
  have hn6 := hRo0.1
  have hRo := hRo0.s hsc
  have hp64 := p64 hn6
  have hp1 := Nat.two_pow_pos n
  refine wp_iload (pc := 11) d_145_11 rfl ?_
  refine wp_icN (pc := 13) (m := 1) d_145_13 (by decide) ?_
  refine wp_aload_n (pc := 14) (i := 0) d_145_14 rfl rfl ?_
  refine wp_gI (pc := 15) d_145_15 fl_10_53 rfl ft_9_5 hRo.2.1 ?_
  refine wp_ishl (pc := 18) d_145_18 ?_
  rw [shl_c (by omega) (by omega), Nat.one_mul]
  refine wp_icmpN_ge (pc := 19) (tgt := 109) d_145_19 (by decide) (by omega) (by omega) (fun zq19 => ?_) (fun zq19 => ?_)
  · refine wp_iload_n (pc := 109) (i := 3) d_145_109 rfl rfl ?_
    rcases hst with ⟨g1, g2, g3⟩ | ⟨k, g1, g2, g3⟩
    · omega
    · exact wp_iret (pc := 110) d_145_110 (Or.inl rfl) ⟨_, by rw [g2, show k = 2 ^ n - 1 by omega], by rw [g3, show k = 2 ^ n - 1 by omega], hsc⟩
  · have hlt : i < 2 ^ n := zq19
    refine wp_aload_n (pc := 22) (i := 0) d_145_22 rfl rfl ?_
    refine wp_iload_n (pc := 23) (i := 1) d_145_23 rfl rfl ?_
    refine wp_iload_n (pc := 24) (i := 2) d_145_24 rfl rfl ?_
    refine wp_iload (pc := 25) d_145_25 rfl ?_
    refine wp_callV3v (pc := 27) d_145_27 lk_10_129 (by decide) rfl (Nat.le_of_ble_eq_true rfl) rfl rfl (m_goOn hF (hRo0.s hsc) hρ (show i < 64 by omega) hrn hok htq (hW0.s hsc)) (fun Iq27 hq27 => ?_)
    refine wp_aload_n (pc := 30) (i := 0) d_145_30 rfl rfl ?_
    refine wp_callV0p (pc := 31) d_145_31 lk_10_136 (by decide) rfl (Nat.le_of_ble_eq_true rfl) rfl rfl (m_servedE (v := cntB ρ n rn σ q i) rfl hF ((hRo0.s hsc).s (show SCP I Iq27 from hq27.2).M) hq27.1 hρ ((beh_ok hn6 hrn hρ hok q).g (by omega))) ?_
    refine wq_istore (pc := 34) (L2 := [_, _, _, _, _, _, _]) d_145_34 (Nat.le_of_ble_eq_true rfl) rfl rfl ?_
    have hcl : (cntB ρ n rn σ q) i ≤ 8 := cntB_le hn6
    rcases hst with ⟨g1, g2, g3⟩ | ⟨k, g1, g2, g3⟩
    · have hm27 := (congrFun (hq27.2.2 173 (by decide) (by decide) (by decide)) 17).trans g3
      refine wp_iload (pc := 36) d_145_36 rfl ?_
      refine wp_aload_n (pc := 38) (i := 0) d_145_38 rfl rfl ?_
      refine wp_gI (pc := 39) d_145_39 fl_10_133 rfl ft_9_17 hm27 ?_
      refine wp_icmp_gt (pc := 42) (tgt := 66) d_145_42 (by decide) (fun zq42 => ?_) (fun zq42 => ?_)
      · refine wp_icN (pc := 66) (m := 1) d_145_66 (by decide) ?_
        refine wp_goto (pc := 67) (tgt := 71) d_145_67 (by decide) ?_
        refine wq_istore (pc := 71) (L2 := [_, _, _, _, _, _, _]) d_145_71 (Nat.le_of_ble_eq_true rfl) rfl rfl ?_
        refine wp_iload (pc := 73) d_145_73 rfl ?_
        refine wp_ifN_eq (pc := 75) (tgt := 83) d_145_75 (by decide) (by decide) (fun zq75 => ?_) (fun zq75 => ?_)
        · exact absurd zq75 (by decide)
        · refine wp_iload (pc := 78) d_145_78 rfl ?_
          refine wp_goto (pc := 80) (tgt := 84) d_145_80 (by decide) ?_
          refine wq_istore_n (pc := 84) (L2 := [_, _, _, _, _, _, _]) (i := 3) d_145_84 rfl (Nat.le_of_ble_eq_true rfl) rfl rfl ?_
          refine wp_aload_n (pc := 85) (i := 0) d_145_85 rfl rfl ?_
          refine wp_iload (pc := 86) d_145_86 rfl ?_
          refine wp_ifN_eq (pc := 88) (tgt := 96) d_145_88 (by decide) (by decide) (fun zq88 => ?_) (fun zq88 => ?_)
          · exact absurd zq88 (by decide)
          · refine wp_iload (pc := 91) d_145_91 rfl ?_
            refine wp_goto (pc := 93) (tgt := 100) d_145_93 (by decide) ?_
            refine wp_pI (pc := 100) d_145_100 fl_10_133 rfl ft_9_17 rfl (fun Iq100 uq100 => ?_)
            refine wq_iincN (pc := 103) (L2 := [_, _, _, _, _, _, _]) d_145_103 rfl (b := 1) (by decide) rfl rfl ?_
            refine wp_goto (pc := 106) (tgt := 11) d_145_106 (by decide) ?_
            exact ih0 (i + 1) hlt rfl _ _ _ _ ((hsc.tr (show SCP I Iq27 from hq27.2).M).tr ⟨fun q2 h1 h2 h3 h4 => uq100.ne h4, fun k2 _ => by rw [uq100.off (by decide)], fun a ha => uq100.2 a (by omega)⟩) (Or.inr ⟨i, rfl, by subst g1; rfl, by rw [uq100.at]; subst g1; rfl⟩) (by omega)
      · exact absurd (neg9_lt (by omega)) zq42
    · have hm27 := (congrFun (hq27.2.2 173 (by decide) (by decide) (by decide)) 17).trans g3
      have hfl : (fdN (cntB ρ n rn σ q) k).2 ≤ 8 := by rw [fdN_v]; exact cntB_le hn6
      have hfk : (fdN (cntB ρ n rn σ q) k).1 ≤ k := fdN_le _ _
      refine wp_iload (pc := 36) d_145_36 rfl ?_
      refine wp_aload_n (pc := 38) (i := 0) d_145_38 rfl rfl ?_
      refine wp_gI (pc := 39) d_145_39 fl_10_133 rfl ft_9_17 hm27 ?_
      refine wp_icmpN_gt (pc := 42) (tgt := 66) d_145_42 (by decide) (by omega) (by omega) (fun zq42 => ?_) (fun zq42 => ?_)
      · refine wp_icN (pc := 66) (m := 1) d_145_66 (by decide) ?_
        refine wp_goto (pc := 67) (tgt := 71) d_145_67 (by decide) ?_
        refine wq_istore (pc := 71) (L2 := [_, _, _, _, _, _, _]) d_145_71 (Nat.le_of_ble_eq_true rfl) rfl rfl ?_
        refine wp_iload (pc := 73) d_145_73 rfl ?_
        refine wp_ifN_eq (pc := 75) (tgt := 83) d_145_75 (by decide) (by decide) (fun zq75 => ?_) (fun zq75 => ?_)
        · exact absurd zq75 (by decide)
        · refine wp_iload (pc := 78) d_145_78 rfl ?_
          refine wp_goto (pc := 80) (tgt := 84) d_145_80 (by decide) ?_
          refine wq_istore_n (pc := 84) (L2 := [_, _, _, _, _, _, _]) (i := 3) d_145_84 rfl (Nat.le_of_ble_eq_true rfl) rfl rfl ?_
          refine wp_aload_n (pc := 85) (i := 0) d_145_85 rfl rfl ?_
          refine wp_iload (pc := 86) d_145_86 rfl ?_
          refine wp_ifN_eq (pc := 88) (tgt := 96) d_145_88 (by decide) (by decide) (fun zq88 => ?_) (fun zq88 => ?_)
          · exact absurd zq88 (by decide)
          · refine wp_iload (pc := 91) d_145_91 rfl ?_
            refine wp_goto (pc := 93) (tgt := 100) d_145_93 (by decide) ?_
            refine wp_pI (pc := 100) d_145_100 fl_10_133 rfl ft_9_17 rfl (fun Iq100 uq100 => ?_)
            refine wq_iincN (pc := 103) (L2 := [_, _, _, _, _, _, _]) d_145_103 rfl (b := 1) (by decide) rfl rfl ?_
            refine wp_goto (pc := 106) (tgt := 11) d_145_106 (by decide) ?_
            have hc : (fdN (cntB ρ n rn σ q) k).2 < (cntB ρ n rn σ q) (k + 1) ∨ ((cntB ρ n rn σ q) (k + 1) = (fdN (cntB ρ n rn σ q) k).2 ∧ pcn (k + 1) < pcn (fdN (cntB ρ n rn σ q) k).1) := by
              rw [← g1, ← g2]
              exact Or.inl zq42
            exact ih0 (i + 1) hlt rfl _ _ _ _ ((hsc.tr (show SCP I Iq27 from hq27.2).M).tr ⟨fun q2 h1 h2 h3 h4 => uq100.ne h4, fun k2 _ => by rw [uq100.off (by decide)], fun a ha => uq100.2 a (by omega)⟩) (Or.inr ⟨i, rfl, by rw [g1, show (fdN (cntB ρ n rn σ q) (k + 1)).1 = k + 1 by unfold fdN; rw [if_pos hc]], by rw [uq100.at, g1, show (fdN (cntB ρ n rn σ q) (k + 1)).2 = (cntB ρ n rn σ q) (k + 1) by unfold fdN; rw [if_pos hc]]⟩) (by omega)
      · refine wp_iload (pc := 45) d_145_45 rfl ?_
        refine wp_aload_n (pc := 47) (i := 0) d_145_47 rfl rfl ?_
        refine wp_gI (pc := 48) d_145_48 fl_10_133 rfl ft_9_17 hm27 ?_
        refine wp_icmpN_ne (pc := 51) (tgt := 70) d_145_51 (by decide) (by omega) (by omega) (fun zq51 => ?_) (fun zq51 => ?_)
        · refine wp_icN (pc := 70) (m := 0) d_145_70 (by decide) ?_
          refine wq_istore (pc := 71) (L2 := [_, _, _, _, _, _, _]) d_145_71 (Nat.le_of_ble_eq_true rfl) rfl rfl ?_
          refine wp_iload (pc := 73) d_145_73 rfl ?_
          refine wp_ifN_eq (pc := 75) (tgt := 83) d_145_75 (by decide) (by decide) (fun zq75 => ?_) (fun zq75 => ?_)
          · refine wp_iload_n (pc := 83) (i := 3) d_145_83 rfl rfl ?_
            refine wq_istore_n (pc := 84) (L2 := [_, _, _, _, _, _, _]) (i := 3) d_145_84 rfl (Nat.le_of_ble_eq_true rfl) rfl rfl ?_
            refine wp_aload_n (pc := 85) (i := 0) d_145_85 rfl rfl ?_
            refine wp_iload (pc := 86) d_145_86 rfl ?_
            refine wp_ifN_eq (pc := 88) (tgt := 96) d_145_88 (by decide) (by decide) (fun zq88 => ?_) (fun zq88 => ?_)
            · refine wp_aload_n (pc := 96) (i := 0) d_145_96 rfl rfl ?_
              refine wp_gI (pc := 97) d_145_97 fl_10_133 rfl ft_9_17 hm27 ?_
              refine wp_pI (pc := 100) d_145_100 fl_10_133 rfl ft_9_17 rfl (fun Iq100 uq100 => ?_)
              refine wq_iincN (pc := 103) (L2 := [_, _, _, _, _, _, _]) d_145_103 rfl (b := 1) (by decide) rfl rfl ?_
              refine wp_goto (pc := 106) (tgt := 11) d_145_106 (by decide) ?_
              have hc : ¬ ((fdN (cntB ρ n rn σ q) k).2 < (cntB ρ n rn σ q) (k + 1) ∨ ((cntB ρ n rn σ q) (k + 1) = (fdN (cntB ρ n rn σ q) k).2 ∧ pcn (k + 1) < pcn (fdN (cntB ρ n rn σ q) k).1)) := by
                rw [← g1, ← g2]
                exact fun h => h.elim (fun h => absurd h (Nat.not_lt.mpr zq42)) (fun h => zq51 h.1)
              exact ih0 (i + 1) hlt rfl _ _ _ _ ((hsc.tr (show SCP I Iq27 from hq27.2).M).tr ⟨fun q2 h1 h2 h3 h4 => uq100.ne h4, fun k2 _ => by rw [uq100.off (by decide)], fun a ha => uq100.2 a (by omega)⟩) (Or.inr ⟨i, rfl, by rw [g1, show fdN (cntB ρ n rn σ q) (k + 1) = fdN (cntB ρ n rn σ q) k by rw [fdN_s, if_neg hc]]; exact g2, by rw [uq100.at, g1, show fdN (cntB ρ n rn σ q) (k + 1) = fdN (cntB ρ n rn σ q) k by rw [fdN_s, if_neg hc]]⟩) (by omega)
            · exact absurd rfl zq88
          · exact absurd rfl zq75
        · refine wp_iload (pc := 54) d_145_54 rfl ?_
          refine wp_callS1p (pc := 56) d_145_56 lk_10_139 (by decide) rfl (Nat.le_of_ble_eq_true rfl) (m_ones (xs := i) (by omega)) ?_
          refine wp_iload_n (pc := 59) (i := 3) d_145_59 rfl rfl ?_
          refine wp_callS1p (pc := 60) d_145_60 lk_10_139 (by decide) rfl (Nat.le_of_ble_eq_true rfl) (m_ones (xs := x) (by omega)) ?_
          refine wp_icmpN_ge (pc := 63) (tgt := 70) d_145_63 (by decide) (Nat.lt_of_le_of_lt (pcn_le i (by omega)) (by decide)) (Nat.lt_of_le_of_lt (pcn_le x (by omega)) (by decide)) (fun zq63 => ?_) (fun zq63 => ?_)
          · refine wp_icN (pc := 70) (m := 0) d_145_70 (by decide) ?_
            refine wq_istore (pc := 71) (L2 := [_, _, _, _, _, _, _]) d_145_71 (Nat.le_of_ble_eq_true rfl) rfl rfl ?_
            refine wp_iload (pc := 73) d_145_73 rfl ?_
            refine wp_ifN_eq (pc := 75) (tgt := 83) d_145_75 (by decide) (by decide) (fun zq75 => ?_) (fun zq75 => ?_)
            · refine wp_iload_n (pc := 83) (i := 3) d_145_83 rfl rfl ?_
              refine wq_istore_n (pc := 84) (L2 := [_, _, _, _, _, _, _]) (i := 3) d_145_84 rfl (Nat.le_of_ble_eq_true rfl) rfl rfl ?_
              refine wp_aload_n (pc := 85) (i := 0) d_145_85 rfl rfl ?_
              refine wp_iload (pc := 86) d_145_86 rfl ?_
              refine wp_ifN_eq (pc := 88) (tgt := 96) d_145_88 (by decide) (by decide) (fun zq88 => ?_) (fun zq88 => ?_)
              · refine wp_aload_n (pc := 96) (i := 0) d_145_96 rfl rfl ?_
                refine wp_gI (pc := 97) d_145_97 fl_10_133 rfl ft_9_17 hm27 ?_
                refine wp_pI (pc := 100) d_145_100 fl_10_133 rfl ft_9_17 rfl (fun Iq100 uq100 => ?_)
                refine wq_iincN (pc := 103) (L2 := [_, _, _, _, _, _, _]) d_145_103 rfl (b := 1) (by decide) rfl rfl ?_
                refine wp_goto (pc := 106) (tgt := 11) d_145_106 (by decide) ?_
                have hc : ¬ ((fdN (cntB ρ n rn σ q) k).2 < (cntB ρ n rn σ q) (k + 1) ∨ ((cntB ρ n rn σ q) (k + 1) = (fdN (cntB ρ n rn σ q) k).2 ∧ pcn (k + 1) < pcn (fdN (cntB ρ n rn σ q) k).1)) := by
                  rw [← g1, ← g2]
                  exact fun h => h.elim (fun h => absurd h (Nat.not_lt.mpr zq42)) (fun h => absurd h.2 (Nat.not_lt.mpr zq63))
                exact ih0 (i + 1) hlt rfl _ _ _ _ ((hsc.tr (show SCP I Iq27 from hq27.2).M).tr ⟨fun q2 h1 h2 h3 h4 => uq100.ne h4, fun k2 _ => by rw [uq100.off (by decide)], fun a ha => uq100.2 a (by omega)⟩) (Or.inr ⟨i, rfl, by rw [g1, show fdN (cntB ρ n rn σ q) (k + 1) = fdN (cntB ρ n rn σ q) k by rw [fdN_s, if_neg hc]]; exact g2, by rw [uq100.at, g1, show fdN (cntB ρ n rn σ q) (k + 1) = fdN (cntB ρ n rn σ q) k by rw [fdN_s, if_neg hc]]⟩) (by omega)
              · exact absurd rfl zq88
            · exact absurd rfl zq75
          · refine wp_icN (pc := 66) (m := 1) d_145_66 (by decide) ?_
            refine wp_goto (pc := 67) (tgt := 71) d_145_67 (by decide) ?_
            refine wq_istore (pc := 71) (L2 := [_, _, _, _, _, _, _]) d_145_71 (Nat.le_of_ble_eq_true rfl) rfl rfl ?_
            refine wp_iload (pc := 73) d_145_73 rfl ?_
            refine wp_ifN_eq (pc := 75) (tgt := 83) d_145_75 (by decide) (by decide) (fun zq75 => ?_) (fun zq75 => ?_)
            · exact absurd zq75 (by decide)
            · refine wp_iload (pc := 78) d_145_78 rfl ?_
              refine wp_goto (pc := 80) (tgt := 84) d_145_80 (by decide) ?_
              refine wq_istore_n (pc := 84) (L2 := [_, _, _, _, _, _, _]) (i := 3) d_145_84 rfl (Nat.le_of_ble_eq_true rfl) rfl rfl ?_
              refine wp_aload_n (pc := 85) (i := 0) d_145_85 rfl rfl ?_
              refine wp_iload (pc := 86) d_145_86 rfl ?_
              refine wp_ifN_eq (pc := 88) (tgt := 96) d_145_88 (by decide) (by decide) (fun zq88 => ?_) (fun zq88 => ?_)
              · exact absurd zq88 (by decide)
              · refine wp_iload (pc := 91) d_145_91 rfl ?_
                refine wp_goto (pc := 93) (tgt := 100) d_145_93 (by decide) ?_
                refine wp_pI (pc := 100) d_145_100 fl_10_133 rfl ft_9_17 rfl (fun Iq100 uq100 => ?_)
                refine wq_iincN (pc := 103) (L2 := [_, _, _, _, _, _, _]) d_145_103 rfl (b := 1) (by decide) rfl rfl ?_
                refine wp_goto (pc := 106) (tgt := 11) d_145_106 (by decide) ?_
                have hc : (fdN (cntB ρ n rn σ q) k).2 < (cntB ρ n rn σ q) (k + 1) ∨ ((cntB ρ n rn σ q) (k + 1) = (fdN (cntB ρ n rn σ q) k).2 ∧ pcn (k + 1) < pcn (fdN (cntB ρ n rn σ q) k).1) := by
                  rw [← g1, ← g2]
                  exact Or.inr ⟨zq51, zq63⟩
                exact ih0 (i + 1) hlt rfl _ _ _ _ ((hsc.tr (show SCP I Iq27 from hq27.2).M).tr ⟨fun q2 h1 h2 h3 h4 => uq100.ne h4, fun k2 _ => by rw [uq100.off (by decide)], fun a ha => uq100.2 a (by omega)⟩) (Or.inr ⟨i, rfl, by rw [g1, show (fdN (cntB ρ n rn σ q) (k + 1)).1 = k + 1 by unfold fdN; rw [if_pos hc]], by rw [uq100.at, g1, show (fdN (cntB ρ n rn σ q) (k + 1)).2 = (cntB ρ n rn σ q) (k + 1) by unfold fdN; rw [if_pos hc]]⟩) (by omega)
theorem layDams_loop {I0 : IT} {J : JT} {F : FT} {n rn q t : Nat} {ρ σ : SN} (hF : Fok F) (hRo0 : mRo I0 ρ n) (hW0 : mW (I0 177) 0 σ) (hρ : ∀ k j, ρ k j ≤ 9) (hrn : rn ≤ 9) (hok : okN t σ) (htq : t + q ≤ 1000) : ∀ (d i : Nat), i + d = 2 ^ n → ∀ (I : IT) (x : Nat) (x5 : Option VV) (x6 : Option VV), (SCM I0 I) → ((i = 0 ∧ x = 0 ∧ I 173 17 = -9) ∨ ∃ k, i = k + 1 ∧ x = (fdN (cntB ρ n rn σ q) k).1 ∧ I 173 17 = nI (fdN (cntB ρ n rn σ q) k).2) → (x < 64) → Wp none 145 (fun R => ∃ I2, R = (some (vI (nI (fdN (cntB ρ n rn σ q) (2 ^ n - 1)).1)), KK, I2, J, F) ∧ I2 173 17 = nI (fdN (cntB ρ n rn σ q) (2 ^ n - 1)).2 ∧ SCM I0 I2) 11 [some (vR 173), some (vI (nI q)), some (vI (nI rn)), some (vI (nI x)), some (vI (nI i)), x5, x6] [] KK I J F := by
  intro d
  induction d with
  | zero =>
    intro i hid I x x5 x6 hsc hst hx64
    exact layDams_step hF hRo0 hW0 hρ hrn hok htq i (by omega) I x x5 x6 hsc hst hx64 (fun i' hlt => absurd hlt (by omega))
  | succ d ih =>
    intro i hid I x x5 x6 hsc hst hx64
    exact layDams_step hF hRo0 hW0 hρ hrn hok htq i (by omega) I x x5 x6 hsc hst hx64 (fun i' hlt he => ih i' (by omega))

set_option maxRecDepth 4000 in
theorem m_layDams {I0 : IT} {J : JT} {F : FT} {n rn q t : Nat} {ρ σ : SN} (hF : Fok F) (hRo0 : mRo I0 ρ n) (hW0 : mW (I0 177) 0 σ) (hρ : ∀ k j, ρ k j ≤ 9) (hrn : rn ≤ 9) (hok : okN t σ) (htq : t + q ≤ 1000) : Sp 145 [vR 173, vI (nI q), vI (nI rn)] KK I0 J F (fun R => ∃ I2, R = (some (vI (nI (fdN (cntB ρ n rn σ q) (2 ^ n - 1)).1)), KK, I2, J, F) ∧ I2 173 17 = nI (fdN (cntB ρ n rn σ q) (2 ^ n - 1)).2 ∧ SCM I0 I2) := by
  refine Sp.mk2 (Nat.le_of_ble_eq_true rfl) (L2 := [_, _, _, _, _, _, _]) rfl ?_
  refine wp_icN (pc := 0) (m := 0) d_145_0 (by decide) ?_
  refine wq_istore_n (pc := 1) (L2 := [_, _, _, _, _, _, _]) (i := 3) d_145_1 rfl (Nat.le_of_ble_eq_true rfl) rfl rfl ?_
  refine wp_aload_n (pc := 2) (i := 0) d_145_2 rfl rfl ?_
  refine wp_bipush (pc := 3) (v := (-9)) d_145_3 (by decide) ?_
  refine wp_pI (pc := 5) d_145_5 fl_10_133 rfl ft_9_17 rfl (fun Iq5 uq5 => ?_)
  refine wp_icN (pc := 8) (m := 0) d_145_8 (by decide) ?_
  refine wq_istore (pc := 9) (L2 := [_, _, _, _, _, _, _]) d_145_9 (Nat.le_of_ble_eq_true rfl) rfl rfl ?_
  exact layDams_loop hF hRo0 hW0 hρ hrn hok htq (2 ^ n) 0 (by omega) _ 0 _ _ ⟨fun q2 h1 h2 h3 h4 => uq5.ne h4, fun k _ => by rw [uq5.off (by decide)], fun a ha => uq5.2 a (by omega)⟩ (Or.inl ⟨rfl, rfl, uq5.at⟩) (by decide)
