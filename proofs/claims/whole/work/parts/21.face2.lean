def upf (f : Nat → SN) (i : Nat) (v : SN) : Nat → SN := fun k => if k = i then v else f k
def upb (f : Nat → Bool) (i : Nat) : Nat → Bool := fun k => if k = i then true else f k
theorem cAc.rem {I I2 : IT} {rg : Nat → SN} {nx na : Nat} {σ : SN} (h : cAc I rg nx na) (hnx : nx < 12) (q1 : atW I2 (24 + 8 + 5 * nx) σ) (q2 : I2 23 1 = nI ((nx + 1) % 12)) (q3 : I2 23 2 = nI (min (na + 1) 12)) (q4 : ∀ a, a ≠ 23 → a ≠ 31 → (a < 24 + 8 + 5 * nx ∨ 24 + 8 + 5 * nx + 4 < a) → I2 a = I a) : cAc I2 (upf rg nx σ) ((nx + 1) % 12) (min (na + 1) 12) := by
  refine ⟨q2, q3, fun i hi => ?_⟩
  unfold upf
  by_cases e : i = nx
  · rw [if_pos e, e]; exact q1
  · rw [if_neg e]; exact atWk (h.2.2 i hi) (fun a h1 h2 => q4 a (by omega) (by omega) (by omega))
theorem cSl.put {I Im I2 : IT} {sl : Nat → SN} {sf : Nat → Bool} {i : Nat} {σ : SN} (h : cSl I sl sf) (hi : i < 2) (q1 : atW Im (155 + 8 + 5 * i) σ) (q2 : offW (155 + 8 + 5 * i) I Im) (q3 : Up Im I2 (155 + 7) i (nI 1)) : cSl I2 (upf sl i σ) (upb sf i) := by
  refine ⟨fun j hj => ?_, fun j hj => ?_⟩
  · unfold upf
    by_cases e : j = i
    · rw [if_pos e, e]; exact atWk q1 (fun a h1 h2 => q3.2 a (by omega))
    · rw [if_neg e]; exact atWk (h.1 j hj) (fun a h1 h2 => (q3.2 a (by omega)).trans (q2 a (by omega)))
  · unfold upb
    by_cases e : j = i
    · rw [if_pos e, e]; exact q3.at
    · rw [if_neg e]; exact (q3.ne e).trans ((congrFun (q2 162 (by omega)) j).trans (h.2 j hj))
/-- some water is taken away, soap with it -/
def tkN (σ : SN) (j g : Nat) : SN := s2 (s2 σ 0 j (σ 0 j - g)) 1 j (σ 1 j - alg (σ 1 j) g (σ 0 j))
theorem atW_take {I I2 : IT} {w j g : Nat} {σ : SN} (hA : atW I w σ) (h0 : I2 (w + 1 + 0) j = nI (σ 0 j - g)) (h1 : I2 (w + 1 + 1) j = nI (σ 1 j - alg (σ 1 j) g (σ 0 j))) (ho : offC w j I I2) : atW I2 w (tkN σ j g) := by
  refine ⟨fun k hk j2 hj2 => ?_, fun q g1 g2 => ?_⟩
  · unfold tkN
    by_cases e1 : k = 1 ∧ j2 = j
    · rw [e1.1, e1.2, s2_eq]; exact h1
    · by_cases e0 : k = 0 ∧ j2 = j
      · rw [e0.1, e0.2, s2_nk (by decide), s2_eq]; exact h0
      · have h9 : s2 (s2 σ 0 j (σ 0 j - g)) 1 j (σ 1 j - alg (σ 1 j) g (σ 0 j)) k j2 = σ k j2 := by unfold s2; rw [if_neg e1, if_neg e0]
        rw [h9, ho.1 k hk j2 (by omega)]; exact hA.1 k hk j2 hj2
  · show I2 w q = nI (s2 (s2 σ 0 j (σ 0 j - g)) 1 j (σ 1 j - alg (σ 1 j) g (σ 0 j)) 4 q)
    rw [s2_nk (by decide), s2_nk (by decide), ho.2.1 q]; exact hA.2 q g1 g2
theorem xor_c : ∀ d, d < 64 → ∀ j, j < 6 → nI d ^^^ nI (2 ^ j) = nI (d ^^^ 2 ^ j) := by decide +kernel
def q_dam (tx : Nat → Nat) (tl : Nat) (ρ : SN) (n : Nat) (σ : SN) (rg : Nat → SN) (nx na : Nat) (γ : SN) (gn : Nat) (sl : Nat → SN) (sf : Nat → Bool) (sd : Int64) (x : Int32) (p : Bool) : Int32 × SS := if inR x n = true then (if (σ 4 7).testBit x.toNatClampNeg = p then (0, (tx, tl, ρ, n, σ, rg, nx, na, γ, gn, sl, sf, sd)) else (1, (tx, tl, ρ, n, s2 σ 4 7 ((σ 4 7) ^^^ 2 ^ x.toNatClampNeg), rg, nx, na, γ, gn, sl, sf, sd))) else (-1, (tx, tl, ρ, n, σ, rg, nx, na, γ, gn, sl, sf, sd))
set_option maxRecDepth 4000 in
theorem c_gdam {I : IT} {J : JT} {F : FT} {t : Nat} {tx : Nat → Nat} {tl : Nat} {ρ : SN} {n : Nat} {σ : SN} {rg : Nat → SN} {nx na : Nat} {γ : SN} {gn : Nat} {sl : Nat → SN} {sf : Nat → Bool} {sd : Int64} (hF : Fok F) (hC : CR I J tx tl ρ n σ rg nx na γ gn sl sf sd) (hO : OKS t tx tl ρ n σ rg nx na γ gn sl sf) (ht : t + 100 ≤ 1000) {x : Int32} {p : Bool} : Sp 94 [vR 1, vI x, vI (b2 p)] KK I J F (PQ (q_dam tx tl ρ n σ rg nx na γ gn sl sf sd x p) I J F) := by
  have hC0 := hC
  obtain ⟨hCT, hR, hA, hCA, hG, hCS, hsd⟩ := hC
  obtain ⟨ht40, hx256, hρ, hok, hrg, hnx, hna, hgo, hsl, hz, hzr, hzs, hn6⟩ := hO
  refine Sp.mk2 (Nat.le_of_ble_eq_true rfl) (L2 := [_, _, _]) rfl ?_
  refine wp_aload_n (pc := 0) (i := 0) d_94_0 rfl rfl ?_
  refine wp_gA (pc := 1) d_94_1 fl_9_26 rfl ft_8_2 (F_1_2 hF) ?_
  refine wp_iload_n (pc := 4) (i := 1) d_94_4 rfl rfl ?_
  refine wp_callV1p (pc := 5) d_94_5 lk_9_112 (by decide) rfl (Nat.le_of_ble_eq_true rfl) (kR isR12) rfl (c_has isR12 hR x) ?_
  refine wp_ifB_ne (pc := 8) (tgt := 13) d_94_8 (by decide) (fun zq8 => ?_) (fun zq8 => ?_)
  · obtain ⟨jr, hjr, hxjr⟩ := inR_t zq8 (by omega)
    subst hxjr
    have hcjr : (nI jr).toNatClampNeg = jr := nI_clamp (by omega)
    refine wp_aload_n (pc := 13) (i := 0) d_94_13 rfl rfl ?_
    refine wp_gA (pc := 14) d_94_14 fl_9_33 rfl ft_8_3 (F_1_3 hF) ?_
    refine wp_callV0p (pc := 17) d_94_17 lk_9_132 (by decide) rfl (Nat.le_of_ble_eq_true rfl) (kW isW18) rfl (c_damBits isW18 (hA.2 7 (by decide) (by decide))) ?_
    refine wp_iload_n (pc := 20) (i := 1) d_94_20 rfl rfl ?_
    refine wp_callS2p (pc := 21) d_94_21 lk_9_135 (by decide) rfl (Nat.le_of_ble_eq_true rfl) (c_holds hok.2.2.2.2.2 (by omega)) ?_
    refine wp_iload_n (pc := 24) (i := 2) d_94_24 rfl rfl ?_
    refine wp_icmp_ne (pc := 25) (tgt := 30) d_94_25 (by decide) (fun zq25 => ?_) (fun zq25 => ?_)
    · refine wp_aload_n (pc := 30) (i := 0) d_94_30 rfl rfl ?_
      refine wp_gA (pc := 31) d_94_31 fl_9_33 rfl ft_8_3 (F_1_3 hF) ?_
      refine wp_aload_n (pc := 34) (i := 0) d_94_34 rfl rfl ?_
      refine wp_gA (pc := 35) d_94_35 fl_9_33 rfl ft_8_3 (F_1_3 hF) ?_
      refine wp_callV0p (pc := 38) d_94_38 lk_9_132 (by decide) rfl (Nat.le_of_ble_eq_true rfl) (kW isW18) rfl (c_damBits isW18 (hA.2 7 (by decide) (by decide))) ?_
      refine wp_iload_n (pc := 41) (i := 1) d_94_41 rfl rfl ?_
      refine wp_callS1p (pc := 42) d_94_42 lk_9_151 (by decide) rfl (Nat.le_of_ble_eq_true rfl) (c_bit (j := jr) (by omega)) ?_
      refine wp_ixor (pc := 45) d_94_45 ?_
      rw [xor_c _ hok.2.2.2.2.2 _ (by omega)]
      refine wp_callV1v (pc := 46) d_94_46 lk_9_154 (by decide) rfl (Nat.le_of_ble_eq_true rfl) (kW isW18) rfl (c_setDams isW18 hA _) (fun Iq46 hq46 => ?_)
      refine wp_icN (pc := 49) (m := 1) d_94_49 (by decide) ?_
      exact wp_iret (pc := 50) d_94_50 (Or.inl rfl) (PQ.mk (by unfold q_dam; rw [if_pos zq8, hcjr, if_neg (fun h => zq25 (b2_inj.mpr h))]; rfl) ⟨hCT.k (fun a _ _ => hq46.2 a (by omega)), atR_keep hR (fun a _ _ => hq46.2 a (by omega)), hq46.1, hCA.k (fun a _ _ => hq46.2 a (by omega)), hG.k (fun a _ _ => hq46.2 a (by omega)) (by rw [hq46.2 151 (by omega)]), hCS.k (fun a _ _ => hq46.2 a (by omega)), hsd⟩ ⟨fun a _ => hq46.2 a (by omega), rfl⟩)
    · refine wp_icN (pc := 28) (m := 0) d_94_28 (by decide) ?_
      exact wp_iret (pc := 29) d_94_29 (Or.inl rfl) (PQ.mk (by unfold q_dam; rw [if_pos zq8, hcjr, if_pos (b2_inj.mp zq25)]; rfl) hC0 ⟨fun _ _ => rfl, rfl⟩)
  · refine wp_iconst (pc := 11) (v := (-1)) d_94_11 (by decide) ?_
    exact wp_iret (pc := 12) d_94_12 (Or.inl rfl) (PQ.mk (by unfold q_dam; rw [if_neg (nT zq8)]) hC0 ⟨fun _ _ => rfl, rfl⟩)
def q_quarter (tx : Nat → Nat) (tl : Nat) (ρ : SN) (n : Nat) (σ : SN) (rg : Nat → SN) (nx na : Nat) (γ : SN) (gn : Nat) (sl : Nat → SN) (sf : Nat → Bool) (sd : Int64) (x : Int32) : Int32 × SS := if inB x (nI 0) (nI 9) = true then (nI (prv (goN ρ (σ 4 7) x.toNatClampNeg σ) n), (tx, tl, ρ, n, passN ρ n (σ 4 7) x.toNatClampNeg σ, upf rg nx σ, ((nx + 1) % 12), (min (na + 1) 12), γ, gn, sl, sf, sd)) else (-2, (tx, tl, ρ, n, σ, rg, nx, na, γ, gn, sl, sf, sd))
set_option maxRecDepth 4000 in
theorem c_gquarter {I : IT} {J : JT} {F : FT} {t : Nat} {tx : Nat → Nat} {tl : Nat} {ρ : SN} {n : Nat} {σ : SN} {rg : Nat → SN} {nx na : Nat} {γ : SN} {gn : Nat} {sl : Nat → SN} {sf : Nat → Bool} {sd : Int64} (hF : Fok F) (hC : CR I J tx tl ρ n σ rg nx na γ gn sl sf sd) (hO : OKS t tx tl ρ n σ rg nx na γ gn sl sf) (ht : t + 100 ≤ 1000) {x : Int32} : Sp 95 [vR 1, vI x] KK I J F (PQ (q_quarter tx tl ρ n σ rg nx na γ gn sl sf sd x) I J F) := by
  have hC0 := hC
  obtain ⟨hCT, hR, hA, hCA, hG, hCS, hsd⟩ := hC
  obtain ⟨ht40, hx256, hρ, hok, hrg, hnx, hna, hgo, hsl, hz, hzr, hzs, hn6⟩ := hO
  refine Sp.mk2 (Nat.le_of_ble_eq_true rfl) (L2 := [_, _]) rfl ?_
  refine wp_iload_n (pc := 0) (i := 1) d_95_0 rfl rfl ?_
  refine wp_callS1p (pc := 1) d_95_1 lk_9_157 (by decide) rfl (Nat.le_of_ble_eq_true rfl) (c_isRain x) ?_
  refine wp_ifB_ne (pc := 4) (tgt := 10) d_95_4 (by decide) (fun zq4 => ?_) (fun zq4 => ?_)
  · obtain ⟨rn, h0rn, h1rn, hxrn⟩ := inB_t zq4 (by decide) (by decide)
    subst hxrn
    have hcrn : (nI rn).toNatClampNeg = rn := nI_clamp (by omega)
    refine wp_aload_n (pc := 10) (i := 0) d_95_10 rfl rfl ?_
    refine wp_gA (pc := 11) d_95_11 fl_9_40 rfl ft_8_4 (F_1_4 hF) ?_
    refine wp_aload_n (pc := 14) (i := 0) d_95_14 rfl rfl ?_
    refine wp_gA (pc := 15) d_95_15 fl_9_33 rfl ft_8_3 (F_1_3 hF) ?_
    refine wp_callV1v (pc := 18) d_95_18 lk_9_160 (by decide) rfl (Nat.le_of_ble_eq_true rfl) rfl rfl (c_remember hF isW18 (by decide) hA hCA.1 hCA.2.1 hnx hna) (fun Iq18 hq18 => ?_)
    obtain ⟨hr1, hr2, hr3, hr4⟩ := hq18
    have hrA := atWk hA (fun a _ _ => hr4 a (by omega) (by omega) (by omega))
    have hrR := atR_keep hR (fun a _ _ => hr4 a (by omega) (by omega) (by omega))
    have hrC := hCA.rem hnx hr1 hr2 hr3 hr4
    refine wp_aload_n (pc := 21) (i := 0) d_95_21 rfl rfl ?_
    refine wp_gA (pc := 22) d_95_22 fl_9_33 rfl ft_8_3 (F_1_3 hF) ?_
    refine wp_aload_n (pc := 25) (i := 0) d_95_25 rfl rfl ?_
    refine wp_gA (pc := 26) d_95_26 fl_9_26 rfl ft_8_2 (F_1_2 hF) ?_
    refine wp_aload_n (pc := 29) (i := 0) d_95_29 rfl rfl ?_
    refine wp_gA (pc := 30) d_95_30 fl_9_33 rfl ft_8_3 (F_1_3 hF) ?_
    refine wp_callV0p (pc := 33) d_95_33 lk_9_132 (by decide) rfl (Nat.le_of_ble_eq_true rfl) (kW isW18) rfl (c_damBits isW18 (hrA.2 7 (by decide) (by decide))) ?_
    refine wp_iload_n (pc := 36) (i := 1) d_95_36 rfl rfl ?_
    refine wp_callV3e (pc := 37) d_95_37 lk_9_164 (by decide) rfl (Nat.le_of_ble_eq_true rfl) (kW isW18) rfl (c_pass hF isW18 isR12 hρ hok.2.2.2.2.2 (by omega) (ok29 hok (by omega) hn6) hrA hrR) (fun Iq37 hq37 => ?_)
    have hoz : ∀ a, (a < 18 ∨ 91 < a) → Iq37 a = I a := fun a ha => by rw [hq37.2 a (by omega), hr4 a (by omega) (by omega) (by omega)]
    exact wp_iret (pc := 40) d_95_40 (Or.inl rfl) (PQ.mk (by unfold q_quarter; rw [if_pos zq4, hcrn]) ⟨hCT.k (fun a _ _ => hoz a (by omega)), atR_keep hR (fun a _ _ => hoz a (by omega)), hq37.1, hrC.k (fun a _ _ => hq37.2 a (by omega)), hG.k (fun a _ _ => hoz a (by omega)) (by rw [hoz 151 (by omega)]), hCS.k (fun a _ _ => hoz a (by omega)), hsd⟩ ⟨fun a _ => hoz a (by omega), rfl⟩)
  · refine wp_bipush (pc := 7) (v := (-2)) d_95_7 (by decide) ?_
    exact wp_iret (pc := 9) d_95_9 (Or.inl rfl) (PQ.mk (by unfold q_quarter; rw [if_neg (nT zq4)]) hC0 ⟨fun _ _ => rfl, rfl⟩)
def q_pail (tx : Nat → Nat) (tl : Nat) (ρ : SN) (n : Nat) (σ : SN) (rg : Nat → SN) (nx na : Nat) (γ : SN) (gn : Nat) (sl : Nat → SN) (sf : Nat → Bool) (sd : Int64) (x y : Int32) : Int32 × SS := if inR x n = true then (if inB y (nI 1) (nI 9) = true then (if σ 0 x.toNatClampNeg < y.toNatClampNeg then (-3, (tx, tl, ρ, n, σ, rg, nx, na, γ, gn, sl, sf, sd)) else (nI (alg (σ 1 x.toNatClampNeg) y.toNatClampNeg (σ 0 x.toNatClampNeg)), (tx, tl, ρ, n, tkN σ x.toNatClampNeg y.toNatClampNeg, upf rg nx σ, ((nx + 1) % 12), (min (na + 1) 12), γ, gn, sl, sf, sd))) else (-2, (tx, tl, ρ, n, σ, rg, nx, na, γ, gn, sl, sf, sd))) else (-1, (tx, tl, ρ, n, σ, rg, nx, na, γ, gn, sl, sf, sd))
def q_soap (tx : Nat → Nat) (tl : Nat) (ρ : SN) (n : Nat) (σ : SN) (rg : Nat → SN) (nx na : Nat) (γ : SN) (gn : Nat) (sl : Nat → SN) (sf : Nat → Bool) (sd : Int64) (x y : Int32) : Int32 × SS := if inR x n = true then (if inB y (nI 1) (nI 9) = true then (if σ 0 x.toNatClampNeg < 1 then (-3, (tx, tl, ρ, n, σ, rg, nx, na, γ, gn, sl, sf, sd)) else if 99 - y.toNatClampNeg < σ 1 x.toNatClampNeg then (-4, (tx, tl, ρ, n, σ, rg, nx, na, γ, gn, sl, sf, sd)) else (nI (σ 1 x.toNatClampNeg + y.toNatClampNeg), (tx, tl, ρ, n, s2 σ 1 x.toNatClampNeg (σ 1 x.toNatClampNeg + y.toNatClampNeg), upf rg nx σ, ((nx + 1) % 12), (min (na + 1) 12), γ, gn, sl, sf, sd))) else (-2, (tx, tl, ρ, n, σ, rg, nx, na, γ, gn, sl, sf, sd))) else (-1, (tx, tl, ρ, n, σ, rg, nx, na, γ, gn, sl, sf, sd))
set_option maxRecDepth 4000 in
theorem c_gpail {I : IT} {J : JT} {F : FT} {t : Nat} {tx : Nat → Nat} {tl : Nat} {ρ : SN} {n : Nat} {σ : SN} {rg : Nat → SN} {nx na : Nat} {γ : SN} {gn : Nat} {sl : Nat → SN} {sf : Nat → Bool} {sd : Int64} (hF : Fok F) (hC : CR I J tx tl ρ n σ rg nx na γ gn sl sf sd) (hO : OKS t tx tl ρ n σ rg nx na γ gn sl sf) (ht : t + 100 ≤ 1000) {x y : Int32} : Sp 97 [vR 1, vI x, vI y] KK I J F (PQ (q_pail tx tl ρ n σ rg nx na γ gn sl sf sd x y) I J F) := by
  have hC0 := hC
  obtain ⟨hCT, hR, hA, hCA, hG, hCS, hsd⟩ := hC
  obtain ⟨ht40, hx256, hρ, hok, hrg, hnx, hna, hgo, hsl, hz, hzr, hzs, hn6⟩ := hO
  refine Sp.mk2 (Nat.le_of_ble_eq_true rfl) (L2 := [_, _, _]) rfl ?_
  refine wp_aload_n (pc := 0) (i := 0) d_97_0 rfl rfl ?_
  refine wp_gA (pc := 1) d_97_1 fl_9_26 rfl ft_8_2 (F_1_2 hF) ?_
  refine wp_iload_n (pc := 4) (i := 1) d_97_4 rfl rfl ?_
  refine wp_callV1p (pc := 5) d_97_5 lk_9_112 (by decide) rfl (Nat.le_of_ble_eq_true rfl) (kR isR12) rfl (c_has isR12 hR x) ?_
  refine wp_ifB_ne (pc := 8) (tgt := 13) d_97_8 (by decide) (fun zq8 => ?_) (fun zq8 => ?_)
  · obtain ⟨jr, hjr, hxjr⟩ := inR_t zq8 (by omega)
    subst hxjr
    have hcjr : (nI jr).toNatClampNeg = jr := nI_clamp (by omega)
    refine wp_iload_n (pc := 13) (i := 2) d_97_13 rfl rfl ?_
    refine wp_icN (pc := 14) (m := 1) d_97_14 (by decide) ?_
    refine wp_bpN (pc := 15) (m := 9) d_97_15 (by decide) ?_
    refine wp_callS3p (pc := 17) d_97_17 lk_9_168 (by decide) rfl (Nat.le_of_ble_eq_true rfl) (c_isWithin y (nI 1) (nI 9)) ?_
    refine wp_ifB_ne (pc := 20) (tgt := 26) d_97_20 (by decide) (fun zq20 => ?_) (fun zq20 => ?_)
    · obtain ⟨rgg, h0rgg, h1rgg, hxrgg⟩ := inB_t zq20 (by decide) (by decide)
      subst hxrgg
      have hcrgg : (nI rgg).toNatClampNeg = rgg := nI_clamp (by omega)
      refine wp_aload_n (pc := 26) (i := 0) d_97_26 rfl rfl ?_
      refine wp_gA (pc := 27) d_97_27 fl_9_33 rfl ft_8_3 (F_1_3 hF) ?_
      refine wp_iload_n (pc := 30) (i := 1) d_97_30 rfl rfl ?_
      refine wp_callV1p (pc := 31) d_97_31 lk_9_115 (by decide) rfl (Nat.le_of_ble_eq_true rfl) (kW isW18) rfl (c_waterOn hF isW18 (by omega) (hA.1 0 (by decide) jr (by omega))) ?_
      refine wp_iload_n (pc := 34) (i := 2) d_97_34 rfl rfl ?_
      refine wp_icmpN_ge (pc := 35) (tgt := 41) d_97_35 (by decide) (by have := hok.b (by omega) jr (by omega); omega) (by omega) (fun zq35 => ?_) (fun zq35 => ?_)
      · refine wp_aload_n (pc := 41) (i := 0) d_97_41 rfl rfl ?_
        refine wp_gA (pc := 42) d_97_42 fl_9_40 rfl ft_8_4 (F_1_4 hF) ?_
        refine wp_aload_n (pc := 45) (i := 0) d_97_45 rfl rfl ?_
        refine wp_gA (pc := 46) d_97_46 fl_9_33 rfl ft_8_3 (F_1_3 hF) ?_
        refine wp_callV1v (pc := 49) d_97_49 lk_9_160 (by decide) rfl (Nat.le_of_ble_eq_true rfl) rfl rfl (c_remember hF isW18 (by decide) hA hCA.1 hCA.2.1 hnx hna) (fun Iq49 hq49 => ?_)
        obtain ⟨hr1, hr2, hr3, hr4⟩ := hq49
        have hrA := atWk hA (fun a _ _ => hr4 a (by omega) (by omega) (by omega))
        have hrR := atR_keep hR (fun a _ _ => hr4 a (by omega) (by omega) (by omega))
        have hrC := hCA.rem hnx hr1 hr2 hr3 hr4
        refine wp_aload_n (pc := 52) (i := 0) d_97_52 rfl rfl ?_
        refine wp_gA (pc := 53) d_97_53 fl_9_33 rfl ft_8_3 (F_1_3 hF) ?_
        refine wp_iload_n (pc := 56) (i := 1) d_97_56 rfl rfl ?_
        refine wp_iload_n (pc := 57) (i := 2) d_97_57 rfl rfl ?_
        refine wp_callV2e (pc := 58) d_97_58 lk_9_172 (by decide) rfl (Nat.le_of_ble_eq_true rfl) (kW isW18) rfl (c_takeAway hF isW18 (by omega) (hrA.1 0 (by decide) jr (by omega)) (hrA.1 1 (by decide) jr (by omega)) zq35 (by have := hok.b (by omega) jr (by omega); omega) (by have := hok.b (by omega) jr (by omega); omega)) (fun Iq58 hq58 => ?_)
        have hoz : ∀ a, (a < 18 ∨ 91 < a) → Iq58 a = I a := fun a ha => by rw [hq58.2.2.2.2 a (by omega), hr4 a (by omega) (by omega) (by omega)]
        exact wp_iret (pc := 61) d_97_61 (Or.inl rfl) (PQ.mk (by unfold q_pail; rw [if_pos zq8, if_pos zq20, hcjr, hcrgg, if_neg (Nat.not_lt.mpr zq35)]) ⟨hCT.k (fun a _ _ => hoz a (by omega)), atR_keep hR (fun a _ _ => hoz a (by omega)), atW_take hrA hq58.1 hq58.2.1 hq58.2.2, hrC.k (fun a _ _ => hq58.2.2.2.2 a (by omega)), hG.k (fun a _ _ => hoz a (by omega)) (by rw [hoz 151 (by omega)]), hCS.k (fun a _ _ => hoz a (by omega)), hsd⟩ ⟨fun a _ => hoz a (by omega), rfl⟩)
      · refine wp_bipush (pc := 38) (v := (-3)) d_97_38 (by decide) ?_
        exact wp_iret (pc := 40) d_97_40 (Or.inl rfl) (PQ.mk (by unfold q_pail; rw [if_pos zq8, if_pos zq20, hcjr, hcrgg, if_pos zq35]) hC0 ⟨fun _ _ => rfl, rfl⟩)
    · refine wp_bipush (pc := 23) (v := (-2)) d_97_23 (by decide) ?_
      exact wp_iret (pc := 25) d_97_25 (Or.inl rfl) (PQ.mk (by unfold q_pail; rw [if_pos zq8, if_neg (nT zq20)]) hC0 ⟨fun _ _ => rfl, rfl⟩)
  · refine wp_iconst (pc := 11) (v := (-1)) d_97_11 (by decide) ?_
    exact wp_iret (pc := 12) d_97_12 (Or.inl rfl) (PQ.mk (by unfold q_pail; rw [if_neg (nT zq8)]) hC0 ⟨fun _ _ => rfl, rfl⟩)
set_option maxRecDepth 4000 in
theorem c_gsoap {I : IT} {J : JT} {F : FT} {t : Nat} {tx : Nat → Nat} {tl : Nat} {ρ : SN} {n : Nat} {σ : SN} {rg : Nat → SN} {nx na : Nat} {γ : SN} {gn : Nat} {sl : Nat → SN} {sf : Nat → Bool} {sd : Int64} (hF : Fok F) (hC : CR I J tx tl ρ n σ rg nx na γ gn sl sf sd) (hO : OKS t tx tl ρ n σ rg nx na γ gn sl sf) (ht : t + 100 ≤ 1000) {x y : Int32} : Sp 98 [vR 1, vI x, vI y] KK I J F (PQ (q_soap tx tl ρ n σ rg nx na γ gn sl sf sd x y) I J F) := by
  have hC0 := hC
  obtain ⟨hCT, hR, hA, hCA, hG, hCS, hsd⟩ := hC
  obtain ⟨ht40, hx256, hρ, hok, hrg, hnx, hna, hgo, hsl, hz, hzr, hzs, hn6⟩ := hO
  refine Sp.mk2 (Nat.le_of_ble_eq_true rfl) (L2 := [_, _, _]) rfl ?_
  refine wp_aload_n (pc := 0) (i := 0) d_98_0 rfl rfl ?_
  refine wp_gA (pc := 1) d_98_1 fl_9_26 rfl ft_8_2 (F_1_2 hF) ?_
  refine wp_iload_n (pc := 4) (i := 1) d_98_4 rfl rfl ?_
  refine wp_callV1p (pc := 5) d_98_5 lk_9_112 (by decide) rfl (Nat.le_of_ble_eq_true rfl) (kR isR12) rfl (c_has isR12 hR x) ?_
  refine wp_ifB_ne (pc := 8) (tgt := 13) d_98_8 (by decide) (fun zq8 => ?_) (fun zq8 => ?_)
  · obtain ⟨jr, hjr, hxjr⟩ := inR_t zq8 (by omega)
    subst hxjr
    have hcjr : (nI jr).toNatClampNeg = jr := nI_clamp (by omega)
    refine wp_iload_n (pc := 13) (i := 2) d_98_13 rfl rfl ?_
    refine wp_icN (pc := 14) (m := 1) d_98_14 (by decide) ?_
    refine wp_bpN (pc := 15) (m := 9) d_98_15 (by decide) ?_
    refine wp_callS3p (pc := 17) d_98_17 lk_9_168 (by decide) rfl (Nat.le_of_ble_eq_true rfl) (c_isWithin y (nI 1) (nI 9)) ?_
    refine wp_ifB_ne (pc := 20) (tgt := 26) d_98_20 (by decide) (fun zq20 => ?_) (fun zq20 => ?_)
    · obtain ⟨gg, h0gg, h1gg, hxgg⟩ := inB_t zq20 (by decide) (by decide)
      subst hxgg
      have hcgg : (nI gg).toNatClampNeg = gg := nI_clamp (by omega)
      refine wp_aload_n (pc := 26) (i := 0) d_98_26 rfl rfl ?_
      refine wp_gA (pc := 27) d_98_27 fl_9_33 rfl ft_8_3 (F_1_3 hF) ?_
      refine wp_iload_n (pc := 30) (i := 1) d_98_30 rfl rfl ?_
      refine wp_callV1p (pc := 31) d_98_31 lk_9_115 (by decide) rfl (Nat.le_of_ble_eq_true rfl) (kW isW18) rfl (c_waterOn hF isW18 (by omega) (hA.1 0 (by decide) jr (by omega))) ?_
      refine wp_icN (pc := 34) (m := 1) d_98_34 (by decide) ?_
      refine wp_icmpN_ge (pc := 35) (tgt := 41) d_98_35 (by decide) (by have := hok.b (by omega) jr (by omega); omega) (by decide) (fun zq35 => ?_) (fun zq35 => ?_)
      · refine wp_aload_n (pc := 41) (i := 0) d_98_41 rfl rfl ?_
        refine wp_gA (pc := 42) d_98_42 fl_9_33 rfl ft_8_3 (F_1_3 hF) ?_
        refine wp_iload_n (pc := 45) (i := 1) d_98_45 rfl rfl ?_
        refine wp_callV1p (pc := 46) d_98_46 lk_9_119 (by decide) rfl (Nat.le_of_ble_eq_true rfl) (kW isW18) rfl (c_soapOn hF isW18 (by omega) (hA.1 1 (by decide) jr (by omega))) ?_
        refine wp_bpN (pc := 49) (m := 99) d_98_49 (by decide) ?_
        refine wp_iload_n (pc := 51) (i := 2) d_98_51 rfl rfl ?_
        refine wp_isubN (pc := 52) d_98_52 (by omega) ?_
        refine wp_icmpN_le (pc := 53) (tgt := 59) d_98_53 (by decide) (by have := hok.b (by omega) jr (by omega); omega) (by omega) (fun zq53 => ?_) (fun zq53 => ?_)
        · refine wp_aload_n (pc := 59) (i := 0) d_98_59 rfl rfl ?_
          refine wp_gA (pc := 60) d_98_60 fl_9_40 rfl ft_8_4 (F_1_4 hF) ?_
          refine wp_aload_n (pc := 63) (i := 0) d_98_63 rfl rfl ?_
          refine wp_gA (pc := 64) d_98_64 fl_9_33 rfl ft_8_3 (F_1_3 hF) ?_
          refine wp_callV1v (pc := 67) d_98_67 lk_9_160 (by decide) rfl (Nat.le_of_ble_eq_true rfl) rfl rfl (c_remember hF isW18 (by decide) hA hCA.1 hCA.2.1 hnx hna) (fun Iq67 hq67 => ?_)
          obtain ⟨hr1, hr2, hr3, hr4⟩ := hq67
          have hrA := atWk hA (fun a _ _ => hr4 a (by omega) (by omega) (by omega))
          have hrR := atR_keep hR (fun a _ _ => hr4 a (by omega) (by omega) (by omega))
          have hrC := hCA.rem hnx hr1 hr2 hr3 hr4
          refine wp_aload_n (pc := 70) (i := 0) d_98_70 rfl rfl ?_
          refine wp_gA (pc := 71) d_98_71 fl_9_33 rfl ft_8_3 (F_1_3 hF) ?_
          refine wp_iload_n (pc := 74) (i := 1) d_98_74 rfl rfl ?_
          refine wp_iload_n (pc := 75) (i := 2) d_98_75 rfl rfl ?_
          refine wp_callV2e (pc := 76) d_98_76 lk_9_176 (by decide) rfl (Nat.le_of_ble_eq_true rfl) (kW isW18) rfl (c_putSoap hF isW18 (by omega) (hrA.1 1 (by decide) jr (by omega))) (fun Iq76 hq76 => ?_)
          have hoz : ∀ a, (a < 18 ∨ 91 < a) → Iq76 a = I a := fun a ha => by rw [hq76.2 a (by omega), hr4 a (by omega) (by omega) (by omega)]
          exact wp_iret (pc := 79) d_98_79 (Or.inl rfl) (PQ.mk (by unfold q_soap; rw [if_pos zq8, if_pos zq20, hcjr, hcgg, if_neg (Nat.not_lt.mpr zq35), if_neg (Nat.not_lt.mpr zq53)]) ⟨hCT.k (fun a _ _ => hoz a (by omega)), atR_keep hR (fun a _ _ => hoz a (by omega)), atW_arr hrA hq76 (by decide), hrC.k (fun a _ _ => hq76.2 a (by omega)), hG.k (fun a _ _ => hoz a (by omega)) (by rw [hoz 151 (by omega)]), hCS.k (fun a _ _ => hoz a (by omega)), hsd⟩ ⟨fun a _ => hoz a (by omega), rfl⟩)
        · refine wp_bipush (pc := 56) (v := (-4)) d_98_56 (by decide) ?_
          exact wp_iret (pc := 58) d_98_58 (Or.inl rfl) (PQ.mk (by unfold q_soap; rw [if_pos zq8, if_pos zq20, hcjr, hcgg, if_neg (Nat.not_lt.mpr zq35), if_pos zq53]) hC0 ⟨fun _ _ => rfl, rfl⟩)
      · refine wp_bipush (pc := 38) (v := (-3)) d_98_38 (by decide) ?_
        exact wp_iret (pc := 40) d_98_40 (Or.inl rfl) (PQ.mk (by unfold q_soap; rw [if_pos zq8, if_pos zq20, hcjr, hcgg, if_pos zq35]) hC0 ⟨fun _ _ => rfl, rfl⟩)
    · refine wp_bipush (pc := 23) (v := (-2)) d_98_23 (by decide) ?_
      exact wp_iret (pc := 25) d_98_25 (Or.inl rfl) (PQ.mk (by unfold q_soap; rw [if_pos zq8, if_neg (nT zq20)]) hC0 ⟨fun _ _ => rfl, rfl⟩)
  · refine wp_iconst (pc := 11) (v := (-1)) d_98_11 (by decide) ?_
    exact wp_iret (pc := 12) d_98_12 (Or.inl rfl) (PQ.mk (by unfold q_soap; rw [if_neg (nT zq8)]) hC0 ⟨fun _ _ => rfl, rfl⟩)
def q_undo (tx : Nat → Nat) (tl : Nat) (ρ : SN) (n : Nat) (σ : SN) (rg : Nat → SN) (nx na : Nat) (γ : SN) (gn : Nat) (sl : Nat → SN) (sf : Nat → Bool) (sd : Int64) : Int32 × SS := if na < 1 then (-3, (tx, tl, ρ, n, σ, rg, nx, na, γ, gn, sl, sf, sd)) else (nI (na - 1), (tx, tl, ρ, n, s2 (rg ((nx + 11) % 12)) 4 7 (σ 4 7), rg, ((nx + 11) % 12), (na - 1), γ, gn, sl, sf, sd))
set_option maxRecDepth 4000 in
theorem c_gundo {I : IT} {J : JT} {F : FT} {t : Nat} {tx : Nat → Nat} {tl : Nat} {ρ : SN} {n : Nat} {σ : SN} {rg : Nat → SN} {nx na : Nat} {γ : SN} {gn : Nat} {sl : Nat → SN} {sf : Nat → Bool} {sd : Int64} (hF : Fok F) (hC : CR I J tx tl ρ n σ rg nx na γ gn sl sf sd) (hO : OKS t tx tl ρ n σ rg nx na γ gn sl sf) (ht : t + 100 ≤ 1000) : Sp 99 [vR 1] KK I J F (PQ (q_undo tx tl ρ n σ rg nx na γ gn sl sf sd) I J F) := by
  have hC0 := hC
  obtain ⟨hCT, hR, hA, hCA, hG, hCS, hsd⟩ := hC
  obtain ⟨ht40, hx256, hρ, hok, hrg, hnx, hna, hgo, hsl, hz, hzr, hzs, hn6⟩ := hO
  refine Sp.mk2 (Nat.le_of_ble_eq_true rfl) (L2 := [_, _]) rfl ?_
  refine wp_aload_n (pc := 0) (i := 0) d_99_0 rfl rfl ?_
  refine wp_gA (pc := 1) d_99_1 fl_9_40 rfl ft_8_4 (F_1_4 hF) ?_
  refine wp_callV0p (pc := 4) d_99_4 lk_9_179 (by decide) rfl (Nat.le_of_ble_eq_true rfl) rfl rfl (c_Anumber (v := na) hCA.2.1) ?_
  refine wp_icN (pc := 7) (m := 1) d_99_7 (by decide) ?_
  refine wp_icmpN_ge (pc := 8) (tgt := 14) d_99_8 (by decide) (by omega) (by decide) (fun zq8 => ?_) (fun zq8 => ?_)
  · refine wp_aload_n (pc := 14) (i := 0) d_99_14 rfl rfl ?_
    refine wp_gA (pc := 15) d_99_15 fl_9_33 rfl ft_8_3 (F_1_3 hF) ?_
    refine wp_callV0p (pc := 18) d_99_18 lk_9_132 (by decide) rfl (Nat.le_of_ble_eq_true rfl) (kW isW18) rfl (c_damBits isW18 (hA.2 7 (by decide) (by decide))) ?_
    refine wq_istore_n (pc := 21) (L2 := [_, _]) (i := 1) d_99_21 rfl (Nat.le_of_ble_eq_true rfl) rfl rfl ?_
    refine wp_aload_n (pc := 22) (i := 0) d_99_22 rfl rfl ?_
    refine wp_gA (pc := 23) d_99_23 fl_9_40 rfl ft_8_4 (F_1_4 hF) ?_
    refine wp_aload_n (pc := 26) (i := 0) d_99_26 rfl rfl ?_
    refine wp_gA (pc := 27) d_99_27 fl_9_33 rfl ft_8_3 (F_1_3 hF) ?_
    refine wp_callV1v (pc := 30) d_99_30 lk_9_180 (by decide) rfl (Nat.le_of_ble_eq_true rfl) rfl rfl (c_takeBack hF isW18 (by decide) (hCA.2.2 _ (by omega)) hCA.1 hCA.2.1 hnx zq8 hna) (fun Iq30 hq30 => ?_)
    refine wp_aload_n (pc := 33) (i := 0) d_99_33 rfl rfl ?_
    refine wp_gA (pc := 34) d_99_34 fl_9_33 rfl ft_8_3 (F_1_3 hF) ?_
    refine wp_iload_n (pc := 37) (i := 1) d_99_37 rfl rfl ?_
    refine wp_callV1v (pc := 38) d_99_38 lk_9_154 (by decide) rfl (Nat.le_of_ble_eq_true rfl) (kW isW18) rfl (c_setDams isW18 hq30.1 _) (fun Iq38 hq38 => ?_)
    refine wp_aload_n (pc := 41) (i := 0) d_99_41 rfl rfl ?_
    refine wp_gA (pc := 42) d_99_42 fl_9_40 rfl ft_8_4 (F_1_4 hF) ?_
    refine wp_callV0p (pc := 45) d_99_45 lk_9_179 (by decide) rfl (Nat.le_of_ble_eq_true rfl) rfl rfl (c_Anumber (v := na - 1) (by rw [hq38.2 23 (by omega)]; exact hq30.2.2.1)) ?_
    have hoz : ∀ a, a ≠ 23 → (a < 18 ∨ 22 < a) → Iq38 a = I a := fun a h23 ha => by rw [hq38.2 a (by omega), hq30.2.2.2 a h23 (by omega)]
    have hoy : ∀ a, (a < 18 ∨ 23 < a) → Iq38 a = I a := fun a ha => hoz a (by omega) (by omega)
    exact wp_iret (pc := 48) d_99_48 (Or.inl rfl) (PQ.mk (by unfold q_undo; rw [if_neg (Nat.not_lt.mpr zq8)]) ⟨hCT.k (fun a _ _ => hoy a (by omega)), atR_keep hR (fun a _ _ => hoy a (by omega)), hq38.1, ⟨by rw [hq38.2 23 (by omega)]; exact hq30.2.1, by rw [hq38.2 23 (by omega)]; exact hq30.2.2.1, fun i hi => atWk (hCA.2.2 i hi) (fun a _ _ => hoy a (by omega))⟩, hG.k (fun a _ _ => hoy a (by omega)) (by rw [hoy 151 (by omega)]), hCS.k (fun a _ _ => hoy a (by omega)), hsd⟩ ⟨fun a _ => hoy a (by omega), rfl⟩)
  · refine wp_bipush (pc := 11) (v := (-3)) d_99_11 (by decide) ?_
    exact wp_iret (pc := 13) d_99_13 (Or.inl rfl) (PQ.mk (by unfold q_undo; rw [if_pos zq8]) hC0 ⟨fun _ _ => rfl, rfl⟩)
def a_got (ρ : SN) (n : Nat) (σ : SN) (x y r : Int32) : Int32 := if inR x n = true then (if inB y (nI 0) (nI 20) = true then (if inB r (nI 0) (nI 9) = true then nI (behN ρ n (σ 4 7) r.toNatClampNeg σ y.toNatClampNeg 2 x.toNatClampNeg) else -2) else -2) else -1
set_option maxRecDepth 4000 in
theorem c_ggot {I : IT} {J : JT} {F : FT} {t : Nat} {tx : Nat → Nat} {tl : Nat} {ρ : SN} {n : Nat} {σ : SN} {rg : Nat → SN} {nx na : Nat} {γ : SN} {gn : Nat} {sl : Nat → SN} {sf : Nat → Bool} {sd : Int64} (hF : Fok F) (hC : CR I J tx tl ρ n σ rg nx na γ gn sl sf sd) (hO : OKS t tx tl ρ n σ rg nx na γ gn sl sf) (ht : t + 100 ≤ 1000) {x y r : Int32} : Sp 100 [vR 1, vI x, vI y, vI r] KK I J F (PQ (a_got ρ n σ x y r, (tx, tl, ρ, n, σ, rg, nx, na, γ, gn, sl, sf, sd)) I J F) := by
  have hC0 := hC
  obtain ⟨hCT, hR, hA, hCA, hG, hCS, hsd⟩ := hC
  obtain ⟨ht40, hx256, hρ, hok, hrg, hnx, hna, hgo, hsl, hz, hzr, hzs, hn6⟩ := hO
  refine Sp.mk2 (Nat.le_of_ble_eq_true rfl) (L2 := [_, _, _, _]) rfl ?_
  refine wp_aload_n (pc := 0) (i := 0) d_100_0 rfl rfl ?_
  refine wp_gA (pc := 1) d_100_1 fl_9_26 rfl ft_8_2 (F_1_2 hF) ?_
  refine wp_iload_n (pc := 4) (i := 1) d_100_4 rfl rfl ?_
  refine wp_callV1p (pc := 5) d_100_5 lk_9_112 (by decide) rfl (Nat.le_of_ble_eq_true rfl) (kR isR12) rfl (c_has isR12 hR x) ?_
  refine wp_ifB_ne (pc := 8) (tgt := 13) d_100_8 (by decide) (fun zq8 => ?_) (fun zq8 => ?_)
  · obtain ⟨jr, hjr, hxjr⟩ := inR_t zq8 (by omega)
    subst hxjr
    have hcjr : (nI jr).toNatClampNeg = jr := nI_clamp (by omega)
    refine wp_iload_n (pc := 13) (i := 2) d_100_13 rfl rfl ?_
    refine wp_icN (pc := 14) (m := 0) d_100_14 (by decide) ?_
    refine wp_bpN (pc := 15) (m := 20) d_100_15 (by decide) ?_
    refine wp_callS3p (pc := 17) d_100_17 lk_9_168 (by decide) rfl (Nat.le_of_ble_eq_true rfl) (c_isWithin y (nI 0) (nI 20)) ?_
    refine wp_ifB_eq (pc := 20) (tgt := 30) d_100_20 (by decide) (fun zq20 => ?_) (fun zq20 => ?_)
    · refine wp_bipush (pc := 30) (v := (-2)) d_100_30 (by decide) ?_
      exact wp_iret (pc := 32) d_100_32 (Or.inl rfl) (PQ.q (by unfold a_got; rw [if_pos zq8, if_neg (nT zq20)]) hC0 ⟨fun _ _ => rfl, rfl⟩)
    · obtain ⟨jq, h0jq, h1jq, hxjq⟩ := inB_t zq20 (by decide) (by decide)
      subst hxjq
      have hcjq : (nI jq).toNatClampNeg = jq := nI_clamp (by omega)
      refine wp_iload_n (pc := 23) (i := 3) d_100_23 rfl rfl ?_
      refine wp_callS1p (pc := 24) d_100_24 lk_9_157 (by decide) rfl (Nat.le_of_ble_eq_true rfl) (c_isRain r) ?_
      refine wp_ifB_ne (pc := 27) (tgt := 33) d_100_27 (by decide) (fun zq27 => ?_) (fun zq27 => ?_)
      · obtain ⟨rn, h0rn, h1rn, hxrn⟩ := inB_t zq27 (by decide) (by decide)
        subst hxrn
        have hcrn : (nI rn).toNatClampNeg = rn := nI_clamp (by omega)
        refine wp_aload_n (pc := 33) (i := 0) d_100_33 rfl rfl ?_
        refine wp_gA (pc := 34) d_100_34 fl_9_49 rfl ft_8_5 (F_1_5 hF) ?_
        refine wp_iload_n (pc := 37) (i := 2) d_100_37 rfl rfl ?_
        refine wp_iload_n (pc := 38) (i := 3) d_100_38 rfl rfl ?_
        refine wp_aload_n (pc := 39) (i := 0) d_100_39 rfl rfl ?_
        refine wp_gA (pc := 40) d_100_40 fl_9_33 rfl ft_8_3 (F_1_3 hF) ?_
        refine wp_callV0p (pc := 43) d_100_43 lk_9_132 (by decide) rfl (Nat.le_of_ble_eq_true rfl) (kW isW18) rfl (c_damBits isW18 (hA.2 7 (by decide) (by decide))) ?_
        refine wp_callV3e (pc := 46) d_100_46 lk_9_183 (by decide) rfl (Nat.le_of_ble_eq_true rfl) rfl rfl (c_behind (q := jq) (rn := rn) (dm := (σ 4 7)) hF hρ hok.2.2.2.2.2 (by omega) hok (by omega) hA hR) (fun Iq46 hq46 => ?_)
        have hT := hq46.1
        refine wp_iload_n (pc := 49) (i := 1) d_100_49 rfl rfl ?_
        refine wp_callV1p (pc := 50) d_100_50 lk_9_122 (by decide) rfl (Nat.le_of_ble_eq_true rfl) (kW isW93) rfl (c_gotBy hF isW93 (by omega) (hT.1 2 (by decide) jr (by omega))) ?_
        exact wp_iret (pc := 53) d_100_53 (Or.inl rfl) (PQ.q (by unfold a_got; rw [if_pos zq8, if_pos zq20, if_pos zq27, hcjr, hcjq, hcrn]) (hC0.k (SCR.W hq46.2)) (SCR.W hq46.2).O)
      · refine wp_bipush (pc := 30) (v := (-2)) d_100_30 (by decide) ?_
        exact wp_iret (pc := 32) d_100_32 (Or.inl rfl) (PQ.q (by unfold a_got; rw [if_pos zq8, if_pos zq20, if_neg (nT zq27)]) hC0 ⟨fun _ _ => rfl, rfl⟩)
  · refine wp_iconst (pc := 11) (v := (-1)) d_100_11 (by decide) ?_
    exact wp_iret (pc := 12) d_100_12 (Or.inl rfl) (PQ.q (by unfold a_got; rw [if_neg (nT zq8)]) hC0 ⟨fun _ _ => rfl, rfl⟩)
def a_butt (ρ : SN) (n : Nat) (σ : SN) (y r : Int32) (p : Bool) : Int32 := if inB y (nI 0) (nI 20) = true then (if inB r (nI 0) (nI 9) = true then (if p = true then nI (behN ρ n (σ 4 7) r.toNatClampNeg σ y.toNatClampNeg 4 5) else nI (behN ρ n (σ 4 7) r.toNatClampNeg σ y.toNatClampNeg 4 4)) else -2) else -2
set_option maxRecDepth 4000 in
theorem c_gbutt {I : IT} {J : JT} {F : FT} {t : Nat} {tx : Nat → Nat} {tl : Nat} {ρ : SN} {n : Nat} {σ : SN} {rg : Nat → SN} {nx na : Nat} {γ : SN} {gn : Nat} {sl : Nat → SN} {sf : Nat → Bool} {sd : Int64} (hF : Fok F) (hC : CR I J tx tl ρ n σ rg nx na γ gn sl sf sd) (hO : OKS t tx tl ρ n σ rg nx na γ gn sl sf) (ht : t + 100 ≤ 1000) {y r : Int32} {p : Bool} : Sp 101 [vR 1, vI y, vI r, vI (b2 p)] KK I J F (PQ (a_butt ρ n σ y r p, (tx, tl, ρ, n, σ, rg, nx, na, γ, gn, sl, sf, sd)) I J F) := by
  have hC0 := hC
  obtain ⟨hCT, hR, hA, hCA, hG, hCS, hsd⟩ := hC
  obtain ⟨ht40, hx256, hρ, hok, hrg, hnx, hna, hgo, hsl, hz, hzr, hzs, hn6⟩ := hO
  refine Sp.mk2 (Nat.le_of_ble_eq_true rfl) (L2 := [_, _, _, _, _]) rfl ?_
  refine wp_iload_n (pc := 0) (i := 1) d_101_0 rfl rfl ?_
  refine wp_icN (pc := 1) (m := 0) d_101_1 (by decide) ?_
  refine wp_bpN (pc := 2) (m := 20) d_101_2 (by decide) ?_
  refine wp_callS3p (pc := 4) d_101_4 lk_9_168 (by decide) rfl (Nat.le_of_ble_eq_true rfl) (c_isWithin y (nI 0) (nI 20)) ?_
  refine wp_ifB_eq (pc := 7) (tgt := 17) d_101_7 (by decide) (fun zq7 => ?_) (fun zq7 => ?_)
  · refine wp_bipush (pc := 17) (v := (-2)) d_101_17 (by decide) ?_
    exact wp_iret (pc := 19) d_101_19 (Or.inl rfl) (PQ.q (by unfold a_butt; rw [if_neg (nT zq7)]) hC0 ⟨fun _ _ => rfl, rfl⟩)
  · obtain ⟨jq, h0jq, h1jq, hxjq⟩ := inB_t zq7 (by decide) (by decide)
    subst hxjq
    have hcjq : (nI jq).toNatClampNeg = jq := nI_clamp (by omega)
    refine wp_iload_n (pc := 10) (i := 2) d_101_10 rfl rfl ?_
    refine wp_callS1p (pc := 11) d_101_11 lk_9_157 (by decide) rfl (Nat.le_of_ble_eq_true rfl) (c_isRain r) ?_
    refine wp_ifB_ne (pc := 14) (tgt := 20) d_101_14 (by decide) (fun zq14 => ?_) (fun zq14 => ?_)
    · obtain ⟨rn, h0rn, h1rn, hxrn⟩ := inB_t zq14 (by decide) (by decide)
      subst hxrn
      have hcrn : (nI rn).toNatClampNeg = rn := nI_clamp (by omega)
      refine wp_aload_n (pc := 20) (i := 0) d_101_20 rfl rfl ?_
      refine wp_gA (pc := 21) d_101_21 fl_9_49 rfl ft_8_5 (F_1_5 hF) ?_
      refine wp_iload_n (pc := 24) (i := 1) d_101_24 rfl rfl ?_
      refine wp_iload_n (pc := 25) (i := 2) d_101_25 rfl rfl ?_
      refine wp_aload_n (pc := 26) (i := 0) d_101_26 rfl rfl ?_
      refine wp_gA (pc := 27) d_101_27 fl_9_33 rfl ft_8_3 (F_1_3 hF) ?_
      refine wp_callV0p (pc := 30) d_101_30 lk_9_132 (by decide) rfl (Nat.le_of_ble_eq_true rfl) (kW isW18) rfl (c_damBits isW18 (hA.2 7 (by decide) (by decide))) ?_
      refine wp_callV3e (pc := 33) d_101_33 lk_9_183 (by decide) rfl (Nat.le_of_ble_eq_true rfl) rfl rfl (c_behind (q := jq) (rn := rn) (dm := (σ 4 7)) hF hρ hok.2.2.2.2.2 (by omega) hok (by omega) hA hR) (fun Iq33 hq33 => ?_)
      have hT := hq33.1
      refine wq_astore (pc := 36) (L2 := [_, _, _, _, _]) d_101_36 (Nat.le_of_ble_eq_true rfl) rfl rfl ?_
      refine wp_iload_n (pc := 38) (i := 3) d_101_38 rfl rfl ?_
      refine wp_ifB_eq (pc := 39) (tgt := 50) d_101_39 (by decide) (fun zq39 => ?_) (fun zq39 => ?_)
      · refine wp_aload (pc := 50) d_101_50 rfl ?_
        refine wp_callV0p (pc := 52) d_101_52 lk_9_190 (by decide) rfl (Nat.le_of_ble_eq_true rfl) (kW isW93) rfl (c_waterInButt isW93 (hT.2 4 (by decide) (by decide))) ?_
        exact wp_iret (pc := 55) d_101_55 (Or.inl rfl) (PQ.q (by unfold a_butt; rw [if_pos zq7, if_pos zq14, if_neg (nT zq39), hcjq, hcrn]) (hC0.k (SCR.W hq33.2)) (SCR.W hq33.2).O)
      · refine wp_aload (pc := 42) d_101_42 rfl ?_
        refine wp_callV0p (pc := 44) d_101_44 lk_9_187 (by decide) rfl (Nat.le_of_ble_eq_true rfl) (kW isW93) rfl (c_soapInButt isW93 (hT.2 5 (by decide) (by decide))) ?_
        refine wp_goto (pc := 47) (tgt := 55) d_101_47 (by decide) ?_
        exact wp_iret (pc := 55) d_101_55 (Or.inl rfl) (PQ.q (by unfold a_butt; rw [if_pos zq7, if_pos zq14, if_pos zq39, hcjq, hcrn]) (hC0.k (SCR.W hq33.2)) (SCR.W hq33.2).O)
    · refine wp_bipush (pc := 17) (v := (-2)) d_101_17 (by decide) ?_
      exact wp_iret (pc := 19) d_101_19 (Or.inl rfl) (PQ.q (by unfold a_butt; rw [if_pos zq7, if_neg (nT zq14)]) hC0 ⟨fun _ _ => rfl, rfl⟩)
def a_dams (ρ : SN) (n : Nat) (σ : SN) (y r : Int32) : Int32 := if inB y (nI 1) (nI 6) = true then (if inB r (nI 0) (nI 9) = true then nI ((fdN (cntB ρ n r.toNatClampNeg σ y.toNatClampNeg) (2 ^ n - 1)).1) else -2) else -2
def a_enough (ρ : SN) (n : Nat) (σ : SN) (y r : Int32) : Int32 := if inB y (nI 1) (nI 6) = true then (if inB r (nI 0) (nI 9) = true then nI ((fdN (cntB ρ n r.toNatClampNeg σ y.toNatClampNeg) (2 ^ n - 1)).2) else -2) else -2
def a_each (ρ : SN) (n : Nat) (σ : SN) (y r : Int32) : Int32 := if inB y (nI 1) (nI 6) = true then (if inB r (nI 0) (nI 9) = true then nI (eachN (gotB ρ n r.toNatClampNeg σ y.toNatClampNeg) n) else -2) else -2
set_option maxRecDepth 4000 in
theorem c_gdams {I : IT} {J : JT} {F : FT} {t : Nat} {tx : Nat → Nat} {tl : Nat} {ρ : SN} {n : Nat} {σ : SN} {rg : Nat → SN} {nx na : Nat} {γ : SN} {gn : Nat} {sl : Nat → SN} {sf : Nat → Bool} {sd : Int64} (hF : Fok F) (hC : CR I J tx tl ρ n σ rg nx na γ gn sl sf sd) (hO : OKS t tx tl ρ n σ rg nx na γ gn sl sf) (ht : t + 100 ≤ 1000) {y r : Int32} : Sp 102 [vR 1, vI y, vI r] KK I J F (PQ (a_dams ρ n σ y r, (tx, tl, ρ, n, σ, rg, nx, na, γ, gn, sl, sf, sd)) I J F) := by
  have hC0 := hC
  obtain ⟨hCT, hR, hA, hCA, hG, hCS, hsd⟩ := hC
  obtain ⟨ht40, hx256, hρ, hok, hrg, hnx, hna, hgo, hsl, hz, hzr, hzs, hn6⟩ := hO
  refine Sp.mk2 (Nat.le_of_ble_eq_true rfl) (L2 := [_, _, _]) rfl ?_
  refine wp_iload_n (pc := 0) (i := 1) d_102_0 rfl rfl ?_
  refine wp_icN (pc := 1) (m := 1) d_102_1 (by decide) ?_
  refine wp_bpN (pc := 2) (m := 6) d_102_2 (by decide) ?_
  refine wp_callS3p (pc := 4) d_102_4 lk_9_168 (by decide) rfl (Nat.le_of_ble_eq_true rfl) (c_isWithin y (nI 1) (nI 6)) ?_
  refine wp_ifB_eq (pc := 7) (tgt := 17) d_102_7 (by decide) (fun zq7 => ?_) (fun zq7 => ?_)
  · refine wp_bipush (pc := 17) (v := (-2)) d_102_17 (by decide) ?_
    exact wp_iret (pc := 19) d_102_19 (Or.inl rfl) (PQ.q (by unfold a_dams; rw [if_neg (nT zq7)]) hC0 ⟨fun _ _ => rfl, rfl⟩)
  · obtain ⟨jq, h0jq, h1jq, hxjq⟩ := inB_t zq7 (by decide) (by decide)
    subst hxjq
    have hcjq : (nI jq).toNatClampNeg = jq := nI_clamp (by omega)
    refine wp_iload_n (pc := 10) (i := 2) d_102_10 rfl rfl ?_
    refine wp_callS1p (pc := 11) d_102_11 lk_9_157 (by decide) rfl (Nat.le_of_ble_eq_true rfl) (c_isRain r) ?_
    refine wp_ifB_ne (pc := 14) (tgt := 20) d_102_14 (by decide) (fun zq14 => ?_) (fun zq14 => ?_)
    · obtain ⟨rn, h0rn, h1rn, hxrn⟩ := inB_t zq14 (by decide) (by decide)
      subst hxrn
      have hcrn : (nI rn).toNatClampNeg = rn := nI_clamp (by omega)
      refine wp_aload_n (pc := 20) (i := 0) d_102_20 rfl rfl ?_
      refine wp_gA (pc := 21) d_102_21 fl_9_49 rfl ft_8_5 (F_1_5 hF) ?_
      refine wp_iload_n (pc := 24) (i := 1) d_102_24 rfl rfl ?_
      refine wp_iload_n (pc := 25) (i := 2) d_102_25 rfl rfl ?_
      refine wp_callV2e (pc := 26) d_102_26 lk_9_193 (by decide) rfl (Nat.le_of_ble_eq_true rfl) rfl rfl (c_fewestDams hF hρ (by omega) hok (by omega) hA hR) (fun Iq26 hq26 => ?_)
      exact wp_iret (pc := 29) d_102_29 (Or.inl rfl) (PQ.q (by unfold a_dams; rw [if_pos zq7, if_pos zq14, hcjq, hcrn]) (hC0.k (SCR.W hq26)) (SCR.W hq26).O)
    · refine wp_bipush (pc := 17) (v := (-2)) d_102_17 (by decide) ?_
      exact wp_iret (pc := 19) d_102_19 (Or.inl rfl) (PQ.q (by unfold a_dams; rw [if_pos zq7, if_neg (nT zq14)]) hC0 ⟨fun _ _ => rfl, rfl⟩)
set_option maxRecDepth 4000 in
theorem c_genough {I : IT} {J : JT} {F : FT} {t : Nat} {tx : Nat → Nat} {tl : Nat} {ρ : SN} {n : Nat} {σ : SN} {rg : Nat → SN} {nx na : Nat} {γ : SN} {gn : Nat} {sl : Nat → SN} {sf : Nat → Bool} {sd : Int64} (hF : Fok F) (hC : CR I J tx tl ρ n σ rg nx na γ gn sl sf sd) (hO : OKS t tx tl ρ n σ rg nx na γ gn sl sf) (ht : t + 100 ≤ 1000) {y r : Int32} : Sp 103 [vR 1, vI y, vI r] KK I J F (PQ (a_enough ρ n σ y r, (tx, tl, ρ, n, σ, rg, nx, na, γ, gn, sl, sf, sd)) I J F) := by
  have hC0 := hC
  obtain ⟨hCT, hR, hA, hCA, hG, hCS, hsd⟩ := hC
  obtain ⟨ht40, hx256, hρ, hok, hrg, hnx, hna, hgo, hsl, hz, hzr, hzs, hn6⟩ := hO
  refine Sp.mk2 (Nat.le_of_ble_eq_true rfl) (L2 := [_, _, _]) rfl ?_
  refine wp_iload_n (pc := 0) (i := 1) d_103_0 rfl rfl ?_
  refine wp_icN (pc := 1) (m := 1) d_103_1 (by decide) ?_
  refine wp_bpN (pc := 2) (m := 6) d_103_2 (by decide) ?_
  refine wp_callS3p (pc := 4) d_103_4 lk_9_168 (by decide) rfl (Nat.le_of_ble_eq_true rfl) (c_isWithin y (nI 1) (nI 6)) ?_
  refine wp_ifB_eq (pc := 7) (tgt := 17) d_103_7 (by decide) (fun zq7 => ?_) (fun zq7 => ?_)
  · refine wp_bipush (pc := 17) (v := (-2)) d_103_17 (by decide) ?_
    exact wp_iret (pc := 19) d_103_19 (Or.inl rfl) (PQ.q (by unfold a_enough; rw [if_neg (nT zq7)]) hC0 ⟨fun _ _ => rfl, rfl⟩)
  · obtain ⟨jq, h0jq, h1jq, hxjq⟩ := inB_t zq7 (by decide) (by decide)
    subst hxjq
    have hcjq : (nI jq).toNatClampNeg = jq := nI_clamp (by omega)
    refine wp_iload_n (pc := 10) (i := 2) d_103_10 rfl rfl ?_
    refine wp_callS1p (pc := 11) d_103_11 lk_9_157 (by decide) rfl (Nat.le_of_ble_eq_true rfl) (c_isRain r) ?_
    refine wp_ifB_ne (pc := 14) (tgt := 20) d_103_14 (by decide) (fun zq14 => ?_) (fun zq14 => ?_)
    · obtain ⟨rn, h0rn, h1rn, hxrn⟩ := inB_t zq14 (by decide) (by decide)
      subst hxrn
      have hcrn : (nI rn).toNatClampNeg = rn := nI_clamp (by omega)
      refine wp_aload_n (pc := 20) (i := 0) d_103_20 rfl rfl ?_
      refine wp_gA (pc := 21) d_103_21 fl_9_49 rfl ft_8_5 (F_1_5 hF) ?_
      refine wp_iload_n (pc := 24) (i := 1) d_103_24 rfl rfl ?_
      refine wp_iload_n (pc := 25) (i := 2) d_103_25 rfl rfl ?_
      refine wp_aload_n (pc := 26) (i := 0) d_103_26 rfl rfl ?_
      refine wp_gA (pc := 27) d_103_27 fl_9_49 rfl ft_8_5 (F_1_5 hF) ?_
      refine wp_iload_n (pc := 30) (i := 1) d_103_30 rfl rfl ?_
      refine wp_iload_n (pc := 31) (i := 2) d_103_31 rfl rfl ?_
      refine wp_callV2e (pc := 32) d_103_32 lk_9_193 (by decide) rfl (Nat.le_of_ble_eq_true rfl) rfl rfl (c_fewestDams hF hρ (by omega) hok (by omega) hA hR) (fun Iq32 hq32 => ?_)
      refine wp_callV3e (pc := 35) d_103_35 lk_9_196 (by decide) rfl (Nat.le_of_ble_eq_true rfl) rfl rfl (c_contentBehind (dm := (fdN (cntB ρ n rn σ jq) (2 ^ n - 1)).1) hF hρ (by have h8 := fdN_le (cntB ρ n rn σ jq) (2 ^ n - 1); have h9 := p64 hn6; omega) (by omega) hok (by omega) (atW_off isW18 isW93 (by decide) hA hq32) (atR_off isR12 isW93 hR hq32)) (fun Iq35 hq35 => ?_)
      exact wp_iret (pc := 38) d_103_38 (Or.inl rfl) (PQ.q (by unfold a_enough; rw [if_pos zq7, if_pos zq14, hcjq, hcrn, fdN_v]) (hC0.k ((SCR.W hq32).tr (SCR.W hq35))) ((SCR.W hq32).tr (SCR.W hq35)).O)
    · refine wp_bipush (pc := 17) (v := (-2)) d_103_17 (by decide) ?_
      exact wp_iret (pc := 19) d_103_19 (Or.inl rfl) (PQ.q (by unfold a_enough; rw [if_pos zq7, if_neg (nT zq14)]) hC0 ⟨fun _ _ => rfl, rfl⟩)
set_option maxRecDepth 4000 in
theorem c_geach {I : IT} {J : JT} {F : FT} {t : Nat} {tx : Nat → Nat} {tl : Nat} {ρ : SN} {n : Nat} {σ : SN} {rg : Nat → SN} {nx na : Nat} {γ : SN} {gn : Nat} {sl : Nat → SN} {sf : Nat → Bool} {sd : Int64} (hF : Fok F) (hC : CR I J tx tl ρ n σ rg nx na γ gn sl sf sd) (hO : OKS t tx tl ρ n σ rg nx na γ gn sl sf) (ht : t + 100 ≤ 1000) {y r : Int32} : Sp 107 [vR 1, vI y, vI r] KK I J F (PQ (a_each ρ n σ y r, (tx, tl, ρ, n, σ, rg, nx, na, γ, gn, sl, sf, sd)) I J F) := by
  have hC0 := hC
  obtain ⟨hCT, hR, hA, hCA, hG, hCS, hsd⟩ := hC
  obtain ⟨ht40, hx256, hρ, hok, hrg, hnx, hna, hgo, hsl, hz, hzr, hzs, hn6⟩ := hO
  refine Sp.mk2 (Nat.le_of_ble_eq_true rfl) (L2 := [_, _, _]) rfl ?_
  refine wp_iload_n (pc := 0) (i := 1) d_107_0 rfl rfl ?_
  refine wp_icN (pc := 1) (m := 1) d_107_1 (by decide) ?_
  refine wp_bpN (pc := 2) (m := 6) d_107_2 (by decide) ?_
  refine wp_callS3p (pc := 4) d_107_4 lk_9_168 (by decide) rfl (Nat.le_of_ble_eq_true rfl) (c_isWithin y (nI 1) (nI 6)) ?_
  refine wp_ifB_eq (pc := 7) (tgt := 17) d_107_7 (by decide) (fun zq7 => ?_) (fun zq7 => ?_)
  · refine wp_bipush (pc := 17) (v := (-2)) d_107_17 (by decide) ?_
    exact wp_iret (pc := 19) d_107_19 (Or.inl rfl) (PQ.q (by unfold a_each; rw [if_neg (nT zq7)]) hC0 ⟨fun _ _ => rfl, rfl⟩)
  · obtain ⟨jq, h0jq, h1jq, hxjq⟩ := inB_t zq7 (by decide) (by decide)
    subst hxjq
    have hcjq : (nI jq).toNatClampNeg = jq := nI_clamp (by omega)
    refine wp_iload_n (pc := 10) (i := 2) d_107_10 rfl rfl ?_
    refine wp_callS1p (pc := 11) d_107_11 lk_9_157 (by decide) rfl (Nat.le_of_ble_eq_true rfl) (c_isRain r) ?_
    refine wp_ifB_ne (pc := 14) (tgt := 20) d_107_14 (by decide) (fun zq14 => ?_) (fun zq14 => ?_)
    · obtain ⟨rn, h0rn, h1rn, hxrn⟩ := inB_t zq14 (by decide) (by decide)
      subst hxrn
      have hcrn : (nI rn).toNatClampNeg = rn := nI_clamp (by omega)
      refine wp_aload_n (pc := 20) (i := 0) d_107_20 rfl rfl ?_
      refine wp_gA (pc := 21) d_107_21 fl_9_49 rfl ft_8_5 (F_1_5 hF) ?_
      refine wp_iload_n (pc := 24) (i := 1) d_107_24 rfl rfl ?_
      refine wp_iload_n (pc := 25) (i := 2) d_107_25 rfl rfl ?_
      refine wp_callV2e (pc := 26) d_107_26 lk_9_213 (by decide) rfl (Nat.le_of_ble_eq_true rfl) rfl rfl (c_each hF hρ (by omega) hok (by omega) hA hR) (fun Iq26 hq26 => ?_)
      exact wp_iret (pc := 29) d_107_29 (Or.inl rfl) (PQ.q (by unfold a_each; rw [if_pos zq7, if_pos zq14, hcjq, hcrn]) (hC0.k (SCR.W hq26)) (SCR.W hq26).O)
    · refine wp_bipush (pc := 17) (v := (-2)) d_107_17 (by decide) ?_
      exact wp_iret (pc := 19) d_107_19 (Or.inl rfl) (PQ.q (by unfold a_each; rw [if_pos zq7, if_neg (nT zq14)]) hC0 ⟨fun _ _ => rfl, rfl⟩)
