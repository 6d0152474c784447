/-- a plan of l told by 16, and back -/
def pzE (n q l : Nat) : Nat := sumN (fun m => dgN n (l * 2 ^ n) m * 16 ^ m) q
def pzD (n q c : Nat) : Nat := sumN (fun m => c / 16 ^ (m + 1) % 16 * 2 ^ (n * m)) (q - 1)
def pzT1 (n q l : Nat) : Bool := decide (pzE n q l < 16 ^ q) && allN (fun m => decide (pzE n q l / 16 ^ m % 16 = dgN n (l * 2 ^ n) m)) q && okD n q (pzE n q l) && (decide (2 ^ (n * (q - 1)) ≤ l + 1) || decide (pzE n q l < pzE n q (l + 1)))
def pzT2 (n q c : Nat) : Bool := !okD n q c || (decide (pzD n q c < 2 ^ (n * (q - 1))) && allN (fun m => decide (c / 16 ^ (m + 1) % 16 = dgN n (pzD n q c * 2 ^ n) (m + 1))) (q - 1) && decide (pzE n q (pzD n q c) ≤ c))
theorem pz1_all : ∀ n, n < 5 → ∀ q, q < 3 → allN (pzT1 n (q + 1)) (2 ^ (n * q)) = true := by decide +kernel
theorem pz2_0 : ∀ n, n < 5 → ∀ q, q < 2 → allN (pzT2 n (q + 1)) (16 ^ (q + 1)) = true := by decide +kernel
theorem pz2_a : ∀ n, n < 4 → ∀ a, a < 16 → allN (fun b => pzT2 n 3 (256 * a + b)) 256 = true := by decide +kernel
theorem pz2_b : ∀ a, a < 16 → allN (fun b => pzT2 4 3 (256 * a + b)) 256 = true := by decide +kernel
theorem pz1 {n q l : Nat} (hn : n ≤ 4) (hq1 : 1 ≤ q) (hq3 : q ≤ 3) (hl : l < 2 ^ (n * (q - 1))) : pzE n q l < 16 ^ q ∧ (∀ m, m < q → pzE n q l / 16 ^ m % 16 = dgN n (l * 2 ^ n) m) ∧ okD n q (pzE n q l) = true ∧ (l + 1 < 2 ^ (n * (q - 1)) → pzE n q l < pzE n q (l + 1)) := by
  obtain ⟨p, rfl⟩ : ∃ p, q = p + 1 := ⟨q - 1, by omega⟩
  have h := allN_i (pz1_all n (by omega) p (by omega)) hl
  unfold pzT1 at h
  rw [Bool.and_eq_true, Bool.and_eq_true, Bool.and_eq_true, Bool.or_eq_true] at h
  obtain ⟨⟨⟨h1, h2⟩, h3⟩, h4⟩ := h
  refine ⟨of_decide_eq_true h1, fun m hm => of_decide_eq_true (allN_i h2 hm), h3, fun hlt => ?_⟩
  rcases h4 with h4 | h4
  · exact absurd (of_decide_eq_true h4) (Nat.not_le.mpr hlt)
  · exact of_decide_eq_true h4
theorem pz2 {n q c : Nat} (hn : n ≤ 4) (hq1 : 1 ≤ q) (hq3 : q ≤ 3) (hc : c < 16 ^ q) (hok : okD n q c = true) : pzD n q c < 2 ^ (n * (q - 1)) ∧ (∀ m, m < q → m ≠ 0 → c / 16 ^ m % 16 = dgN n (pzD n q c * 2 ^ n) m) ∧ pzE n q (pzD n q c) ≤ c := by
  have h : pzT2 n q c = true := by
    by_cases e : q = 3
    · subst e
      have hc' : c < 4096 := hc
      have h0 : 256 * (c / 256) + c % 256 = c := Nat.div_add_mod c 256
      by_cases e2 : n = 4
      · subst e2
        have h1 := allN_i (pz2_b (c / 256) (by omega)) (show c % 256 < 256 by omega)
        rwa [h0] at h1
      · have h1 := allN_i (pz2_a n (by omega) (c / 256) (by omega)) (show c % 256 < 256 by omega)
        rwa [h0] at h1
    · obtain ⟨p, rfl⟩ : ∃ p, q = p + 1 := ⟨q - 1, by omega⟩
      exact allN_i (pz2_0 n (by omega) p (by omega)) hc
  unfold pzT2 at h
  rw [hok, Bool.not_true, Bool.false_or, Bool.and_eq_true, Bool.and_eq_true] at h
  obtain ⟨⟨h1, h2⟩, h3⟩ := h
  refine ⟨of_decide_eq_true h1, fun m hm h0 => ?_, of_decide_eq_true h3⟩
  have := of_decide_eq_true (allN_i h2 (show m - 1 < q - 1 by omega))
  rwa [show m - 1 + 1 = m by omega] at this
theorem pzE_mono {n q : Nat} (hn : n ≤ 4) (hq1 : 1 ≤ q) (hq3 : q ≤ 3) : ∀ (d l : Nat), l + d < 2 ^ (n * (q - 1)) → pzE n q l ≤ pzE n q (l + d)
  | 0, _, _ => Nat.le_refl _
  | d + 1, l, h => by
    have h1 := pzE_mono hn hq1 hq3 d l (by omega)
    have h2 := (pz1 hn hq1 hq3 (show l + d < 2 ^ (n * (q - 1)) by omega)).2.2.2 h
    rw [show l + (d + 1) = l + d + 1 by omega]
    omega
theorem cs_M {ρ σ : SN} {n rn q c P : Nat} : ∀ i, (∀ j, j < i → c / 16 ^ (q - 1 - j) % 16 = dgN n P (q - 1 - j)) → csM ρ n rn σ q c i = csN ρ n rn σ q P i
  | 0, _ => rfl
  | i + 1, h => by
    show passN ρ n (c / 16 ^ (q - 1 - i) % 16) rn (csM ρ n rn σ q c i) = passN ρ n (dgN n P (q - 1 - i)) rn (csN ρ n rn σ q P i)
    rw [cs_M i (fun j hj => h j (by omega)), h i (by omega)]
theorem bitsN_c {p p' : Nat → Bool} : ∀ n, (∀ i, i < n → p i = p' i) → bitsN p n = bitsN p' n
  | 0, _ => rfl
  | n + 1, h => by unfold bitsN; rw [bitsN_c n (fun i hi => h i (by omega)), h n (by omega)]
theorem pass_2 {ρ σ : SN} {n d1 d2 rn j : Nat} : passN ρ n d1 rn σ 2 j = passN ρ n d2 rn σ 2 j := rfl
theorem fC_eq {ρ σ : SN} {n rn q c l : Nat} (hq1 : 1 ≤ q) (h : ∀ m, m < q → m ≠ 0 → c / 16 ^ m % 16 = dgN n (l * 2 ^ n) m) : fC ρ n rn σ q c = cntP ρ n rn σ q l := by
  obtain ⟨p, rfl⟩ : ∃ p, q = p + 1 := ⟨q - 1, by omega⟩
  unfold fC cntP
  rw [bitsN_c n (fun i _ => ?_)]
  show decide (ρ 2 i ≤ passN ρ n (c / 16 ^ (p + 1 - 1 - p) % 16) rn (csM ρ n rn σ (p + 1) c p) 2 i) = decide (ρ 2 i ≤ passN ρ n (dgN n (l * 2 ^ n) (p + 1 - 1 - p)) rn (csN ρ n rn σ (p + 1) (l * 2 ^ n) p) 2 i)
  rw [cs_M p (fun j hj => h (p + 1 - 1 - j) (by omega) (by omega))]
  rw [pass_2 (d1 := c / 16 ^ (p + 1 - 1 - p) % 16) (d2 := dgN n (l * 2 ^ n) (p + 1 - 1 - p))]
theorem plN_b (f : Nat → Nat) : ∀ m, (∀ l, l ≤ m → f l ≤ (plN f m).2) ∧ ∀ l, l < (plN f m).1 → f l < (plN f m).2
  | 0 => ⟨fun l hl => by rw [show l = 0 by omega]; exact Nat.le_refl _, fun l hl => absurd hl (Nat.not_lt_zero l)⟩
  | m + 1 => by
    obtain ⟨h1, h2⟩ := plN_b f m
    have h3 := plN_le f m
    rw [plN]
    by_cases e : (plN f m).2 < f (m + 1)
    · rw [if_pos e]
      refine ⟨fun l hl => ?_, fun l hl => ?_⟩
      · show f l ≤ f (m + 1)
        by_cases e2 : l = m + 1
        · rw [e2]; exact Nat.le_refl _
        · have := h1 l (by omega); omega
      · have hl' : l < m + 1 := hl
        show f l < f (m + 1)
        have := h1 l (by omega); omega
    · rw [if_neg e]
      refine ⟨fun l hl => ?_, h2⟩
      by_cases e2 : l = m + 1
      · rw [e2]; omega
      · exact h1 l (by omega)
theorem plV_b (ok : Nat → Bool) (f : Nat → Nat) (h0 : ok 0 = true) : ∀ m, ((plV ok f m).1 ≤ m ∧ ok (plV ok f m).1 = true) ∧ (∀ l, l ≤ m → ok l = true → f l ≤ (plV ok f m).2) ∧ ∀ l, l < (plV ok f m).1 → ok l = true → f l < (plV ok f m).2
  | 0 => ⟨⟨Nat.le_refl _, h0⟩, fun l hl _ => by rw [show l = 0 by omega]; exact Nat.le_refl _, fun l hl => absurd hl (Nat.not_lt_zero l)⟩
  | m + 1 => by
    obtain ⟨⟨h3, h4⟩, h1, h2⟩ := plV_b ok f h0 m
    rw [plV_s]
    by_cases e : ok (m + 1) = true ∧ (plV ok f m).2 < f (m + 1)
    · rw [if_pos e]
      refine ⟨⟨Nat.le_refl _, e.1⟩, fun l hl ho => ?_, fun l hl ho => ?_⟩
      · show f l ≤ f (m + 1)
        by_cases e2 : l = m + 1
        · rw [e2]; exact Nat.le_refl _
        · have := h1 l (by omega) ho; have := e.2; omega
      · have hl' : l < m + 1 := hl
        show f l < f (m + 1)
        have := h1 l (by omega) ho; have := e.2; omega
    · rw [if_neg e]
      refine ⟨⟨by omega, h4⟩, fun l hl ho => ?_, h2⟩
      by_cases e2 : l = m + 1
      · rw [e2] at ho ⊢
        by_cases e3 : (plV ok f m).2 < f (m + 1)
        · exact absurd ⟨ho, e3⟩ e
        · omega
      · exact h1 l (by omega) ho
/-- both plans are one -/
theorem pz_eq {ρ σ : SN} {n rn q : Nat} (hn : n ≤ 4) (hq1 : 1 ≤ q) (hq3 : q ≤ 3) : plV (okD n q) (fC ρ n rn σ q) (2 ^ (4 * q) - 1) = (pzE n q (plN (cntP ρ n rn σ q) (2 ^ min (n * (q - 1)) 8 - 1)).1, (plN (cntP ρ n rn σ q) (2 ^ min (n * (q - 1)) 8 - 1)).2) := by
  have hm : n * (q - 1) ≤ 4 * 2 := Nat.mul_le_mul hn (by omega)
  rw [Nat.min_eq_left hm, show (2 : Nat) ^ (4 * q) = 16 ^ q by rw [Nat.pow_mul]]
  have hL0 := Nat.two_pow_pos (n * (q - 1))
  have hC0 : 0 < 16 ^ q := Nat.pow_pos (by decide)
  generalize hPV : plV (okD n q) (fC ρ n rn σ q) (16 ^ q - 1) = B
  generalize hPN : plN (cntP ρ n rn σ q) (2 ^ (n * (q - 1)) - 1) = Aa
  obtain ⟨⟨b1, b2⟩, b3, b4⟩ := plV_b (okD n q) (fC ρ n rn σ q) okD_0 (16 ^ q - 1)
  have b5 := plV_v (okD n q) (fC ρ n rn σ q) (16 ^ q - 1)
  obtain ⟨a3, a4⟩ := plN_b (cntP ρ n rn σ q) (2 ^ (n * (q - 1)) - 1)
  have a1 := plN_le (cntP ρ n rn σ q) (2 ^ (n * (q - 1)) - 1)
  have a5 := plN_v (cntP ρ n rn σ q) (2 ^ (n * (q - 1)) - 1)
  rw [hPV] at b1 b2 b3 b4 b5
  rw [hPN] at a1 a3 a4 a5
  obtain ⟨c0, v0⟩ := B
  obtain ⟨l0, w0⟩ := Aa
  dsimp only at *
  obtain ⟨d1, d2, d3⟩ := pz2 hn hq1 hq3 (show c0 < 16 ^ q by omega) b2
  obtain ⟨e1, e2, e3, -⟩ := pz1 hn hq1 hq3 (show l0 < 2 ^ (n * (q - 1)) by omega)
  have f1 := fC_eq (ρ := ρ) (σ := σ) (rn := rn) hq1 d2
  have f2 := fC_eq (ρ := ρ) (σ := σ) (rn := rn) hq1 (fun m hm _ => e2 m hm)
  have g1 := a3 (pzD n q c0) (by omega)
  have g2 := b3 (pzE n q l0) (by omega) e3
  have hv : v0 = w0 := by omega
  have hc : c0 = pzE n q l0 := by
    rcases Nat.lt_trichotomy c0 (pzE n q l0) with h | h | h
    · by_cases hlt : pzD n q c0 < l0
      · have := a4 _ hlt; omega
      · have := pzE_mono hn hq1 hq3 (pzD n q c0 - l0) l0 (by omega)
        rw [show l0 + (pzD n q c0 - l0) = pzD n q c0 by omega] at this
        omega
    · exact h
    · have := b4 _ h e3; omega
  rw [hc, hv]
set_option maxRecDepth 4000 in
theorem m_gplan {I : IT} {J : JT} {F : FT} {t : Nat} {tx : Nat → Nat} {tl : Nat} {ρ : SN} {n : Nat} {σ : SN} {rg : Nat → SN} {nx na : Nat} {γ : SN} {gn : Nat} {sl : Nat → SN} {sf : Nat → Bool} {sd : Int64} (hF : Fok F) (hC : MR I J tx tl ρ n σ rg nx na γ gn sl sf sd) (hO : OKS t tx tl ρ n σ rg nx na γ gn sl sf) (ht : t + 100 ≤ 1000) {x y : Int32} : Sp 149 [vR 173, vI x, vI y] KK I J F (PN (a_plan ρ n σ x y, (tx, tl, ρ, n, σ, rg, nx, na, γ, gn, sl, sf, sd)) I J F) := by
  have hC0 := hC
  obtain ⟨hTx, hRo, hNo, hAc, hGa, hSl, hsd⟩ := hC
  obtain ⟨ht40, hx256, hρ, hok, hrg, hnx, hna, hgo, hsl, hz, hzr, hzs, hn6⟩ := hO
  have hd64 := hok.2.2.2.2.2
  have hgn6 := hGa.1
  refine Sp.mk2 (Nat.le_of_ble_eq_true rfl) (L2 := [_, _, _]) rfl ?_
  refine wp_iload_n (pc := 0) (i := 1) d_149_0 rfl rfl ?_
  refine wp_i2l (pc := 1) d_149_1 ?_
  refine wp_lconst (pc := 2) (v := lN 1) d_149_2 (by decide) ?_
  refine wr_ldc2M (pc := 3) (m := 3) d_149_3 cs_10_103 (by decide) ?_
  refine wp_callS3p (pc := 6) d_149_6 lk_10_59 (by decide) rfl (Nat.le_of_ble_eq_true rfl) (c_inN x 1 3 (by decide) (by decide)) ?_
  refine wp_ifB_eq (pc := 9) (tgt := 24) d_149_9 (by decide) (fun zq9 => ?_) (fun zq9 => ?_)
  · refine wp_bipush (pc := 24) (v := (-2)) d_149_24 (by decide) ?_
    have hp : prI n x y = -2 := by unfold prI; rw [if_neg (nT zq9)]
    exact wp_iret (pc := 26) d_149_26 (Or.inl rfl) (PN.q (by unfold a_plan; rw [hp, if_neg (by decide)]) hC0 ⟨fun _ _ => rfl, rfl⟩)
  · obtain ⟨jq, h0jq, h1jq, hxjq⟩ := inB_t zq9 (by decide) (by decide)
    subst hxjq
    have hcjq : (nI jq).toNatClampNeg = jq := nI_clamp (by omega)
    refine wp_iload_n (pc := 12) (i := 2) d_149_12 rfl rfl ?_
    refine wp_i2l (pc := 13) d_149_13 ?_
    refine wp_lconst (pc := 14) (v := lN 0) d_149_14 (by decide) ?_
    refine wr_ldc2M (pc := 15) (m := 9) d_149_15 cs_10_74 (by decide) ?_
    refine wp_callS3p (pc := 18) d_149_18 lk_10_59 (by decide) rfl (Nat.le_of_ble_eq_true rfl) (c_inN y 0 9 (by decide) (by decide)) ?_
    refine wp_ifB_ne (pc := 21) (tgt := 27) d_149_21 (by decide) (fun zq21 => ?_) (fun zq21 => ?_)
    · obtain ⟨rn, h0rn, h1rn, hxrn⟩ := inB_t zq21 (by decide) (by decide)
      subst hxrn
      have hcrn : (nI rn).toNatClampNeg = rn := nI_clamp (by omega)
      refine wp_aload_n (pc := 27) (i := 0) d_149_27 rfl rfl ?_
      refine wp_gI (pc := 28) d_149_28 fl_10_53 rfl ft_9_5 hRo.2.1 ?_
      refine wp_icN (pc := 31) (m := 4) d_149_31 (by decide) ?_
      refine wp_icmpN_le (pc := 32) (tgt := 38) d_149_32 (by decide) (by omega) (by decide) (fun zq32 => ?_) (fun zq32 => ?_)
      · have hn4 : n ≤ 4 := by omega
        have hp : prI n (nI jq) (nI rn) = 0 := by unfold prI; rw [if_pos zq9, if_pos zq21, if_neg (show ¬ 4 < n by omega)]; rfl
        refine wp_aload_n (pc := 38) (i := 0) d_149_38 rfl rfl ?_
        refine wp_iload_n (pc := 39) (i := 1) d_149_39 rfl rfl ?_
        refine wp_iload_n (pc := 40) (i := 2) d_149_40 rfl rfl ?_
        refine wp_callV2e (pc := 41) d_149_41 lk_10_146 (by decide) rfl (Nat.le_of_ble_eq_true rfl) rfl rfl (m_layPlan (q := jq) (rn := rn) hF hRo hNo.1 hρ (by omega) hok (by omega) h0jq h1jq) (fun Iq41 hq41 => ?_)
        have hscm := hq41.2
        rw [pz_eq hn4 h0jq h1jq] at hq41
        refine wp_pop (pc := 44) d_149_44 rfl ?_
        refine wp_aload_n (pc := 45) (i := 0) d_149_45 rfl rfl ?_
        refine wp_gI (pc := 46) d_149_46 fl_10_133 rfl ft_9_17 hq41.1 ?_
        exact wp_iret (pc := 49) d_149_49 (Or.inl rfl) (PN.q (by unfold a_plan; rw [if_pos hp, hcjq, hcrn]) (hC0.k hscm) hscm.O)
      · refine wp_bipush (pc := 35) (v := (-3)) d_149_35 (by decide) ?_
        have hp : prI n (nI jq) (nI rn) = -3 := by unfold prI; rw [if_pos zq9, if_pos zq21, if_pos (show 4 < n by omega)]
        exact wp_iret (pc := 37) d_149_37 (Or.inl rfl) (PN.q (by unfold a_plan; rw [hp, if_neg (by decide)]) hC0 ⟨fun _ _ => rfl, rfl⟩)
    · refine wp_bipush (pc := 24) (v := (-2)) d_149_24 (by decide) ?_
      have hp : prI n (nI jq) y = -2 := by unfold prI; rw [if_pos zq9, if_neg (nT zq21)]
      exact wp_iret (pc := 26) d_149_26 (Or.inl rfl) (PN.q (by unfold a_plan; rw [hp, if_neg (by decide)]) hC0 ⟨fun _ _ => rfl, rfl⟩)
set_option maxRecDepth 4000 in
theorem m_gplanAt {I : IT} {J : JT} {F : FT} {t : Nat} {tx : Nat → Nat} {tl : Nat} {ρ : SN} {n : Nat} {σ : SN} {rg : Nat → SN} {nx na : Nat} {γ : SN} {gn : Nat} {sl : Nat → SN} {sf : Nat → Bool} {sd : Int64} (hF : Fok F) (hC : MR I J tx tl ρ n σ rg nx na γ gn sl sf sd) (hO : OKS t tx tl ρ n σ rg nx na γ gn sl sf) (ht : t + 100 ≤ 1000) {x y z : Int32} : Sp 151 [vR 173, vI x, vI y, vI z] KK I J F (PN (a_planAt ρ n σ x y z, (tx, tl, ρ, n, σ, rg, nx, na, γ, gn, sl, sf, sd)) I J F) := by
  have hC0 := hC
  obtain ⟨hTx, hRo, hNo, hAc, hGa, hSl, hsd⟩ := hC
  obtain ⟨ht40, hx256, hρ, hok, hrg, hnx, hna, hgo, hsl, hz, hzr, hzs, hn6⟩ := hO
  have hd64 := hok.2.2.2.2.2
  have hgn6 := hGa.1
  refine Sp.mk2 (Nat.le_of_ble_eq_true rfl) (L2 := [_, _, _, _]) rfl ?_
  refine wp_iload_n (pc := 0) (i := 1) d_151_0 rfl rfl ?_
  refine wp_i2l (pc := 1) d_151_1 ?_
  refine wp_lconst (pc := 2) (v := lN 1) d_151_2 (by decide) ?_
  refine wr_ldc2M (pc := 3) (m := 3) d_151_3 cs_10_103 (by decide) ?_
  refine wp_callS3p (pc := 6) d_151_6 lk_10_59 (by decide) rfl (Nat.le_of_ble_eq_true rfl) (c_inN x 1 3 (by decide) (by decide)) ?_
  refine wp_ifB_eq (pc := 9) (tgt := 24) d_151_9 (by decide) (fun zq9 => ?_) (fun zq9 => ?_)
  · refine wp_bipush (pc := 24) (v := (-2)) d_151_24 (by decide) ?_
    have hp : prI n x y = -2 := by unfold prI; rw [if_neg (nT zq9)]
    exact wp_iret (pc := 26) d_151_26 (Or.inl rfl) (PN.q (by unfold a_planAt; rw [hp, if_neg (by decide)]) hC0 ⟨fun _ _ => rfl, rfl⟩)
  · obtain ⟨jq, h0jq, h1jq, hxjq⟩ := inB_t zq9 (by decide) (by decide)
    subst hxjq
    have hcjq : (nI jq).toNatClampNeg = jq := nI_clamp (by omega)
    refine wp_iload_n (pc := 12) (i := 2) d_151_12 rfl rfl ?_
    refine wp_i2l (pc := 13) d_151_13 ?_
    refine wp_lconst (pc := 14) (v := lN 0) d_151_14 (by decide) ?_
    refine wr_ldc2M (pc := 15) (m := 9) d_151_15 cs_10_74 (by decide) ?_
    refine wp_callS3p (pc := 18) d_151_18 lk_10_59 (by decide) rfl (Nat.le_of_ble_eq_true rfl) (c_inN y 0 9 (by decide) (by decide)) ?_
    refine wp_ifB_ne (pc := 21) (tgt := 27) d_151_21 (by decide) (fun zq21 => ?_) (fun zq21 => ?_)
    · obtain ⟨rn, h0rn, h1rn, hxrn⟩ := inB_t zq21 (by decide) (by decide)
      subst hxrn
      have hcrn : (nI rn).toNatClampNeg = rn := nI_clamp (by omega)
      refine wp_aload_n (pc := 27) (i := 0) d_151_27 rfl rfl ?_
      refine wp_gI (pc := 28) d_151_28 fl_10_53 rfl ft_9_5 hRo.2.1 ?_
      refine wp_icN (pc := 31) (m := 4) d_151_31 (by decide) ?_
      refine wp_icmpN_le (pc := 32) (tgt := 38) d_151_32 (by decide) (by omega) (by decide) (fun zq32 => ?_) (fun zq32 => ?_)
      · have hn4 : n ≤ 4 := by omega
        have hp : prI n (nI jq) (nI rn) = 0 := by unfold prI; rw [if_pos zq9, if_pos zq21, if_neg (show ¬ 4 < n by omega)]; rfl
        refine wp_iload_n (pc := 38) (i := 3) d_151_38 rfl rfl ?_
        refine wp_i2l (pc := 39) d_151_39 ?_
        refine wp_lconst (pc := 40) (v := lN 0) d_151_40 (by decide) ?_
        refine wp_iload_n (pc := 41) (i := 1) d_151_41 rfl rfl ?_
        refine wp_icN (pc := 42) (m := 1) d_151_42 (by decide) ?_
        refine wp_isubN (pc := 43) d_151_43 h0jq ?_
        refine wr_i2lM (pc := 44) d_151_44 (by omega) ?_
        refine wp_callS3p (pc := 45) d_151_45 lk_10_59 (by decide) rfl (Nat.le_of_ble_eq_true rfl) (c_inN z 0 (jq - 1) (by decide) (by omega)) ?_
        refine wp_ifB_eq (pc := 48) (tgt := 71) d_151_48 (by decide) (fun zq48 => ?_) (fun zq48 => ?_)
        · refine wp_bipush (pc := 71) (v := (-9)) d_151_71 (by decide) ?_
          exact wp_iret (pc := 73) d_151_73 (Or.inl rfl) (PN.q (by unfold a_planAt; rw [if_pos hp, hcjq, if_neg (nT zq48)]) hC0 ⟨fun _ _ => rfl, rfl⟩)
        · obtain ⟨ji, h0ji, h1ji, hxji⟩ := inB_t zq48 (by decide) (by omega)
          subst hxji
          have hcji : (nI ji).toNatClampNeg = ji := nI_clamp (by omega)
          have hL8 : 2 ^ min (n * (jq - 1)) 8 = 2 ^ (n * (jq - 1)) := by rw [Nat.min_eq_left (show n * (jq - 1) ≤ 4 * 2 from Nat.mul_le_mul hn4 (by omega))]
          have hLp := Nat.two_pow_pos (n * (jq - 1))
          have hll := plN_le (cntP ρ n rn σ jq) (2 ^ min (n * (jq - 1)) 8 - 1)
          have hpz := pz1 hn4 h0jq h1jq (show (plN (cntP ρ n rn σ jq) ((2 ^ min (n * (jq - 1)) 8) - 1)).1 < 2 ^ (n * (jq - 1)) by rw [hL8] at hll ⊢; omega)
          have h16q : 16 ^ jq ≤ 16 ^ 3 := Nat.pow_le_pow_right (by decide) h1jq
          have hP31 : (plV (okD n jq) (fC ρ n rn σ jq) (2 ^ (4 * jq) - 1)).1 < 2 ^ 31 := by rw [pz_eq hn4 h0jq h1jq]; show pzE n jq (plN (cntP ρ n rn σ jq) ((2 ^ min (n * (jq - 1)) 8) - 1)).1 < 2 ^ 31; have := hpz.1; omega
          refine wp_aload_n (pc := 51) (i := 0) d_151_51 rfl rfl ?_
          refine wp_iload_n (pc := 52) (i := 1) d_151_52 rfl rfl ?_
          refine wp_iload_n (pc := 53) (i := 2) d_151_53 rfl rfl ?_
          refine wp_callV2e (pc := 54) d_151_54 lk_10_146 (by decide) rfl (Nat.le_of_ble_eq_true rfl) rfl rfl (m_layPlan (q := jq) (rn := rn) hF hRo hNo.1 hρ (by omega) hok (by omega) h0jq h1jq) (fun Iq54 hq54 => ?_)
          have hscm := hq54.2
          rw [pz_eq hn4 h0jq h1jq] at hq54
          refine wp_icN (pc := 57) (m := 4) d_151_57 (by decide) ?_
          refine wp_iload_n (pc := 58) (i := 1) d_151_58 rfl rfl ?_
          refine wp_icN (pc := 59) (m := 1) d_151_59 (by decide) ?_
          refine wp_isubN (pc := 60) d_151_60 h0jq ?_
          refine wp_iload_n (pc := 61) (i := 3) d_151_61 rfl rfl ?_
          refine wp_isubN (pc := 62) d_151_62 h1ji ?_
          refine wp_imulN (pc := 63) d_151_63 ?_
          refine wp_ishr (pc := 64) d_151_64 ?_
          refine wp_bpN (pc := 65) (m := 15) d_151_65 (by decide) ?_
          refine wp_iand (pc := 67) d_151_67 ?_
          rw [dg16 hP31 (by omega), show (plV (okD n jq) (fC ρ n rn σ jq) (2 ^ (4 * jq) - 1)).1 / 16 ^ (jq - 1 - ji) % 16 = dgN n ((plN (cntP ρ n rn σ jq) ((2 ^ min (n * (jq - 1)) 8) - 1)).1 * 2 ^ n) (jq - 1 - ji) by rw [pz_eq hn4 h0jq h1jq]; exact hpz.2.1 _ (by omega)]
          refine wp_goto (pc := 68) (tgt := 73) d_151_68 (by decide) ?_
          exact wp_iret (pc := 73) d_151_73 (Or.inl rfl) (PN.q (by unfold a_planAt; rw [if_pos hp, hcjq, hcrn, if_pos zq48, hcji]) (hC0.k hscm) hscm.O)
      · refine wp_bipush (pc := 35) (v := (-3)) d_151_35 (by decide) ?_
        have hp : prI n (nI jq) (nI rn) = -3 := by unfold prI; rw [if_pos zq9, if_pos zq21, if_pos (show 4 < n by omega)]
        exact wp_iret (pc := 37) d_151_37 (Or.inl rfl) (PN.q (by unfold a_planAt; rw [hp, if_neg (by decide)]) hC0 ⟨fun _ _ => rfl, rfl⟩)
    · refine wp_bipush (pc := 24) (v := (-2)) d_151_24 (by decide) ?_
      have hp : prI n (nI jq) y = -2 := by unfold prI; rw [if_pos zq9, if_neg (nT zq21)]
      exact wp_iret (pc := 26) d_151_26 (Or.inl rfl) (PN.q (by unfold a_planAt; rw [hp, if_neg (by decide)]) hC0 ⟨fun _ _ => rfl, rfl⟩)
