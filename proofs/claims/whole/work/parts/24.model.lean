/-- water and soap as a row of numbers, from place f on -/
def mW (v : Nat → Int32) (f : Nat) (σ : SN) : Prop := (∀ k, k < 4 → ∀ j, j < 6 → v (f + 6 * k + j) = nI (σ k j)) ∧ v (f + 24) = nI (σ 4 4) ∧ v (f + 25) = nI (σ 4 5)
abbrev mTx (I : IT) (tx : Nat → Nat) (tl : Nat) : Prop := I 173 9 = nI tl ∧ ∀ j, j < tl → I 178 j = nI (tx j)
abbrev mRo (I : IT) (ρ : SN) (n : Nat) : Prop := n ≤ 6 ∧ I 173 5 = nI n ∧ ∀ k, k < 4 → ∀ j, j < n → I 176 (4 * j + k) = nI (ρ k j)
abbrev mNo (I : IT) (σ : SN) : Prop := mW (I 177) 0 σ ∧ I 173 7 = nI (σ 4 6) ∧ I 173 6 = nI (σ 4 7)
abbrev mAc (I : IT) (rg : Nat → SN) (nx na : Nat) : Prop := I 173 13 = nI nx ∧ I 173 12 = nI na ∧ ∀ i, i < 12 → mW (I 179) (27 * i) (rg i) ∧ I 179 (27 * i + 26) = nI (rg i 4 6)
abbrev mGa (I : IT) (γ : SN) (gn : Nat) : Prop := gn ≤ 6 ∧ I 173 19 = nI gn ∧ ∀ j, j < gn → I 183 j = nI (γ 0 j) ∧ I 184 j = nI (γ 1 j) ∧ I 185 j = nI (γ 2 j)
abbrev mSl (I : IT) (sl : Nat → SN) (sf : Nat → Bool) : Prop := (∀ i, i < 2 → mW (I 187) (28 * i) (sl i) ∧ I 187 (28 * i + 26) = nI (sl i 4 6) ∧ I 187 (28 * i + 27) = nI (sl i 4 7)) ∧ ∀ i, i < 2 → I 186 i = b2 (sf i)
abbrev MR (I : IT) (J : JT) (tx : Nat → Nat) (tl : Nat) (ρ : SN) (n : Nat) (σ : SN) (rg : Nat → SN) (nx na : Nat) (γ : SN) (gn : Nat) (sl : Nat → SN) (sf : Nat → Bool) (sd : Int64) : Prop := mTx I tx tl ∧ mRo I ρ n ∧ mNo I σ ∧ mAc I rg nx na ∧ mGa I γ gn ∧ mSl I sl sf ∧ J 173 23 = sd
abbrev MRt (I : IT) (J : JT) (s0 : SS) : Prop := MR I J s0.1 s0.2.1 s0.2.2.1 s0.2.2.2.1 s0.2.2.2.2.1 s0.2.2.2.2.2.1 s0.2.2.2.2.2.2.1 s0.2.2.2.2.2.2.2.1 s0.2.2.2.2.2.2.2.2.1 s0.2.2.2.2.2.2.2.2.2.1 s0.2.2.2.2.2.2.2.2.2.2.1 s0.2.2.2.2.2.2.2.2.2.2.2.1 s0.2.2.2.2.2.2.2.2.2.2.2.2
def OM (I : IT) (J : JT) (I2 : IT) (J2 : JT) : Prop := (∀ a, a < 173 → I2 a = I a) ∧ J2 1 = J 1
def PN (q : Int32 × SS) (I : IT) (J : JT) (F : FT) : RT → Prop := fun R => ∃ I2 J2, R = (some (vI q.1), KK, I2, J2, F) ∧ MRt I2 J2 q.2 ∧ OM I J I2 J2
def PNL (q : Int64 × SS) (I : IT) (J : JT) (F : FT) : RT → Prop := fun R => ∃ I2 J2, R = (some (vL q.1), KK, I2, J2, F) ∧ MRt I2 J2 q.2 ∧ OM I J I2 J2
theorem PN.mk {q : Int32 × SS} {v : Int32} {s0 : SS} {I I2 : IT} {J J2 : JT} {F : FT} (hq : q = (v, s0)) (hC : MRt I2 J2 s0) (hO : OM I J I2 J2) : PN q I J F (some (vI v), KK, I2, J2, F) := ⟨I2, J2, by rw [hq], by rw [hq]; exact hC, hO⟩
theorem PNL.mk {q : Int64 × SS} {v : Int64} {s0 : SS} {I I2 : IT} {J J2 : JT} {F : FT} (hq : q = (v, s0)) (hC : MRt I2 J2 s0) (hO : OM I J I2 J2) : PNL q I J F (some (vL v), KK, I2, J2, F) := ⟨I2, J2, by rw [hq], by rw [hq]; exact hC, hO⟩
theorem PN.q {x v : Int32} {s0 : SS} {I I2 : IT} {J J2 : JT} {F : FT} (hq : x = v) (hC : MRt I2 J2 s0) (hO : OM I J I2 J2) : PN (x, s0) I J F (some (vI v), KK, I2, J2, F) := ⟨I2, J2, by rw [hq], hC, hO⟩
theorem PNL.q {x v : Int64} {s0 : SS} {I I2 : IT} {J J2 : JT} {F : FT} (hq : x = v) (hC : MRt I2 J2 s0) (hO : OM I J I2 J2) : PNL (x, s0) I J F (some (vL v), KK, I2, J2, F) := ⟨I2, J2, by rw [hq], hC, hO⟩
/-- scratch alone is otherwise -/
def SCM (I I2 : IT) : Prop := (∀ q, q ≠ 2 → q ≠ 10 → q ≠ 11 → q ≠ 17 → I2 173 q = I 173 q) ∧ (∀ k, k < 30 → I2 177 k = I 177 k) ∧ ∀ a, (a < 173 ∨ a = 176 ∨ (177 < a ∧ a < 180) ∨ 182 < a) → I2 a = I a
theorem SCM.rf {I : IT} : SCM I I := ⟨fun _ _ _ _ _ => rfl, fun _ _ => rfl, fun _ _ => rfl⟩
theorem SCM.tr {I I2 I3 : IT} (h : SCM I I2) (k : SCM I2 I3) : SCM I I3 := ⟨fun q h1 h2 h3 h4 => (k.1 q h1 h2 h3 h4).trans (h.1 q h1 h2 h3 h4), fun j hj => (k.2.1 j hj).trans (h.2.1 j hj), fun a ha => (k.2.2 a ha).trans (h.2.2 a ha)⟩
theorem mW.k {v v2 : Nat → Int32} {f : Nat} {σ : SN} (h : mW v f σ) (k : ∀ q, f ≤ q → q < f + 26 → v2 q = v q) : mW v2 f σ := ⟨fun k2 hk j hj => by rw [k _ (by omega) (by omega)]; exact h.1 k2 hk j hj, by rw [k _ (by omega) (by omega)]; exact h.2.1, by rw [k _ (by omega) (by omega)]; exact h.2.2⟩
/-- copied from place f to place f2 -/
theorem mW.cp {v v2 : Nat → Int32} {f f2 : Nat} {σ : SN} (h : mW v f σ) (k : ∀ q, q < 26 → v2 (f2 + q) = v (f + q)) : mW v2 f2 σ := ⟨fun k2 hk j hj => by rw [Nat.add_assoc, k _ (by omega), ← Nat.add_assoc]; exact h.1 k2 hk j hj, by rw [k _ (by omega)]; exact h.2.1, by rw [k _ (by omega)]; exact h.2.2⟩
theorem mRo.k {I I2 : IT} {ρ : SN} {n : Nat} (h : mRo I ρ n) (k : I2 173 5 = I 173 5) (k2 : I2 176 = I 176) : mRo I2 ρ n := ⟨h.1, k.trans h.2.1, fun k3 hk j hj => by rw [k2]; exact h.2.2 k3 hk j hj⟩
theorem MR.k {I I2 : IT} {J : JT} {tx : Nat → Nat} {tl : Nat} {ρ : SN} {n : Nat} {σ : SN} {rg : Nat → SN} {nx na : Nat} {γ : SN} {gn : Nat} {sl : Nat → SN} {sf : Nat → Bool} {sd : Int64} (h : MR I J tx tl ρ n σ rg nx na γ gn sl sf sd) (k : SCM I I2) : MR I2 J tx tl ρ n σ rg nx na γ gn sl sf sd := by
  obtain ⟨h1, h2, h3, h4, h5, h6, h7⟩ := h
  obtain ⟨k1, k2, k3⟩ := k
  refine ⟨⟨(k1 9 (by decide) (by decide) (by decide) (by decide)).trans h1.1, fun j hj => by rw [k3 178 (by omega)]; exact h1.2 j hj⟩, h2.k (k1 5 (by decide) (by decide) (by decide) (by decide)) (k3 176 (by omega)), ⟨h3.1.k (fun q _ hq => k2 q (by omega)), (k1 7 (by decide) (by decide) (by decide) (by decide)).trans h3.2.1, (k1 6 (by decide) (by decide) (by decide) (by decide)).trans h3.2.2⟩, ⟨(k1 13 (by decide) (by decide) (by decide) (by decide)).trans h4.1, (k1 12 (by decide) (by decide) (by decide) (by decide)).trans h4.2.1, fun i hi => ?_⟩, ⟨h5.1, (k1 19 (by decide) (by decide) (by decide) (by decide)).trans h5.2.1, fun j hj => ?_⟩, ⟨fun i hi => ?_, fun i hi => ?_⟩, h7⟩
  · rw [k3 179 (by omega)]; exact h4.2.2 i hi
  · rw [k3 183 (by omega), k3 184 (by omega), k3 185 (by omega)]; exact h5.2.2 j hj
  · rw [k3 187 (by omega)]; exact h6.1 i hi
  · rw [k3 186 (by omega)]; exact h6.2 i hi
theorem SCM.O {I I2 : IT} {J : JT} (k : SCM I I2) : OM I J I2 J := ⟨fun a ha => k.2.2 a (by omega), rfl⟩
theorem i64c (x : Int32) : (x.toInt64).toInt = x.toInt := Int32.toInt_toInt64 x
theorem lcmp_lt {a b : Int64} : lg_cmp a b < 0 ↔ a < b := by
  unfold lg_cmp
  by_cases h1 : a > b
  · rw [if_pos h1]
    exact ⟨fun h => absurd h (by decide), fun h => absurd (Int64.lt_trans h h1) (Int64.lt_irrefl)⟩
  · rw [if_neg h1]
    by_cases h2 : a = b
    · rw [if_pos h2, h2]
      exact ⟨fun h => absurd h (by decide), fun h => absurd h (Int64.lt_irrefl)⟩
    · rw [if_neg h2]
      refine ⟨fun _ => ?_, fun _ => by decide⟩
      rw [Int64.lt_iff_toInt_lt] at *
      have : a.toInt ≠ b.toInt := fun h => h2 (Int64.toInt_inj.mp h)
      have h3 : ¬ b.toInt < a.toInt := fun h => h1 (Int64.lt_iff_toInt_lt.mpr h)
      omega
theorem lcmp_gt {a b : Int64} : (0 : Int32) < lg_cmp a b ↔ b < a := by
  unfold lg_cmp
  by_cases h1 : a > b
  · rw [if_pos h1]
    exact ⟨fun _ => h1, fun _ => by decide⟩
  · rw [if_neg h1]
    by_cases h2 : a = b
    · rw [if_pos h2]
      exact ⟨fun h => absurd h (by decide), fun h => absurd h h1⟩
    · rw [if_neg h2]
      exact ⟨fun h => absurd h (by decide), fun h => absurd h h1⟩
set_option maxRecDepth 4000 in
theorem c_in {I : IT} {J : JT} {F : FT} (x lo hi : Int32) : Sp 122 [vL x.toInt64, vL lo.toInt64, vL hi.toInt64] KK I J F (fun R => R = (some (vI (b2 (inB x lo hi))), KK, I, J, F)) := by
  refine Sp.mk2 (Nat.le_of_ble_eq_true rfl) (L2 := [_, _, _, _, _, _]) rfl ?_
  refine wp_lload_n (pc := 0) (i := 0) d_122_0 rfl rfl ?_
  refine wp_lload_n (pc := 1) (i := 2) d_122_1 rfl rfl ?_
  refine wp_lcmp (pc := 2) d_122_2 ?_
  refine wp_if_lt (pc := 3) (tgt := 17) d_122_3 (by decide) (fun zq3 => ?_) (fun zq3 => ?_)
  · refine wp_icN (pc := 17) (m := 0) d_122_17 (by decide) ?_
    refine wp_iret (pc := 18) d_122_18 (Or.inr ⟨rfl, by decide⟩) ?_
    have hbi : inB x lo hi = false := by unfold inB; exact decide_eq_false (by simp only [lcmp_lt, lcmp_gt, Int64.lt_iff_toInt_lt, i64c] at zq3; omega)
    rw [hbi]; rfl
  · refine wp_lload_n (pc := 6) (i := 0) d_122_6 rfl rfl ?_
    refine wp_lload (pc := 7) d_122_7 rfl ?_
    refine wp_lcmp (pc := 9) d_122_9 ?_
    refine wp_if_gt (pc := 10) (tgt := 17) d_122_10 (by decide) (fun zq10 => ?_) (fun zq10 => ?_)
    · refine wp_icN (pc := 17) (m := 0) d_122_17 (by decide) ?_
      refine wp_iret (pc := 18) d_122_18 (Or.inr ⟨rfl, by decide⟩) ?_
      have hbi : inB x lo hi = false := by unfold inB; exact decide_eq_false (by simp only [lcmp_lt, lcmp_gt, Int64.lt_iff_toInt_lt, i64c] at zq3 zq10; omega)
      rw [hbi]; rfl
    · refine wp_icN (pc := 13) (m := 1) d_122_13 (by decide) ?_
      refine wp_goto (pc := 14) (tgt := 18) d_122_14 (by decide) ?_
      refine wp_iret (pc := 18) d_122_18 (Or.inr ⟨rfl, by decide⟩) ?_
      have hbi : inB x lo hi = true := by unfold inB; exact decide_eq_true (by simp only [lcmp_lt, lcmp_gt, Int64.lt_iff_toInt_lt, i64c] at zq3 zq10; omega)
      rw [hbi]; rfl
theorem c_inN {I : IT} {J : JT} {F : FT} (x : Int32) (lo hi : Nat) (h1 : lo < 2 ^ 31) (h2 : hi < 2 ^ 31) : Sp 122 [vL x.toInt64, vL (lN lo), vL (lN hi)] KK I J F (fun R => R = (some (vI (b2 (inB x (nI lo) (nI hi)))), KK, I, J, F)) := by
  have h := c_in (I := I) (J := J) (F := F) x (nI lo) (nI hi)
  rw [nI_l h1, nI_l h2] at h
  exact h
theorem inB_R {x : Int32} {n : Nat} (hn : n ≤ 6) : inB x (nI 0) (nI n - nI 1) = inR x n := by
  unfold inB inR
  have h0 : (nI 0).toInt = 0 := by decide
  have h1 : (nI n - nI 1).toInt = (n : Int) - 1 := (show ∀ n, n ≤ 6 → (nI n - nI 1).toInt = (n : Int) - 1 by decide) n hn
  rw [h0, h1]
  by_cases h : 0 ≤ x.toInt ∧ x.toInt < n
  · rw [decide_eq_true h, decide_eq_true (by omega)]
  · rw [decide_eq_false h, decide_eq_false (by omega)]
theorem c_in0 {I : IT} {J : JT} {F : FT} (x hi : Int32) : Sp 122 [vL x.toInt64, vL (lN 0), vL hi.toInt64] KK I J F (fun R => R = (some (vI (b2 (inB x (nI 0) hi))), KK, I, J, F)) := by
  have h := c_in (I := I) (J := J) (F := F) x (nI 0) hi
  rw [nI_l (by decide)] at h
  exact h
set_option maxRecDepth 4000 in
theorem m_isRoof {I : IT} {J : JT} {F : FT} {ρ : SN} {n : Nat} (hF : Fok F) (hRo : mRo I ρ n) (x : Int32) : Sp 130 [vR 173, vI x] KK I J F (fun R => R = (some (vI (b2 (inR x n))), KK, I, J, F)) := by
  refine Sp.mk2 (Nat.le_of_ble_eq_true rfl) (L2 := [_, _]) rfl ?_
  refine wp_iload_n (pc := 0) (i := 1) d_130_0 rfl rfl ?_
  refine wp_i2l (pc := 1) d_130_1 ?_
  refine wp_lconst (pc := 2) (v := lN 0) d_130_2 (by decide) ?_
  refine wp_aload_n (pc := 3) (i := 0) d_130_3 rfl rfl ?_
  refine wp_gI (pc := 4) d_130_4 fl_10_53 rfl ft_9_5 (hRo.2.1) ?_
  refine wp_icN (pc := 7) (m := 1) d_130_7 (by decide) ?_
  refine wp_isub (pc := 8) d_130_8 ?_
  refine wp_i2l (pc := 9) d_130_9 ?_
  refine wp_callS3p (pc := 10) d_130_10 lk_10_59 (by decide) rfl (Nat.le_of_ble_eq_true rfl) (c_in0 x (nI n - nI 1)) ?_
  exact wp_iret (pc := 13) d_130_13 (Or.inr ⟨rfl, b2_01 _⟩) (by rw [inB_R hRo.1])
set_option maxRecDepth 4000 in
theorem m_hasEnough {I : IT} {J : JT} {F : FT} {ρ σ : SN} {n f j : Nat} (hF : Fok F) (hRo : mRo I ρ n) (hW : mW (I 177) f σ) (hf : f ≤ 30) (hj : j < n) (hρ : ∀ k j, ρ k j ≤ 9) (hb : σ 2 j < 2 ^ 31) : Sp 131 [vR 173, vI (nI f), vI (nI j)] KK I J F (fun R => R = (some (vI (b2 (enN ρ σ j))), KK, I, J, F)) := by
  have hn6 := hRo.1
  refine Sp.mk2 (Nat.le_of_ble_eq_true rfl) (L2 := [_, _, _]) rfl ?_
  refine wp_aload_n (pc := 0) (i := 0) d_131_0 rfl rfl ?_
  refine wp_gA (pc := 1) d_131_1 fl_10_19 rfl ft_9_4 (F_173_4 hF) ?_
  refine wp_iload_n (pc := 4) (i := 1) d_131_4 rfl rfl ?_
  refine wp_bpN (pc := 5) (m := 12) d_131_5 (by decide) ?_
  refine wp_iaddN (pc := 7) d_131_7 ?_
  refine wp_iload_n (pc := 8) (i := 2) d_131_8 rfl rfl ?_
  refine wp_iaddN (pc := 9) d_131_9 ?_
  refine wp_aL (pc := 10) (j := ((f + 12) + j)) d_131_10 rfl rfl (by omega) (by decide) (hW.1 2 (by decide) j (by omega)) ?_
  refine wp_aload_n (pc := 11) (i := 0) d_131_11 rfl rfl ?_
  refine wp_gA (pc := 12) d_131_12 fl_10_16 rfl ft_9_3 (F_173_3 hF) ?_
  refine wp_icN (pc := 15) (m := 4) d_131_15 (by decide) ?_
  refine wp_iload_n (pc := 16) (i := 2) d_131_16 rfl rfl ?_
  refine wp_imulN (pc := 17) d_131_17 ?_
  refine wp_icN (pc := 18) (m := 2) d_131_18 (by decide) ?_
  refine wp_iaddN (pc := 19) d_131_19 ?_
  refine wp_aL (pc := 20) (j := ((4 * j) + 2)) d_131_20 rfl rfl (by omega) (by decide) (hRo.2.2 2 (by decide) j hj) ?_
  refine wp_icmpN_lt (pc := 21) (tgt := 28) d_131_21 (by decide) (by omega) (by have := hρ 2 j; omega) (fun zq21 => ?_) (fun zq21 => ?_)
  · refine wp_icN (pc := 28) (m := 0) d_131_28 (by decide) ?_
    refine wp_iret (pc := 29) d_131_29 (Or.inr ⟨rfl, by decide⟩) ?_
    rw [show enN ρ σ j = false from decide_eq_false (by omega)]; rfl
  · refine wp_icN (pc := 24) (m := 1) d_131_24 (by decide) ?_
    refine wp_goto (pc := 25) (tgt := 29) d_131_25 (by decide) ?_
    refine wp_iret (pc := 29) d_131_29 (Or.inr ⟨rfl, by decide⟩) ?_
    rw [show enN ρ σ j = true from decide_eq_true (by omega)]; rfl
theorem algM {s g a : Nat} (h : a = 0 → s = 0) (hg : g ≤ a) (h0 : ¬ a = 0) : s * g / a = alg s g a := by
  unfold alg
  by_cases e : a ≤ g ∨ a < 1
  · rw [if_pos e, show g = a by omega, Nat.mul_div_cancel _ (by omega)]
  · rw [if_neg e]
theorem algM0 {s g a : Nat} (h : a = 0 → s = 0) (h0 : a = 0) : alg s g a = 0 := by
  unfold alg
  rw [if_pos (by omega), h h0]
set_option maxRecDepth 4000 in
theorem m_along {I : IT} {J : JT} {F : FT} {s g a : Nat} (h0 : a = 0 → s = 0) (hg : g ≤ a) (ha : a < 2 ^ 31) (hsg : s * g < 2 ^ 31) : Sp 136 [vI (nI s), vI (nI g), vI (nI a)] KK I J F (fun R => R = (some (vI (nI (alg s g a))), KK, I, J, F)) := by
  refine Sp.mk2 (Nat.le_of_ble_eq_true rfl) (L2 := [_, _, _]) rfl ?_
  refine wp_iload_n (pc := 0) (i := 2) d_136_0 rfl rfl ?_
  refine wp_ifN_ne (pc := 1) (tgt := 8) d_136_1 (by decide) ha (fun zq1 => ?_) (fun zq1 => ?_)
  · refine wp_iload_n (pc := 8) (i := 0) d_136_8 rfl rfl ?_
    refine wp_iload_n (pc := 9) (i := 1) d_136_9 rfl rfl ?_
    refine wp_imulN (pc := 10) d_136_10 ?_
    refine wp_iload_n (pc := 11) (i := 2) d_136_11 rfl rfl ?_
    refine wp_idivN (pc := 12) d_136_12 hsg (by omega) ha ?_
    exact wp_iret (pc := 13) d_136_13 (Or.inl rfl) (by rw [algM h0 hg zq1])
  · refine wp_icN (pc := 4) (m := 0) d_136_4 (by decide) ?_
    refine wp_goto (pc := 5) (tgt := 13) d_136_5 (by decide) ?_
    exact wp_iret (pc := 13) d_136_13 (Or.inl rfl) (by rw [algM0 h0 zq1])
set_option maxRecDepth 4000 in
theorem copy_step {I0 : IT} {J : JT} {F : FT} (hF : Fok F) (i : Nat) (hi0 : i ≤ 30) (I : IT) (hin : ∀ q, q < i → I 177 (30 + q) = I0 177 q) (hlo : ∀ q, (q < 30 ∨ 60 ≤ q) → I 177 q = I0 177 q) (hoff : ∀ a, a ≠ 177 → I a = I0 a)
    (ih0 : ∀ i', i < 30 → i' = i + 1 → ∀ (I : IT), (∀ q, q < i' → I 177 (30 + q) = I0 177 q) → (∀ q, (q < 30 ∨ 60 ≤ q) → I 177 q = I0 177 q) → (∀ a, a ≠ 177 → I a = I0 a) → Wp none 142 (fun R => ∃ I2, R = (none, KK, I2, J, F) ∧ (∀ q, q < 30 → I2 177 (30 + q) = I0 177 q) ∧ (∀ q, (q < 30 ∨ 60 ≤ q) → I2 177 q = I0 177 q) ∧ ∀ a, a ≠ 177 → I2 a = I0 a) 2 [some (vR 173), some (vI (nI i'))] [] KK I J F) : Wp none 142 (fun R => ∃ I2, R = (none, KK, I2, J, F) ∧ (∀ q, q < 30 → I2 177 (30 + q) = I0 177 q) ∧ (∀ q, (q < 30 ∨ 60 ≤ q) → I2 177 q = I0 177 q) ∧ ∀ a, a ≠ 177 → I2 a = I0 a) 2 [some (vR 173), some (vI (nI i))] [] KK I J F := by
  refine wp_iload_n (pc := 2) (i := 1) d_142_2 rfl rfl ?_
  refine wp_bpN (pc := 3) (m := 30) d_142_3 (by decide) ?_
  refine wp_icmpN_ge (pc := 5) (tgt := 29) d_142_5 (by decide) (by omega) (by decide) (fun zq5 => ?_) (fun zq5 => ?_)
  · exact wp_vret (pc := 29) d_142_29 rfl ⟨_, rfl, fun q hq => hin q (by omega), hlo, hoff⟩
  · refine wp_aload_n (pc := 8) (i := 0) d_142_8 rfl rfl ?_
    refine wp_gA (pc := 9) d_142_9 fl_10_19 rfl ft_9_4 (F_173_4 hF) ?_
    refine wp_bpN (pc := 12) (m := 30) d_142_12 (by decide) ?_
    refine wp_iload_n (pc := 14) (i := 1) d_142_14 rfl rfl ?_
    refine wp_iaddN (pc := 15) d_142_15 ?_
    refine wp_aload_n (pc := 16) (i := 0) d_142_16 rfl rfl ?_
    refine wp_gA (pc := 17) d_142_17 fl_10_19 rfl ft_9_4 (F_173_4 hF) ?_
    refine wp_iload_n (pc := 20) (i := 1) d_142_20 rfl rfl ?_
    refine wp_aL (pc := 21) (j := i) d_142_21 rfl rfl (by omega) (by decide) rfl ?_
    refine wp_aS (pc := 22) (j := (30 + i)) d_142_22 rfl rfl (by omega) (by decide) (fun Iq22 uq22 => ?_)
    refine wq_iincN (pc := 23) (L2 := [_, _]) d_142_23 rfl (b := 1) (by decide) rfl rfl ?_
    refine wp_goto (pc := 26) (tgt := 2) d_142_26 (by decide) ?_
    refine ih0 (i + 1) zq5 rfl _ (fun q hq => ?_) (fun q hq => (uq22.ne (by omega)).trans (hlo q hq)) (fun a ha => (uq22.2 a ha).trans (hoff a ha))
    by_cases e : q = i
    · subst e; exact uq22.at.trans (hlo _ (Or.inl (by omega)))
    · exact (uq22.ne (by omega)).trans (hin q (by omega))
theorem copy_loop {I0 : IT} {J : JT} {F : FT} (hF : Fok F) : ∀ (d i : Nat), i + d = 30 → ∀ (I : IT), (∀ q, q < i → I 177 (30 + q) = I0 177 q) → (∀ q, (q < 30 ∨ 60 ≤ q) → I 177 q = I0 177 q) → (∀ a, a ≠ 177 → I a = I0 a) → Wp none 142 (fun R => ∃ I2, R = (none, KK, I2, J, F) ∧ (∀ q, q < 30 → I2 177 (30 + q) = I0 177 q) ∧ (∀ q, (q < 30 ∨ 60 ≤ q) → I2 177 q = I0 177 q) ∧ ∀ a, a ≠ 177 → I2 a = I0 a) 2 [some (vR 173), some (vI (nI i))] [] KK I J F := by
  intro d
  induction d with
  | zero =>
    intro i hid I hin hlo hoff
    exact copy_step hF i (by omega) I hin hlo hoff (fun i' hlt => absurd hlt (by omega))
  | succ d ih =>
    intro i hid I hin hlo hoff
    exact copy_step hF i (by omega) I hin hlo hoff (fun i' hlt he => ih i' (by omega))

set_option maxRecDepth 4000 in
theorem m_copy {I0 : IT} {J : JT} {F : FT} (hF : Fok F) : Sp 142 [vR 173] KK I0 J F (fun R => ∃ I2, R = (none, KK, I2, J, F) ∧ (∀ q, q < 30 → I2 177 (30 + q) = I0 177 q) ∧ (∀ q, (q < 30 ∨ 60 ≤ q) → I2 177 q = I0 177 q) ∧ ∀ a, a ≠ 177 → I2 a = I0 a) := by
  refine Sp.mk2 (Nat.le_of_ble_eq_true rfl) (L2 := [_, _]) rfl ?_
  refine wp_icN (pc := 0) (m := 0) d_142_0 (by decide) ?_
  refine wq_istore_n (pc := 1) (L2 := [_, _]) (i := 1) d_142_1 rfl (Nat.le_of_ble_eq_true rfl) rfl rfl ?_
  exact copy_loop hF 30 0 (by omega) I0 (fun q hq => absurd hq (Nat.not_lt_zero q)) (fun _ _ => rfl) (fun _ _ => rfl)
