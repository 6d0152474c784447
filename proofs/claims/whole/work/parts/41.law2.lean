theorem sub_6 {L i : Nat} (hL : L ≤ 3072) (hi : i ≤ 3072) : nI L - nI 6 < nI i ↔ L < i + 6 := by
  rw [Int32.lt_iff_toInt_lt, Int32.toInt_sub, nI_toInt (by omega), nI_toInt (by omega), nI_toInt (by omega)]
  rw [Int.bmod_eq_of_le (by omega) (by omega)]
  omega
theorem lt27 {m : Nat} (h : m < 27) : m = 0 ∨ m = 1 ∨ m = 2 ∨ m = 3 ∨ m = 4 ∨ m = 5 ∨ m = 6 ∨ m = 7 ∨ m = 8 ∨ m = 9 ∨ m = 10 ∨ m = 11 ∨ m = 12 ∨ m = 13 ∨ m = 14 ∨ m = 15 ∨ m = 16 ∨ m = 17 ∨ m = 18 ∨ m = 19 ∨ m = 20 ∨ m = 21 ∨ m = 22 ∨ m = 23 ∨ m = 24 ∨ m = 25 ∨ m = 26 := by omega
def lwP : RT → Prop := fun R => R.1 = some (vI 1) ∧ R.2.1.length ≤ 1 + 600000 ∧ ksum R.2.1 ≤ 0 + 7302249
theorem KK_ok : KK.length ≤ 1 + 600000 ∧ ksum KK ≤ 0 + 7302249 := by decide +kernel
set_option maxRecDepth 4000 in
theorem law_step {L i t : Nat} {xs : Nat → Int32} {I : IT} {J : JT} {F : FT} {Po : RT → Prop} {s0 : SS} (hF : Fok F) (hL : L ≤ 3072) (hi6 : i + 6 ≤ L) (hC : CRt I J s0) (hM : MRt I J s0) (hO : OKt t s0) (ht : t + 100 ≤ 1000) (x : Int32) (hk : ∀ (s2 : SS) (I2 : IT) (J2 : JT), OKt (t + 1) s2 → CRt I2 J2 s2 → MRt I2 J2 s2 → Wp (some (L, xs)) 0 Po 1063 [some (vR 0), some (vR 1), some (vR 173), some (vI (nI i))] [] KK I2 J2 F) : Wp (some (L, xs)) 0 Po 33 [some (vR 0), some (vR 1), some (vR 173), some (vI (nI i))] [vI x] KK I J F := by
  obtain ⟨tx, tl, ρ, n, σ, rg, nx, na, γ, gn, sl, sf, sd⟩ := s0
  by_cases h1 : x.toInt < 0
  · exact wp_tabOut (pc := 33) (tgt := 1063) d_0_33 (Or.inl h1) (by decide) (hk _ I J (OKS.mono hO (Nat.le_succ t)) hC hM)
  · by_cases h2 : 26 < x.toInt
    · exact wp_tabOut (pc := 33) (tgt := 1063) d_0_33 (Or.inr h2) (by decide) (hk _ I J (OKS.mono hO (Nat.le_succ t)) hC hM)
    · have hx : x = nI x.toNatClampNeg := by
        rw [← Int32.toInt_inj, nI_toInt (by rw [← Int32.toNat_toInt]; omega), ← Int32.toNat_toInt]
        omega
      have hm : x.toNatClampNeg < 27 := by rw [← Int32.toNat_toInt]; omega
      generalize x.toNatClampNeg = m at hx hm
      subst hx
      rcases lt27 hm with rfl | rfl | rfl | rfl | rfl | rfl | rfl | rfl | rfl | rfl | rfl | rfl | rfl | rfl | rfl | rfl | rfl | rfl | rfl | rfl | rfl | rfl | rfl | rfl | rfl | rfl | rfl
      · exact wp_tabIn (pc := 33) (tgt := 156) d_0_33 (by decide) (by decide) rfl (by decide) (lw_c0 hF hL hi6 hC hM hO ht hk)
      · exact wp_tabIn (pc := 33) (tgt := 219) d_0_33 (by decide) (by decide) rfl (by decide) (lw_c1 hF hL hi6 hC hM hO ht hk)
      · exact wp_tabIn (pc := 33) (tgt := 232) d_0_33 (by decide) (by decide) rfl (by decide) (lw_c2 hF hL hi6 hC hM hO ht hk)
      · exact wp_tabIn (pc := 33) (tgt := 245) d_0_33 (by decide) (by decide) rfl (by decide) (lw_c3 hF hL hi6 hC hM hO ht hk)
      · exact wp_tabIn (pc := 33) (tgt := 258) d_0_33 (by decide) (by decide) rfl (by decide) (lw_c4 hF hL hi6 hC hM hO ht hk)
      · exact wp_tabIn (pc := 33) (tgt := 291) d_0_33 (by decide) (by decide) rfl (by decide) (lw_c5 hF hL hi6 hC hM hO ht hk)
      · exact wp_tabIn (pc := 33) (tgt := 340) d_0_33 (by decide) (by decide) rfl (by decide) (lw_c6 hF hL hi6 hC hM hO ht hk)
      · exact wp_tabIn (pc := 33) (tgt := 363) d_0_33 (by decide) (by decide) rfl (by decide) (lw_c7 hF hL hi6 hC hM hO ht hk)
      · exact wp_tabIn (pc := 33) (tgt := 396) d_0_33 (by decide) (by decide) rfl (by decide) (lw_c8 hF hL hi6 hC hM hO ht hk)
      · exact wp_tabIn (pc := 33) (tgt := 429) d_0_33 (by decide) (by decide) rfl (by decide) (lw_c9 hF hL hi6 hC hM hO ht hk)
      · exact wp_tabIn (pc := 33) (tgt := 442) d_0_33 (by decide) (by decide) rfl (by decide) (lw_c10 hF hL hi6 hC hM hO ht hk)
      · exact wp_tabIn (pc := 33) (tgt := 485) d_0_33 (by decide) (by decide) rfl (by decide) (lw_c11 hF hL hi6 hC hM hO ht hk)
      · exact wp_tabIn (pc := 33) (tgt := 544) d_0_33 (by decide) (by decide) rfl (by decide) (lw_c12 hF hL hi6 hC hM hO ht hk)
      · exact wp_tabIn (pc := 33) (tgt := 577) d_0_33 (by decide) (by decide) rfl (by decide) (lw_c13 hF hL hi6 hC hM hO ht hk)
      · exact wp_tabIn (pc := 33) (tgt := 610) d_0_33 (by decide) (by decide) rfl (by decide) (lw_c14 hF hL hi6 hC hM hO ht hk)
      · exact wp_tabIn (pc := 33) (tgt := 643) d_0_33 (by decide) (by decide) rfl (by decide) (lw_c15 hF hL hi6 hC hM hO ht hk)
      · exact wp_tabIn (pc := 33) (tgt := 686) d_0_33 (by decide) (by decide) rfl (by decide) (lw_c16 hF hL hi6 hC hM hO ht hk)
      · exact wp_tabIn (pc := 33) (tgt := 719) d_0_33 (by decide) (by decide) rfl (by decide) (lw_c17 hF hL hi6 hC hM hO ht hk)
      · exact wp_tabIn (pc := 33) (tgt := 762) d_0_33 (by decide) (by decide) rfl (by decide) (lw_c18 hF hL hi6 hC hM hO ht hk)
      · exact wp_tabIn (pc := 33) (tgt := 775) d_0_33 (by decide) (by decide) rfl (by decide) (lw_c19 hF hL hi6 hC hM hO ht hk)
      · exact wp_tabIn (pc := 33) (tgt := 788) d_0_33 (by decide) (by decide) rfl (by decide) (lw_c20 hF hL hi6 hC hM hO ht hk)
      · exact wp_tabIn (pc := 33) (tgt := 827) d_0_33 (by decide) (by decide) rfl (by decide) (lw_c21 hF hL hi6 hC hM hO ht hk)
      · exact wp_tabIn (pc := 33) (tgt := 907) d_0_33 (by decide) (by decide) rfl (by decide) (lw_c22 hF hL hi6 hC hM hO ht hk)
      · exact wp_tabIn (pc := 33) (tgt := 961) d_0_33 (by decide) (by decide) rfl (by decide) (lw_c23 hF hL hi6 hC hM hO ht hk)
      · exact wp_tabIn (pc := 33) (tgt := 994) d_0_33 (by decide) (by decide) rfl (by decide) (lw_c24 hF hL hi6 hC hM hO ht hk)
      · exact wp_tabIn (pc := 33) (tgt := 1017) d_0_33 (by decide) (by decide) rfl (by decide) (lw_c25 hF hL hi6 hC hM hO ht hk)
      · exact wp_tabIn (pc := 33) (tgt := 1040) d_0_33 (by decide) (by decide) rfl (by decide) (lw_c26 hF hL hi6 hC hM hO ht hk)
set_option maxRecDepth 4000 in
theorem law_loop {L : Nat} {xs : Nat → Int32} {F : FT} (hF : Fok F) (hL : L ≤ 3072) : ∀ (d i t : Nat) (s0 : SS) (I : IT) (J : JT), L < i + 6 * (d + 1) → i ≤ 3072 → t + d + 100 ≤ 1000 → OKt t s0 → CRt I J s0 → MRt I J s0 → Wp (some (L, xs)) 0 lwP 18 [some (vR 0), some (vR 1), some (vR 173), some (vI (nI i))] [] KK I J F := by
  intro d
  induction d with
  | zero =>
    intro i t s0 I J h1 h2 h3 hO hC hM
    refine wp_iload_n (pc := 18) (i := 3) d_0_18 rfl rfl ?_
    refine wp_aload_n (pc := 19) (i := 0) d_0_19 rfl rfl ?_
    refine wp_slen (pc := 20) d_0_20 rfl ?_
    refine wp_bpN (pc := 21) (m := 6) d_0_21 (by decide) ?_
    refine wp_isub (pc := 23) d_0_23 ?_
    refine wp_icmp_gt (pc := 24) (tgt := 1069) d_0_24 (by decide) (fun _ => ?_) (fun h => absurd ((sub_6 hL h2).mpr (by omega)) h)
    refine wp_icN (pc := 1069) (m := 1) d_0_1069 (by decide) ?_
    exact wp_iret (pc := 1070) d_0_1070 (Or.inr ⟨rfl, by decide⟩) ⟨rfl, KK_ok⟩
  | succ d ih =>
    intro i t s0 I J h1 h2 h3 hO hC hM
    refine wp_iload_n (pc := 18) (i := 3) d_0_18 rfl rfl ?_
    refine wp_aload_n (pc := 19) (i := 0) d_0_19 rfl rfl ?_
    refine wp_slen (pc := 20) d_0_20 rfl ?_
    refine wp_bpN (pc := 21) (m := 6) d_0_21 (by decide) ?_
    refine wp_isub (pc := 23) d_0_23 ?_
    refine wp_icmp_gt (pc := 24) (tgt := 1069) d_0_24 (by decide) (fun _ => ?_) (fun h => ?_)
    · refine wp_icN (pc := 1069) (m := 1) d_0_1069 (by decide) ?_
      exact wp_iret (pc := 1070) d_0_1070 (Or.inr ⟨rfl, by decide⟩) ⟨rfl, KK_ok⟩
    · have hi6 : i + 6 ≤ L := by
        have := mt (sub_6 hL h2).mpr h
        omega
      refine wp_aload_n (pc := 27) (i := 0) d_0_27 rfl rfl ?_
      refine wp_iload_n (pc := 28) (i := 3) d_0_28 rfl rfl ?_
      refine wp_sld (pc := 29) d_0_29 rfl (vp_in_nI (show i < L by omega) (by omega)) ?_
      refine wp_bpN (pc := 30) (m := 31) d_0_30 (by decide) ?_
      refine wp_iand (pc := 32) d_0_32 ?_
      refine law_step hF hL hi6 hC hM hO (by omega) _ (fun s2 I2 J2 g1 g2 g3 => ?_)
      refine wq_iincN (pc := 1063) (L2 := [_, _, _, _]) d_0_1063 rfl (b := 6) (by decide) rfl rfl ?_
      refine wp_goto (pc := 1066) (tgt := 18) d_0_1066 (by decide) ?_
      exact ih (i + 6) (t + 1) s2 I2 J2 (by omega) (by omega) (by omega) g1 g2 g3
