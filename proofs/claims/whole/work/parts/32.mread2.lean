def frR (I I2 : IT) : Prop := (∀ q, q ≠ 2 → q ≠ 10 → q ≠ 11 → I2 173 q = I 173 q) ∧ ∀ a, a ≠ 173 → a ≠ 174 → a ≠ 175 → I2 a = I a
theorem frR.tr {I I2 I3 : IT} (h : frR I I2) (k : frR I2 I3) : frR I I3 := ⟨fun q h1 h2 h3 => (k.1 q h1 h2 h3).trans (h.1 q h1 h2 h3), fun a h1 h2 h3 => (k.2 a h1 h2 h3).trans (h.2 a h1 h2 h3)⟩
theorem frR.M {I I2 : IT} (h : frR I I2) : SCM I I2 := ⟨fun q h1 h2 h3 _ => h.1 q h1 h2 h3, fun k _ => by rw [h.2 177 (by decide) (by decide) (by decide)], fun a ha => h.2 a (by omega) (by omega) (by omega)⟩
theorem frR.u {I I2 : IT} {q : Nat} {x : Int32} (u : Up I I2 173 q x) (h : q = 2 ∨ q = 10 ∨ q = 11) : frR I I2 := ⟨fun q2 h1 h2 h3 => u.ne (by omega), fun a h1 _ _ => u.2 a h1⟩
theorem frR.a {I I2 : IT} {b q : Nat} {x : Int32} (u : Up I I2 b q x) (h : b = 174 ∨ b = 175) : frR I I2 := ⟨fun q2 _ _ _ => u.off (by omega), fun a _ h2 h3 => u.2 a (by omega)⟩
theorem frR.f {I I2 : IT} (h1 : ∀ q, q ≠ 10 → q ≠ 11 → I2 173 q = I 173 q) (h2 : ∀ a, a ≠ 173 → I2 a = I a) : frR I I2 := ⟨fun q _ g1 g2 => h1 q g1 g2, fun a g1 _ _ => h2 a g1⟩
theorem mPS.k {I I2 : IT} {n : Nat} {ρ : SN} (h : mPS I n ρ) (h1 : I2 173 2 = I 173 2) (h2 : I2 174 = I 174) (h3 : I2 175 = I 175) : mPS I2 n ρ := ⟨h1.trans h.1, fun k hk j hj => by rw [h2]; exact h.2.1 k hk j hj, fun j hj => by rw [h3]; exact h.2.2.1 j hj, fun j h4 h5 => by rw [h3]; exact h.2.2.2 j h4 h5⟩
theorem fI_n9 {fo : Option Nat} (h : fI fo = -9) (hq : ∀ q, fo = some q → q ≤ 40) : fo = none := by
  rcases fo with _ | q
  · rfl
  · exact absurd h (n9_ne (hq q rfl))
theorem figN_dry {tx : Nat → Nat} {tl p n : Nat} {pb : Nat → Bool} {fo : Option Nat} : (figN tx tl (bitsN pb n) p fo).1 < n ∨ (figN tx tl (bitsN pb n) p fo).1 = 0 := by
  rcases fo with _ | q
  · unfold figN
    by_cases e : p < tl ∧ 48 ≤ tx p ∧ tx p ≤ 57 ∧ (bitsN pb n).testBit (tx p - 48) = true
    · rw [if_pos e]
      have h := e.2.2.2
      rw [bitsN_tb, Bool.and_eq_true] at h
      exact Or.inl (of_decide_eq_true h.1)
    · rw [if_neg e]; exact Or.inr rfl
  · exact Or.inr rfl
theorem noP {tx : Nat → Nat} {tl p n wt : Nat} {ρ : SN} {dg : Nat → Nat} {rd : Nat} {v : Int32 × Option PS} (hp1 : 1 ≤ p) (hpl : p < tl) (hno : ¬ ((tx p = 82 ∧ n < 6) ∨ (tx p = 87 ∧ 0 < bitsN (dryP ρ) n))) (hv : v = finN tx tl (tl - p) p (n, ρ, 0, rd, dg, wt)) : v = (nI p, none) := by
  rw [hv, show tl - p = (tl - (p + 1)) + 1 by omega]
  refine fin_none ?_
  show stepB p (tx p) n ρ 0 rd dg wt = _
  unfold stepB
  rw [if_neg (by omega), if_neg (by decide), if_neg (by decide), if_neg hno]
set_option maxRecDepth 4000 in
theorem rt_fault {I0 I : IT} {J : JT} {F : FT} {v : Int32 × Option PS} {qf : Nat} {x1 x2 : Option VV} (hF : Fok F) (hq40 : qf ≤ 40) (hqf : I 173 11 = nI qf) (hv : v = (nI qf, none)) (hfr : frR I0 I) : Wp none 125 (fun R => ∃ I2, R = (some (vI v.1), KK, I2, J, F) ∧ frR I0 I2 ∧ ∀ mz, v.2 = some mz → mPS I2 mz.1 mz.2.1) 62 [some (vR 173), x1, x2] [] KK I J F := by
  refine wp_aload_n (pc := 62) (i := 0) d_125_62 rfl rfl ?_
  refine wp_gI (pc := 63) d_125_63 fl_10_68 rfl ft_9_11 hqf ?_
  refine wp_bipush (pc := 66) (v := (-9)) d_125_66 (by decide) ?_
  refine wp_icmp_ne (pc := 68) (tgt := 280) d_125_68 (by decide) (fun zq68 => ?_) (fun zq68 => ?_)
  · refine wp_aload_n (pc := 280) (i := 0) d_125_280 rfl rfl ?_
    refine wp_gI (pc := 281) d_125_281 fl_10_68 rfl ft_9_11 hqf ?_
    exact wp_iret (pc := 284) d_125_284 (Or.inl rfl) ⟨_, by rw [hv], hfr, fun mz h => by rw [hv] at h; cases h⟩
  · exact absurd zq68 (n9_ne hq40)
set_option maxRecDepth 4000 in
theorem rt_step {I0 : IT} {J : JT} {F : FT} {tx : Nat → Nat} {tl : Nat} {v : Int32 × Option PS} (hF : Fok F) (h40 : tl ≤ 40) (h256 : ∀ j, tx j < 256) (p : Nat) (hp1 : 1 ≤ p) (hpl : p ≤ tl) (ih0 : ∀ p', p < p' → p' ≤ tl → ∀ (I : IT) (n : Nat) (ρ : SN) (dg : Nat → Nat) (wt rd : Nat) (x1 x2 : Option VV), n ≤ 6 → (∀ k j, ρ k j ≤ 9) → v = finN tx tl (tl - p') p' (n, ρ, 0, rd, dg, wt) → fgS tx tl I p' none → mPS I n ρ → frR I0 I → Wp none 125 (fun R => ∃ I2, R = (some (vI v.1), KK, I2, J, F) ∧ frR I0 I2 ∧ ∀ mz, v.2 = some mz → mPS I2 mz.1 mz.2.1) 62 [some (vR 173), x1, x2] [] KK I J F) (I : IT) (n : Nat) (ρ : SN) (dg : Nat → Nat) (wt rd : Nat) (x1 x2 : Option VV) (hn6 : n ≤ 6) (hρ : ∀ k j, ρ k j ≤ 9) (hv : v = finN tx tl (tl - p) p (n, ρ, 0, rd, dg, wt)) (fs : fgS tx tl I p none) (hps : mPS I n ρ) (hfr : frR I0 I) : Wp none 125 (fun R => ∃ I2, R = (some (vI v.1), KK, I2, J, F) ∧ frR I0 I2 ∧ ∀ mz, v.2 = some mz → mPS I2 mz.1 mz.2.1) 62 [some (vR 173), x1, x2] [] KK I J F := by
  have hb64 : bitsN (dryP ρ) n < 64 := bits64 _ hn6
  refine wp_aload_n (pc := 62) (i := 0) d_125_62 rfl rfl ?_
  refine wp_gI (pc := 63) d_125_63 fl_10_68 rfl ft_9_11 fs.2.2.2 ?_
  refine wp_bipush (pc := 66) (v := (-9)) d_125_66 (by decide) ?_
  refine wp_icmp_ne (pc := 68) (tgt := 280) d_125_68 (by decide) (fun zq68 => ?_) (fun zq68 => ?_)
  · exact absurd rfl zq68
  · refine wp_aload_n (pc := 71) (i := 0) d_125_71 rfl rfl ?_
    refine wp_gI (pc := 72) d_125_72 fl_10_71 rfl ft_9_10 fs.2.2.1 ?_
    refine wp_aload_n (pc := 75) (i := 0) d_125_75 rfl rfl ?_
    refine wp_gI (pc := 76) d_125_76 fl_10_63 rfl ft_9_9 fs.1 ?_
    refine wp_icmpN_ge (pc := 79) (tgt := 280) d_125_79 (by decide) (by omega) (by omega) (fun zq79 => ?_) (fun zq79 => ?_)
    · refine wp_aload_n (pc := 280) (i := 0) d_125_280 rfl rfl ?_
      refine wp_gI (pc := 281) d_125_281 fl_10_68 rfl ft_9_11 fs.2.2.2 ?_
      have hpe : p = tl := by omega
      have hv2 : v = (-9, some (n, ρ, 0, rd, dg, wt)) := by rw [hv, show tl - p = 0 by omega]; exact if_pos ⟨by omega, rfl⟩
      exact wp_iret (pc := 284) d_125_284 (Or.inl rfl) ⟨_, by rw [hv2]; rfl, hfr, fun mz h => by rw [hv2] at h; cases h; exact hps⟩
    · refine wp_aload_n (pc := 82) (i := 0) d_125_82 rfl rfl ?_
      refine wp_gA (pc := 83) d_125_83 fl_10_22 rfl ft_9_8 (F_173_8 hF) ?_
      refine wp_aload_n (pc := 86) (i := 0) d_125_86 rfl rfl ?_
      refine wp_gI (pc := 87) d_125_87 fl_10_71 rfl ft_9_10 fs.2.2.1 ?_
      refine wp_aL (pc := 90) (j := p) d_125_90 rfl rfl (by omega) (by decide) (fs.2.1 p zq79) ?_
      refine wp_bpN (pc := 91) (m := 82) d_125_91 (by decide) ?_
      refine wp_icmpN_ne (pc := 93) (tgt := 193) d_125_93 (by decide) (by have := h256 p; omega) (by decide) (fun zq93 => ?_) (fun zq93 => ?_)
      · refine wp_aload_n (pc := 193) (i := 0) d_125_193 rfl rfl ?_
        refine wp_gA (pc := 194) d_125_194 fl_10_22 rfl ft_9_8 (F_173_8 hF) ?_
        refine wp_aload_n (pc := 197) (i := 0) d_125_197 rfl rfl ?_
        refine wp_gI (pc := 198) d_125_198 fl_10_71 rfl ft_9_10 fs.2.2.1 ?_
        refine wp_aL (pc := 201) (j := p) d_125_201 rfl rfl (by omega) (by decide) (fs.2.1 p zq79) ?_
        refine wp_bpN (pc := 202) (m := 87) d_125_202 (by decide) ?_
        refine wp_icmpN_ne (pc := 204) (tgt := 269) d_125_204 (by decide) (by have := h256 p; omega) (by decide) (fun zq204 => ?_) (fun zq204 => ?_)
        · refine wp_aload_n (pc := 269) (i := 0) d_125_269 rfl rfl ?_
          refine wp_aload_n (pc := 270) (i := 0) d_125_270 rfl rfl ?_
          refine wp_gI (pc := 271) d_125_271 fl_10_71 rfl ft_9_10 fs.2.2.1 ?_
          refine wp_pI (pc := 274) d_125_274 fl_10_68 rfl ft_9_11 rfl (fun Iq274 uq274 => ?_)
          refine wp_goto (pc := 277) (tgt := 62) d_125_277 (by decide) ?_
          exact rt_fault hF (Nat.le_trans (Nat.le_of_lt zq79) h40) uq274.at (noP hp1 zq79 (fun h => h.elim (fun h9 => zq93 h9.1) (fun h9 => zq204 h9.1)) hv) (hfr.tr (frR.u uq274 (Or.inr (Or.inr rfl))))
        · refine wp_aload_n (pc := 207) (i := 0) d_125_207 rfl rfl ?_
          refine wp_callV0p (pc := 208) d_125_208 lk_10_83 (by decide) rfl (Nat.le_of_ble_eq_true rfl) rfl rfl (m_dry hF hn6 hρ hps) ?_
          refine wp_ifN_eq (pc := 211) (tgt := 269) d_125_211 (by decide) (by omega) (fun zq211 => ?_) (fun zq211 => ?_)
          · refine wp_aload_n (pc := 269) (i := 0) d_125_269 rfl rfl ?_
            refine wp_aload_n (pc := 270) (i := 0) d_125_270 rfl rfl ?_
            refine wp_gI (pc := 271) d_125_271 fl_10_71 rfl ft_9_10 fs.2.2.1 ?_
            refine wp_pI (pc := 274) d_125_274 fl_10_68 rfl ft_9_11 rfl (fun Iq274 uq274 => ?_)
            refine wp_goto (pc := 277) (tgt := 62) d_125_277 (by decide) ?_
            exact rt_fault hF (Nat.le_trans (Nat.le_of_lt zq79) h40) uq274.at (noP hp1 zq79 (fun h => h.elim (fun h9 => zq93 h9.1) (fun h9 => absurd h9.2 (by omega))) hv) (hfr.tr (frR.u uq274 (Or.inr (Or.inr rfl))))
          · refine wp_aload_n (pc := 214) (i := 0) d_125_214 rfl rfl ?_
            refine wp_dup (pc := 215) d_125_215 rfl ?_
            refine wp_gI (pc := 216) d_125_216 fl_10_71 rfl ft_9_10 fs.2.2.1 ?_
            refine wp_icN (pc := 219) (m := 1) d_125_219 (by decide) ?_
            refine wp_iaddN (pc := 220) d_125_220 ?_
            refine wp_pI (pc := 221) d_125_221 fl_10_71 rfl ft_9_10 rfl (fun Iq221 uq221 => ?_)
            have hp2 : p + 1 ≤ tl := zq79
            have fs0 : fgS tx tl Iq221 (p + 1) none := ⟨(uq221.ne (by decide)).trans fs.1, fun j hj => (uq221.off (by decide)).trans (fs.2.1 j hj), uq221.at, (uq221.ne (by decide)).trans fs.2.2.2⟩
            refine wp_aload_n (pc := 224) (i := 0) d_125_224 rfl rfl ?_
            refine wp_aload_n (pc := 225) (i := 0) d_125_225 rfl rfl ?_
            refine wp_callV0p (pc := 226) d_125_226 lk_10_83 (by decide) rfl (Nat.le_of_ble_eq_true rfl) rfl rfl (m_dry hF hn6 hρ (hps.k (uq221.ne (by decide)) (uq221.2 174 (by decide)) (uq221.2 175 (by decide)))) ?_
            refine wp_callV1e (pc := 229) d_125_229 lk_10_79 (by decide) rfl (Nat.le_of_ble_eq_true rfl) rfl rfl (m_figure (al := (bitsN (dryP ρ) n)) (p := (p + 1)) (fo := none) hF h40 h256 (by omega) hp2 (fun q h => by cases h) fs0) (fun Iq229 hq229 => ?_)
            have hlf1 := figN_le (tx := tx) (tl := tl) (al := (bitsN (dryP ρ) n)) (p := (p + 1)) (fo := none) hp2 (fun q h => by cases h)
            obtain ⟨f1, hef1⟩ : ∃ f, f = figN tx tl (bitsN (dryP ρ) n) (p + 1) none := ⟨_, rfl⟩
            rw [← hef1] at hq229 hlf1 ⊢
            have fs229 := hq229.1
            have hf16 : f1.1 < 6 := by have h9 := figN_dry (tx := tx) (tl := tl) (p := p + 1) (n := n) (pb := dryP ρ) (fo := none); rw [← hef1] at h9; omega
            refine wq_istore_n (pc := 232) (L2 := [_, _, _]) (i := 1) d_125_232 rfl (Nat.le_of_ble_eq_true rfl) rfl rfl ?_
            refine wp_aload_n (pc := 233) (i := 0) d_125_233 rfl rfl ?_
            refine wp_spN (pc := 234) (m := 1022) d_125_234 (by decide) ?_
            refine wp_callV1e (pc := 237) d_125_237 lk_10_79 (by decide) rfl (Nat.le_of_ble_eq_true rfl) rfl rfl (m_figure (al := 1022) (p := f1.2.1) (fo := f1.2.2) hF h40 h256 (by decide) hlf1.1 hlf1.2.1 fs229) (fun Iq237 hq237 => ?_)
            have hlf2 := figN_le (tx := tx) (tl := tl) (al := 1022) (p := f1.2.1) (fo := f1.2.2) hlf1.1 hlf1.2.1
            obtain ⟨f2, hef2⟩ : ∃ f, f = figN tx tl 1022 f1.2.1 f1.2.2 := ⟨_, rfl⟩
            rw [← hef2] at hq237 hlf2 ⊢
            have fs237 := hq237.1
            refine wq_istore_n (pc := 240) (L2 := [_, _, _]) (i := 2) d_125_240 rfl (Nat.le_of_ble_eq_true rfl) rfl rfl ?_
            refine wp_aload_n (pc := 241) (i := 0) d_125_241 rfl rfl ?_
            refine wp_gA (pc := 242) d_125_242 fl_10_13 rfl ft_9_1 (F_173_1 hF) ?_
            refine wp_iload_n (pc := 245) (i := 1) d_125_245 rfl rfl ?_
            refine wp_aload_n (pc := 246) (i := 0) d_125_246 rfl rfl ?_
            refine wp_gI (pc := 247) d_125_247 fl_10_68 rfl ft_9_11 fs237.2.2.2 ?_
            refine wp_bipush (pc := 250) (v := (-9)) d_125_250 (by decide) ?_
            refine wp_icmp_ne (pc := 252) (tgt := 259) d_125_252 (by decide) (fun zq252 => ?_) (fun zq252 => ?_)
            · refine wp_aload_n (pc := 259) (i := 0) d_125_259 rfl rfl ?_
              refine wp_gA (pc := 260) d_125_260 fl_10_13 rfl ft_9_1 (F_173_1 hF) ?_
              refine wp_iload_n (pc := 263) (i := 1) d_125_263 rfl rfl ?_
              refine wp_aL (pc := 264) (j := f1.1) d_125_264 rfl rfl hf16 (by decide) rfl ?_
              refine wp_aS (pc := 265) (j := f1.1) d_125_265 rfl rfl hf16 (by decide) (fun Iq265 uq265 => ?_)
              refine wp_goto (pc := 266) (tgt := 62) d_125_266 (by decide) ?_
              have hfrz := (hfr).tr (((frR.u uq221 (Or.inr (Or.inl rfl)))).tr (((frR.f hq229.2.1 hq229.2.2)).tr (((frR.f hq237.2.1 hq237.2.2)).tr ((frR.a uq265 (Or.inr rfl))))))
              rcases waterP h256 hn6 hp1 zq79 zq204 (Nat.pos_of_ne_zero zq211) hv hef1 hef2 with ⟨g1, g2, g3, g4, hv2⟩ | ⟨q, g1, g2, hv2⟩
              · exact absurd (show fI f2.2.2 = -9 by rw [g1]; rfl) zq252
              · exact rt_fault hF (Nat.le_trans g2 h40) (by rw [uq265.off (by decide), fs237.2.2.2, g1]; rfl) hv2 hfrz
            · refine wp_iload_n (pc := 255) (i := 2) d_125_255 rfl rfl ?_
              refine wp_goto (pc := 256) (tgt := 265) d_125_256 (by decide) ?_
              refine wp_aS (pc := 265) (j := f1.1) d_125_265 rfl rfl hf16 (by decide) (fun Iq265 uq265 => ?_)
              refine wp_goto (pc := 266) (tgt := 62) d_125_266 (by decide) ?_
              have hfrz := (hfr).tr (((frR.u uq221 (Or.inr (Or.inl rfl)))).tr (((frR.f hq229.2.1 hq229.2.2)).tr (((frR.f hq237.2.1 hq237.2.2)).tr ((frR.a uq265 (Or.inr rfl))))))
              rcases waterP h256 hn6 hp1 zq79 zq204 (Nat.pos_of_ne_zero zq211) hv hef1 hef2 with ⟨g1, g2, g3, g4, hv2⟩ | ⟨q, g1, g2, hv2⟩
              · have hps2 : mPS Iq265 n (s2 ρ 4 f1.1 f2.1) := by
                  have h175 : ∀ j, j ≠ f1.1 → Iq265 175 j = I 175 j := fun j hj => by rw [uq265.ne hj, hq237.2.2 175 (by decide), hq229.2.2 175 (by decide), uq221.2 175 (by decide)]
                  have h174 : Iq265 174 = I 174 := by rw [uq265.2 174 (by decide), hq237.2.2 174 (by decide), hq229.2.2 174 (by decide), uq221.2 174 (by decide)]
                  refine ⟨by rw [uq265.off (by decide), hq237.2.1 2 (by decide) (by decide), hq229.2.1 2 (by decide) (by decide), uq221.ne (by decide)]; exact hps.1, fun k hk j hj => by rw [h174, s2_nk (by omega)]; exact hps.2.1 k hk j hj, fun j hj => ?_, fun j h1 h2 => by rw [h175 j (by omega)]; exact hps.2.2.2 j h1 h2⟩
                  by_cases e : j = f1.1
                  · rw [e, s2_eq]; exact uq265.at
                  · rw [h175 j e, s2_nj e]; exact hps.2.2.1 j hj
                have fs265 : fgS tx tl Iq265 (p + 3) none := by
                  rw [← g1, ← g2]
                  exact fs237.up uq265 (by decide) (by decide)
                exact ih0 (p + 3) (by omega) g3 Iq265 n _ _ _ _ _ _ hn6 (s2_9 hρ hlf2.2.2) hv2 fs265 hps2 hfrz
              · exact absurd (zq252.symm.trans (show fI f2.2.2 = nI q by rw [g1]; rfl)).symm (n9_ne (Nat.le_trans g2 h40))
      · refine wp_aload_n (pc := 96) (i := 0) d_125_96 rfl rfl ?_
        refine wp_gI (pc := 97) d_125_97 fl_10_76 rfl ft_9_2 hps.1 ?_
        refine wp_bpN (pc := 100) (m := 6) d_125_100 (by decide) ?_
        refine wp_icmpN_ge (pc := 102) (tgt := 193) d_125_102 (by decide) (by omega) (by decide) (fun zq102 => ?_) (fun zq102 => ?_)
        · refine wp_aload_n (pc := 193) (i := 0) d_125_193 rfl rfl ?_
          refine wp_gA (pc := 194) d_125_194 fl_10_22 rfl ft_9_8 (F_173_8 hF) ?_
          refine wp_aload_n (pc := 197) (i := 0) d_125_197 rfl rfl ?_
          refine wp_gI (pc := 198) d_125_198 fl_10_71 rfl ft_9_10 fs.2.2.1 ?_
          refine wp_aL (pc := 201) (j := p) d_125_201 rfl rfl (by omega) (by decide) (fs.2.1 p zq79) ?_
          refine wp_bpN (pc := 202) (m := 87) d_125_202 (by decide) ?_
          refine wp_icmpN_ne (pc := 204) (tgt := 269) d_125_204 (by decide) (by have := h256 p; omega) (by decide) (fun zq204 => ?_) (fun zq204 => ?_)
          · refine wp_aload_n (pc := 269) (i := 0) d_125_269 rfl rfl ?_
            refine wp_aload_n (pc := 270) (i := 0) d_125_270 rfl rfl ?_
            refine wp_gI (pc := 271) d_125_271 fl_10_71 rfl ft_9_10 fs.2.2.1 ?_
            refine wp_pI (pc := 274) d_125_274 fl_10_68 rfl ft_9_11 rfl (fun Iq274 uq274 => ?_)
            refine wp_goto (pc := 277) (tgt := 62) d_125_277 (by decide) ?_
            exact rt_fault hF (Nat.le_trans (Nat.le_of_lt zq79) h40) uq274.at (noP hp1 zq79 (fun h => h.elim (fun h9 => absurd h9.2 (by omega)) (fun h9 => zq204 h9.1)) hv) (hfr.tr (frR.u uq274 (Or.inr (Or.inr rfl))))
          · refine wp_aload_n (pc := 207) (i := 0) d_125_207 rfl rfl ?_
            refine wp_callV0p (pc := 208) d_125_208 lk_10_83 (by decide) rfl (Nat.le_of_ble_eq_true rfl) rfl rfl (m_dry hF hn6 hρ hps) ?_
            refine wp_ifN_eq (pc := 211) (tgt := 269) d_125_211 (by decide) (by omega) (fun zq211 => ?_) (fun zq211 => ?_)
            · refine wp_aload_n (pc := 269) (i := 0) d_125_269 rfl rfl ?_
              refine wp_aload_n (pc := 270) (i := 0) d_125_270 rfl rfl ?_
              refine wp_gI (pc := 271) d_125_271 fl_10_71 rfl ft_9_10 fs.2.2.1 ?_
              refine wp_pI (pc := 274) d_125_274 fl_10_68 rfl ft_9_11 rfl (fun Iq274 uq274 => ?_)
              refine wp_goto (pc := 277) (tgt := 62) d_125_277 (by decide) ?_
              exact rt_fault hF (Nat.le_trans (Nat.le_of_lt zq79) h40) uq274.at (noP hp1 zq79 (fun h => h.elim (fun h9 => absurd h9.2 (by omega)) (fun h9 => absurd h9.2 (by omega))) hv) (hfr.tr (frR.u uq274 (Or.inr (Or.inr rfl))))
            · refine wp_aload_n (pc := 214) (i := 0) d_125_214 rfl rfl ?_
              refine wp_dup (pc := 215) d_125_215 rfl ?_
              refine wp_gI (pc := 216) d_125_216 fl_10_71 rfl ft_9_10 fs.2.2.1 ?_
              refine wp_icN (pc := 219) (m := 1) d_125_219 (by decide) ?_
              refine wp_iaddN (pc := 220) d_125_220 ?_
              refine wp_pI (pc := 221) d_125_221 fl_10_71 rfl ft_9_10 rfl (fun Iq221 uq221 => ?_)
              have hp2 : p + 1 ≤ tl := zq79
              have fs0 : fgS tx tl Iq221 (p + 1) none := ⟨(uq221.ne (by decide)).trans fs.1, fun j hj => (uq221.off (by decide)).trans (fs.2.1 j hj), uq221.at, (uq221.ne (by decide)).trans fs.2.2.2⟩
              refine wp_aload_n (pc := 224) (i := 0) d_125_224 rfl rfl ?_
              refine wp_aload_n (pc := 225) (i := 0) d_125_225 rfl rfl ?_
              refine wp_callV0p (pc := 226) d_125_226 lk_10_83 (by decide) rfl (Nat.le_of_ble_eq_true rfl) rfl rfl (m_dry hF hn6 hρ (hps.k (uq221.ne (by decide)) (uq221.2 174 (by decide)) (uq221.2 175 (by decide)))) ?_
              refine wp_callV1e (pc := 229) d_125_229 lk_10_79 (by decide) rfl (Nat.le_of_ble_eq_true rfl) rfl rfl (m_figure (al := (bitsN (dryP ρ) n)) (p := (p + 1)) (fo := none) hF h40 h256 (by omega) hp2 (fun q h => by cases h) fs0) (fun Iq229 hq229 => ?_)
              have hlf1 := figN_le (tx := tx) (tl := tl) (al := (bitsN (dryP ρ) n)) (p := (p + 1)) (fo := none) hp2 (fun q h => by cases h)
              obtain ⟨f1, hef1⟩ : ∃ f, f = figN tx tl (bitsN (dryP ρ) n) (p + 1) none := ⟨_, rfl⟩
              rw [← hef1] at hq229 hlf1 ⊢
              have fs229 := hq229.1
              have hf16 : f1.1 < 6 := by have h9 := figN_dry (tx := tx) (tl := tl) (p := p + 1) (n := n) (pb := dryP ρ) (fo := none); rw [← hef1] at h9; omega
              refine wq_istore_n (pc := 232) (L2 := [_, _, _]) (i := 1) d_125_232 rfl (Nat.le_of_ble_eq_true rfl) rfl rfl ?_
              refine wp_aload_n (pc := 233) (i := 0) d_125_233 rfl rfl ?_
              refine wp_spN (pc := 234) (m := 1022) d_125_234 (by decide) ?_
              refine wp_callV1e (pc := 237) d_125_237 lk_10_79 (by decide) rfl (Nat.le_of_ble_eq_true rfl) rfl rfl (m_figure (al := 1022) (p := f1.2.1) (fo := f1.2.2) hF h40 h256 (by decide) hlf1.1 hlf1.2.1 fs229) (fun Iq237 hq237 => ?_)
              have hlf2 := figN_le (tx := tx) (tl := tl) (al := 1022) (p := f1.2.1) (fo := f1.2.2) hlf1.1 hlf1.2.1
              obtain ⟨f2, hef2⟩ : ∃ f, f = figN tx tl 1022 f1.2.1 f1.2.2 := ⟨_, rfl⟩
              rw [← hef2] at hq237 hlf2 ⊢
              have fs237 := hq237.1
              refine wq_istore_n (pc := 240) (L2 := [_, _, _]) (i := 2) d_125_240 rfl (Nat.le_of_ble_eq_true rfl) rfl rfl ?_
              refine wp_aload_n (pc := 241) (i := 0) d_125_241 rfl rfl ?_
              refine wp_gA (pc := 242) d_125_242 fl_10_13 rfl ft_9_1 (F_173_1 hF) ?_
              refine wp_iload_n (pc := 245) (i := 1) d_125_245 rfl rfl ?_
              refine wp_aload_n (pc := 246) (i := 0) d_125_246 rfl rfl ?_
              refine wp_gI (pc := 247) d_125_247 fl_10_68 rfl ft_9_11 fs237.2.2.2 ?_
              refine wp_bipush (pc := 250) (v := (-9)) d_125_250 (by decide) ?_
              refine wp_icmp_ne (pc := 252) (tgt := 259) d_125_252 (by decide) (fun zq252 => ?_) (fun zq252 => ?_)
              · refine wp_aload_n (pc := 259) (i := 0) d_125_259 rfl rfl ?_
                refine wp_gA (pc := 260) d_125_260 fl_10_13 rfl ft_9_1 (F_173_1 hF) ?_
                refine wp_iload_n (pc := 263) (i := 1) d_125_263 rfl rfl ?_
                refine wp_aL (pc := 264) (j := f1.1) d_125_264 rfl rfl hf16 (by decide) rfl ?_
                refine wp_aS (pc := 265) (j := f1.1) d_125_265 rfl rfl hf16 (by decide) (fun Iq265 uq265 => ?_)
                refine wp_goto (pc := 266) (tgt := 62) d_125_266 (by decide) ?_
                have hfrz := (hfr).tr (((frR.u uq221 (Or.inr (Or.inl rfl)))).tr (((frR.f hq229.2.1 hq229.2.2)).tr (((frR.f hq237.2.1 hq237.2.2)).tr ((frR.a uq265 (Or.inr rfl))))))
                rcases waterP h256 hn6 hp1 zq79 zq204 (Nat.pos_of_ne_zero zq211) hv hef1 hef2 with ⟨g1, g2, g3, g4, hv2⟩ | ⟨q, g1, g2, hv2⟩
                · exact absurd (show fI f2.2.2 = -9 by rw [g1]; rfl) zq252
                · exact rt_fault hF (Nat.le_trans g2 h40) (by rw [uq265.off (by decide), fs237.2.2.2, g1]; rfl) hv2 hfrz
              · refine wp_iload_n (pc := 255) (i := 2) d_125_255 rfl rfl ?_
                refine wp_goto (pc := 256) (tgt := 265) d_125_256 (by decide) ?_
                refine wp_aS (pc := 265) (j := f1.1) d_125_265 rfl rfl hf16 (by decide) (fun Iq265 uq265 => ?_)
                refine wp_goto (pc := 266) (tgt := 62) d_125_266 (by decide) ?_
                have hfrz := (hfr).tr (((frR.u uq221 (Or.inr (Or.inl rfl)))).tr (((frR.f hq229.2.1 hq229.2.2)).tr (((frR.f hq237.2.1 hq237.2.2)).tr ((frR.a uq265 (Or.inr rfl))))))
                rcases waterP h256 hn6 hp1 zq79 zq204 (Nat.pos_of_ne_zero zq211) hv hef1 hef2 with ⟨g1, g2, g3, g4, hv2⟩ | ⟨q, g1, g2, hv2⟩
                · have hps2 : mPS Iq265 n (s2 ρ 4 f1.1 f2.1) := by
                    have h175 : ∀ j, j ≠ f1.1 → Iq265 175 j = I 175 j := fun j hj => by rw [uq265.ne hj, hq237.2.2 175 (by decide), hq229.2.2 175 (by decide), uq221.2 175 (by decide)]
                    have h174 : Iq265 174 = I 174 := by rw [uq265.2 174 (by decide), hq237.2.2 174 (by decide), hq229.2.2 174 (by decide), uq221.2 174 (by decide)]
                    refine ⟨by rw [uq265.off (by decide), hq237.2.1 2 (by decide) (by decide), hq229.2.1 2 (by decide) (by decide), uq221.ne (by decide)]; exact hps.1, fun k hk j hj => by rw [h174, s2_nk (by omega)]; exact hps.2.1 k hk j hj, fun j hj => ?_, fun j h1 h2 => by rw [h175 j (by omega)]; exact hps.2.2.2 j h1 h2⟩
                    by_cases e : j = f1.1
                    · rw [e, s2_eq]; exact uq265.at
                    · rw [h175 j e, s2_nj e]; exact hps.2.2.1 j hj
                  have fs265 : fgS tx tl Iq265 (p + 3) none := by
                    rw [← g1, ← g2]
                    exact fs237.up uq265 (by decide) (by decide)
                  exact ih0 (p + 3) (by omega) g3 Iq265 n _ _ _ _ _ _ hn6 (s2_9 hρ hlf2.2.2) hv2 fs265 hps2 hfrz
                · exact absurd (zq252.symm.trans (show fI f2.2.2 = nI q by rw [g1]; rfl)).symm (n9_ne (Nat.le_trans g2 h40))
        · refine wp_aload_n (pc := 105) (i := 0) d_125_105 rfl rfl ?_
          refine wp_dup (pc := 106) d_125_106 rfl ?_
          refine wp_gI (pc := 107) d_125_107 fl_10_71 rfl ft_9_10 fs.2.2.1 ?_
          refine wp_icN (pc := 110) (m := 1) d_125_110 (by decide) ?_
          refine wp_iaddN (pc := 111) d_125_111 ?_
          refine wp_pI (pc := 112) d_125_112 fl_10_71 rfl ft_9_10 rfl (fun Iq112 uq112 => ?_)
          have hp2 : p + 1 ≤ tl := zq79
          have fs0 : fgS tx tl Iq112 (p + 1) none := ⟨(uq112.ne (by decide)).trans fs.1, fun j hj => (uq112.off (by decide)).trans (fs.2.1 j hj), uq112.at, (uq112.ne (by decide)).trans fs.2.2.2⟩
          refine wp_icN (pc := 115) (m := 4) d_125_115 (by decide) ?_
          refine wp_aload_n (pc := 116) (i := 0) d_125_116 rfl rfl ?_
          refine wp_gI (pc := 117) d_125_117 fl_10_76 rfl ft_9_2 ((uq112.ne (by decide)).trans hps.1) ?_
          refine wp_imulN (pc := 120) d_125_120 ?_
          refine wq_istore_n (pc := 121) (L2 := [_, _, _]) (i := 1) d_125_121 rfl (Nat.le_of_ble_eq_true rfl) rfl rfl ?_
          refine wp_aload_n (pc := 122) (i := 0) d_125_122 rfl rfl ?_
          refine wp_gA (pc := 123) d_125_123 fl_10_7 rfl ft_9_0 (F_173_0 hF) ?_
          refine wp_iload_n (pc := 126) (i := 1) d_125_126 rfl rfl ?_
          refine wp_aload_n (pc := 127) (i := 0) d_125_127 rfl rfl ?_
          refine wp_spN (pc := 128) (m := 1023) d_125_128 (by decide) ?_
          refine wp_callV1e (pc := 131) d_125_131 lk_10_79 (by decide) rfl (Nat.le_of_ble_eq_true rfl) rfl rfl (m_figure (al := 1023) (p := (p + 1)) (fo := none) hF h40 h256 (by decide) hp2 (fun q h => by cases h) fs0) (fun Iq131 hq131 => ?_)
          have hlf1 := figN_le (tx := tx) (tl := tl) (al := 1023) (p := (p + 1)) (fo := none) hp2 (fun q h => by cases h)
          obtain ⟨f1, hef1⟩ : ∃ f, f = figN tx tl 1023 (p + 1) none := ⟨_, rfl⟩
          rw [← hef1] at hq131 hlf1 ⊢
          refine wp_aS (pc := 134) (j := (4 * n)) d_125_134 rfl rfl (by omega) (by decide) (fun Iq134 uq134 => ?_)
          have fs134 := hq131.1.up uq134 (by decide) (by decide)
          refine wp_aload_n (pc := 135) (i := 0) d_125_135 rfl rfl ?_
          refine wp_gA (pc := 136) d_125_136 fl_10_7 rfl ft_9_0 (F_173_0 hF) ?_
          refine wp_iload_n (pc := 139) (i := 1) d_125_139 rfl rfl ?_
          refine wp_icN (pc := 140) (m := 1) d_125_140 (by decide) ?_
          refine wp_iaddN (pc := 141) d_125_141 ?_
          refine wp_aload_n (pc := 142) (i := 0) d_125_142 rfl rfl ?_
          refine wp_spN (pc := 143) (m := 1022) d_125_143 (by decide) ?_
          refine wp_callV1e (pc := 146) d_125_146 lk_10_79 (by decide) rfl (Nat.le_of_ble_eq_true rfl) rfl rfl (m_figure (al := 1022) (p := f1.2.1) (fo := f1.2.2) hF h40 h256 (by decide) hlf1.1 hlf1.2.1 fs134) (fun Iq146 hq146 => ?_)
          have hlf2 := figN_le (tx := tx) (tl := tl) (al := 1022) (p := f1.2.1) (fo := f1.2.2) hlf1.1 hlf1.2.1
          obtain ⟨f2, hef2⟩ : ∃ f, f = figN tx tl 1022 f1.2.1 f1.2.2 := ⟨_, rfl⟩
          rw [← hef2] at hq146 hlf2 ⊢
          refine wp_aS (pc := 149) (j := ((4 * n) + 1)) d_125_149 rfl rfl (by omega) (by decide) (fun Iq149 uq149 => ?_)
          have fs149 := hq146.1.up uq149 (by decide) (by decide)
          refine wp_aload_n (pc := 150) (i := 0) d_125_150 rfl rfl ?_
          refine wp_gA (pc := 151) d_125_151 fl_10_7 rfl ft_9_0 (F_173_0 hF) ?_
          refine wp_iload_n (pc := 154) (i := 1) d_125_154 rfl rfl ?_
          refine wp_icN (pc := 155) (m := 2) d_125_155 (by decide) ?_
          refine wp_iaddN (pc := 156) d_125_156 ?_
          refine wp_aload_n (pc := 157) (i := 0) d_125_157 rfl rfl ?_
          refine wp_spN (pc := 158) (m := 1023) d_125_158 (by decide) ?_
          refine wp_callV1e (pc := 161) d_125_161 lk_10_79 (by decide) rfl (Nat.le_of_ble_eq_true rfl) rfl rfl (m_figure (al := 1023) (p := f2.2.1) (fo := f2.2.2) hF h40 h256 (by decide) hlf2.1 hlf2.2.1 fs149) (fun Iq161 hq161 => ?_)
          have hlf3 := figN_le (tx := tx) (tl := tl) (al := 1023) (p := f2.2.1) (fo := f2.2.2) hlf2.1 hlf2.2.1
          obtain ⟨f3, hef3⟩ : ∃ f, f = figN tx tl 1023 f2.2.1 f2.2.2 := ⟨_, rfl⟩
          rw [← hef3] at hq161 hlf3 ⊢
          refine wp_aS (pc := 164) (j := ((4 * n) + 2)) d_125_164 rfl rfl (by omega) (by decide) (fun Iq164 uq164 => ?_)
          have fs164 := hq161.1.up uq164 (by decide) (by decide)
          refine wp_aload_n (pc := 165) (i := 0) d_125_165 rfl rfl ?_
          refine wp_gA (pc := 166) d_125_166 fl_10_7 rfl ft_9_0 (F_173_0 hF) ?_
          refine wp_iload_n (pc := 169) (i := 1) d_125_169 rfl rfl ?_
          refine wp_icN (pc := 170) (m := 3) d_125_170 (by decide) ?_
          refine wp_iaddN (pc := 171) d_125_171 ?_
          refine wp_aload_n (pc := 172) (i := 0) d_125_172 rfl rfl ?_
          refine wp_spN (pc := 173) (m := 1022) d_125_173 (by decide) ?_
          refine wp_callV1e (pc := 176) d_125_176 lk_10_79 (by decide) rfl (Nat.le_of_ble_eq_true rfl) rfl rfl (m_figure (al := 1022) (p := f3.2.1) (fo := f3.2.2) hF h40 h256 (by decide) hlf3.1 hlf3.2.1 fs164) (fun Iq176 hq176 => ?_)
          have hlf4 := figN_le (tx := tx) (tl := tl) (al := 1022) (p := f3.2.1) (fo := f3.2.2) hlf3.1 hlf3.2.1
          obtain ⟨f4, hef4⟩ : ∃ f, f = figN tx tl 1022 f3.2.1 f3.2.2 := ⟨_, rfl⟩
          rw [← hef4] at hq176 hlf4 ⊢
          refine wp_aS (pc := 179) (j := ((4 * n) + 3)) d_125_179 rfl rfl (by omega) (by decide) (fun Iq179 uq179 => ?_)
          have fs179 := hq176.1.up uq179 (by decide) (by decide)
          refine wp_aload_n (pc := 180) (i := 0) d_125_180 rfl rfl ?_
          refine wp_dup (pc := 181) d_125_181 rfl ?_
          refine wp_gI (pc := 182) d_125_182 fl_10_76 rfl ft_9_2 ((uq179.off (by decide)).trans ((hq176.2.1 2 (by decide) (by decide)).trans ((uq164.off (by decide)).trans ((hq161.2.1 2 (by decide) (by decide)).trans ((uq149.off (by decide)).trans ((hq146.2.1 2 (by decide) (by decide)).trans ((uq134.off (by decide)).trans ((hq131.2.1 2 (by decide) (by decide)).trans ((uq112.ne (by decide)).trans hps.1))))))))) ?_
          refine wp_icN (pc := 185) (m := 1) d_125_185 (by decide) ?_
          refine wp_iaddN (pc := 186) d_125_186 ?_
          refine wp_pI (pc := 187) d_125_187 fl_10_76 rfl ft_9_2 rfl (fun Iq187 uq187 => ?_)
          refine wp_goto (pc := 190) (tgt := 62) d_125_190 (by decide) ?_
          have hfrz := (hfr).tr (((frR.u uq112 (Or.inr (Or.inl rfl)))).tr (((frR.f hq131.2.1 hq131.2.2)).tr (((frR.a uq134 (Or.inl rfl))).tr (((frR.f hq146.2.1 hq146.2.2)).tr (((frR.a uq149 (Or.inl rfl))).tr (((frR.f hq161.2.1 hq161.2.2)).tr (((frR.a uq164 (Or.inl rfl))).tr (((frR.f hq176.2.1 hq176.2.2)).tr (((frR.a uq179 (Or.inl rfl))).tr ((frR.u uq187 (Or.inl rfl))))))))))))
          rcases roofP h256 hp1 zq79 zq93 zq102 hv hef1 hef2 hef3 hef4 with ⟨g1, g2, g3, dg2, -, hv2⟩ | ⟨q, g1, g2, hv2⟩
          · have hps2 : mPS Iq187 (n + 1) (addN ρ n f1.1 f2.1 f3.1 f4.1) := by
              have h175 : Iq187 175 = I 175 := by rw [uq187.2 175 (by decide), uq179.2 175 (by decide), hq176.2.2 175 (by decide), uq164.2 175 (by decide), hq161.2.2 175 (by decide), uq149.2 175 (by decide), hq146.2.2 175 (by decide), uq134.2 175 (by decide), hq131.2.2 175 (by decide), uq112.2 175 (by decide)]
              refine ⟨uq187.at, fun k hk j hj => ?_, fun j hj => ?_, fun j h1 h2 => by rw [h175]; exact hps.2.2.2 j (by omega) h2⟩
              · by_cases e : j = n
                · subst e
                  unfold addN
                  rw [if_pos rfl]
                  rcases lt4 hk with rfl | rfl | rfl | rfl
                  · exact (uq187.off (by decide)).trans ((uq179.ne (by omega)).trans ((congrFun (hq176.2.2 174 (by decide)) _).trans ((uq164.ne (by omega)).trans ((congrFun (hq161.2.2 174 (by decide)) _).trans ((uq149.ne (by omega)).trans ((congrFun (hq146.2.2 174 (by decide)) _).trans (uq134.at)))))))
                  · exact (uq187.off (by decide)).trans ((uq179.ne (by omega)).trans ((congrFun (hq176.2.2 174 (by decide)) _).trans ((uq164.ne (by omega)).trans ((congrFun (hq161.2.2 174 (by decide)) _).trans (uq149.at)))))
                  · exact (uq187.off (by decide)).trans ((uq179.ne (by omega)).trans ((congrFun (hq176.2.2 174 (by decide)) _).trans (uq164.at)))
                  · exact (uq187.off (by decide)).trans (uq179.at)
                · rw [show addN ρ n f1.1 f2.1 f3.1 f4.1 k j = ρ k j by unfold addN; rw [if_neg e]]
                  exact (uq187.off (by decide)).trans ((uq179.ne (by omega)).trans ((congrFun (hq176.2.2 174 (by decide)) _).trans ((uq164.ne (by omega)).trans ((congrFun (hq161.2.2 174 (by decide)) _).trans ((uq149.ne (by omega)).trans ((congrFun (hq146.2.2 174 (by decide)) _).trans ((uq134.ne (by omega)).trans ((congrFun (hq131.2.2 174 (by decide)) _).trans ((uq112.off (by decide)).trans (hps.2.1 k hk j (by omega)))))))))))
              · rw [h175]
                by_cases e : j = n
                · rw [show addN ρ n f1.1 f2.1 f3.1 f4.1 4 j = 0 by unfold addN; rw [if_pos e, if_neg (by decide), if_neg (by decide), if_neg (by decide), if_neg (by decide)]]
                  exact hps.2.2.2 j (by omega) (by omega)
                · rw [show addN ρ n f1.1 f2.1 f3.1 f4.1 4 j = ρ 4 j by unfold addN; rw [if_neg e]]
                  exact hps.2.2.1 j (by omega)
            have fs187 : fgS tx tl Iq187 (p + 5) none := by
              rw [← g1, ← g2]
              exact ⟨(uq187.ne (by decide)).trans fs179.1, fun j hj => (uq187.off (by decide)).trans (fs179.2.1 j hj), (uq187.ne (by decide)).trans fs179.2.2.1, (uq187.ne (by decide)).trans fs179.2.2.2⟩
            exact ih0 (p + 5) (by omega) g3 Iq187 (n + 1) _ _ _ _ _ _ (by omega) (addN_9 hρ hlf1.2.2 hlf2.2.2 hlf3.2.2 hlf4.2.2) hv2 fs187 hps2 hfrz
          · exact rt_fault hF (Nat.le_trans g2 h40) (by rw [uq187.ne (by decide), fs179.2.2.2, g1]; rfl) hv2 hfrz
theorem rt_loop {I0 : IT} {J : JT} {F : FT} {tx : Nat → Nat} {tl : Nat} {v : Int32 × Option PS} (hF : Fok F) (h40 : tl ≤ 40) (h256 : ∀ j, tx j < 256) : ∀ (d p : Nat), tl - p ≤ d → 1 ≤ p → p ≤ tl → ∀ (I : IT) (n : Nat) (ρ : SN) (dg : Nat → Nat) (wt rd : Nat) (x1 x2 : Option VV), n ≤ 6 → (∀ k j, ρ k j ≤ 9) → v = finN tx tl (tl - p) p (n, ρ, 0, rd, dg, wt) → fgS tx tl I p none → mPS I n ρ → frR I0 I → Wp none 125 (fun R => ∃ I2, R = (some (vI v.1), KK, I2, J, F) ∧ frR I0 I2 ∧ ∀ mz, v.2 = some mz → mPS I2 mz.1 mz.2.1) 62 [some (vR 173), x1, x2] [] KK I J F := by
  intro d
  induction d with
  | zero =>
    intro p hd hp1 hpl
    exact rt_step hF h40 h256 p hp1 hpl (fun p' h1 h2 => absurd h1 (by omega))
  | succ d ih =>
    intro p hd hp1 hpl
    exact rt_step hF h40 h256 p hp1 hpl (fun p' h1 h2 => ih p' (by omega) (by omega) h2)
