/-- the first i roofs have drunk -/
def md1 (ρ : SN) (rn : Nat) (σ : SN) (i : Nat) : SN := fun k j => if j < i ∧ k < 4 then (if k = 0 then waN ρ rn σ j else if k = 1 then saN ρ rn σ j else if k = 2 then σ 2 j + drN ρ rn σ j else σ 3 j + s1N ρ rn σ j) else σ k j
theorem md1_ge {ρ σ : SN} {rn i k j : Nat} (h : ¬ j < i) : md1 ρ rn σ i k j = σ k j := by unfold md1; rw [if_neg (fun h2 => h h2.1)]
theorem md1_4 {ρ σ : SN} {rn i j : Nat} : md1 ρ rn σ i 4 j = σ 4 j := by unfold md1; rw [if_neg (fun h2 => absurd h2.2 (by decide))]
theorem lt4 {k : Nat} (h : k < 4) : k = 0 ∨ k = 1 ∨ k = 2 ∨ k = 3 := by omega
theorem md1_step {v v2 : Nat → Int32} {ρ σ : SN} {rn i f : Nat} (hi6 : i < 6) (hW : mW v f (md1 ρ rn σ i)) (e0 : v2 (f + i) = nI (waN ρ rn σ i)) (e1 : v2 (f + i + 6) = nI (saN ρ rn σ i)) (e2 : v2 (f + i + 12) = nI (σ 2 i + drN ρ rn σ i)) (e3 : v2 (f + i + 18) = nI (σ 3 i + s1N ρ rn σ i))
    (eo : ∀ q, q ≠ f + i → q ≠ f + i + 6 → q ≠ f + i + 12 → q ≠ f + i + 18 → v2 q = v q) : mW v2 f (md1 ρ rn σ (i + 1)) := by
  refine ⟨fun k hk j hj => ?_, ?_, ?_⟩
  · by_cases e : j = i
    · subst e
      unfold md1
      rw [if_pos ⟨Nat.lt_succ_self _, hk⟩]
      rcases lt4 hk with h | h | h | h
      · subst h; exact (congrArg v2 (by omega)).trans e0
      · subst h; exact (congrArg v2 (by omega)).trans e1
      · subst h; exact (congrArg v2 (by omega)).trans e2
      · subst h; exact (congrArg v2 (by omega)).trans e3
    · rw [eo _ (by omega) (by omega) (by omega) (by omega), hW.1 k hk j hj]
      unfold md1
      by_cases e2 : j < i
      · rw [if_pos ⟨e2, hk⟩, if_pos (show j < i + 1 ∧ k < 4 from ⟨by omega, hk⟩)]
      · rw [if_neg (fun h => e2 h.1), if_neg (fun h => e2 (by omega))]
  · rw [eo _ (by omega) (by omega) (by omega) (by omega), hW.2.1, md1_4, md1_4]
  · rw [eo _ (by omega) (by omega) (by omega) (by omega), hW.2.2, md1_4, md1_4]
theorem bit1_c {d j : Nat} (hd : d < 64) (hj : j < 6) : nI d >>> (nI j &&& 31) &&& nI 1 = nI (d / 2 ^ j % 2) := by
  rw [shr_c (by omega) (by omega)]
  exact msk_c (w := 1) (Nat.lt_of_le_of_lt (Nat.div_le_self _ _) (by omega)) (by decide)
theorem tb1 {d j : Nat} (h : d / 2 ^ j % 2 = 1) : d.testBit j = true := by rw [Nat.testBit_eq_decide_div_mod_eq]; exact decide_eq_true h
theorem tb0 {d j : Nat} (h : d / 2 ^ j % 2 ≠ 1) : d.testBit j = false := by rw [Nat.testBit_eq_decide_div_mod_eq]; exact decide_eq_false h
theorem m_alongE {I : IT} {J : JT} {F : FT} {s g a v : Nat} (hv : alg s g a = v) (h0 : a = 0 → s = 0) (hg : g ≤ a) (ha : a < 2 ^ 31) (hsg : s * g < 2 ^ 31) : Sp 136 [vI (nI s), vI (nI g), vI (nI a)] KK I J F (fun R => R = (some (vI (nI v)), KK, I, J, F)) := by
  have h := m_along (I := I) (J := J) (F := F) h0 hg ha hsg
  rw [hv] at h
  exact h
set_option maxRecDepth 4000 in
theorem mp255 {Po : RT → Prop} {I : IT} {J : JT} {F : FT} {f n i dm rn : Nat} {ρ σ : SN} (hF : Fok F) (hRo : mRo I ρ n) (hρ : ∀ k j, ρ k j ≤ 9) (hi : i < n) (hf : f ≤ 30) (hdm : dm < 64) (hrn : rn ≤ 9) (hb0 : σ 0 i < 2 ^ 16) (hb1 : σ 1 i < 2 ^ 14) (hz : σ 0 i = 0 → σ 1 i = 0) (h0 : I 177 (f + i) = nI (σ 0 i)) (h1 : I 177 (f + i + 6) = nI (σ 1 i)) (h2 : I 177 (f + i + 12) = nI (σ 2 i)) (h3 : I 177 (f + i + 18) = nI (σ 3 i)) {gg : Nat} {x0 : Int32} (hgg : gg = (if dm.testBit i then 0 else min (ρ 1 i) (waN ρ rn σ i))) {x6 x7 x8 : Int32} {Iq28 : IT} (uq28 : Up I Iq28 177 (f + i) (nI (σ 0 i + rn))) {Iq104 : IT} (uq104 : Up Iq28 Iq104 177 (f + i) (nI (waN ρ rn σ i))) {Iq119 : IT} (uq119 : Up Iq104 Iq119 177 (f + i + 6) (nI (saN ρ rn σ i))) {Iq134 : IT} (uq134 : Up Iq119 Iq134 177 (f + i + 12) (nI (σ 2 i + (drN ρ rn σ i)))) {Iq149 : IT} (uq149 : Up Iq134 Iq149 177 (f + i + 18) (nI (σ 3 i + (s1N ρ rn σ i)))) (hk : ∀ (I2 : IT) (x5 : Option VV) (x6 : Option VV) (x7 : Option VV) (x8 : Option VV) (x9 : Option VV) (x10 : Option VV), (I2 177 (f + i) = nI (waN ρ rn σ i) ∧ I2 177 (f + i + 6) = nI (saN ρ rn σ i) ∧ I2 177 (f + i + 12) = nI (σ 2 i + (drN ρ rn σ i)) ∧ I2 177 (f + i + 18) = nI (σ 3 i + (s1N ρ rn σ i)) ∧ (∀ q, q ≠ f + i → q ≠ f + i + 6 → q ≠ f + i + 12 → q ≠ f + i + 18 → I2 177 q = I 177 q) ∧ I2 180 i = nI (goN ρ dm rn σ i) ∧ (∀ q, q ≠ i → I2 180 q = I 180 q) ∧ I2 181 i = nI (s2N ρ dm rn σ i) ∧ (∀ q, q ≠ i → I2 181 q = I 181 q) ∧ ∀ a, a ≠ 177 → a ≠ 180 → a ≠ 181 → I2 a = I a) → Wp none 135 Po 3 [some (vR 173), some (vI (nI f)), some (vI (nI rn)), some (vI (nI dm)), some (vI (nI (i + 1))), x5, x6, x7, x8, x9, x10] [] KK I2 J F) : Wp none 135 Po 255 [some (vR 173), some (vI (nI f)), some (vI (nI rn)), some (vI (nI dm)), some (vI (nI i)), some (vI (nI (f + i))), some (vI x6), some (vI x7), some (vI x8), some (vI (nI gg)), some (vI x0)] [vI (nI (waN ρ rn σ i - (if dm.testBit i then 0 else min (ρ 1 i) (waN ρ rn σ i)) - ρ 3 i)), vI (nI gg), vI (nI i), vR 180] KK Iq149 J F := by
  have hn6 := hRo.1
  have hd1 : drN ρ rn σ i ≤ ρ 0 i := Nat.min_le_left _ _
  have hd2 : drN ρ rn σ i ≤ σ 0 i + rn := Nat.min_le_right _ _
  have hr0 := hρ 0 i
  have hr1 := hρ 1 i
  have hr3 := hρ 3 i
  have hwa : waN ρ rn σ i ≤ σ 0 i + rn := Nat.sub_le _ _
  have hs1 : s1N ρ rn σ i ≤ σ 1 i := alg_le _ _ _
  have hsa : saN ρ rn σ i ≤ σ 1 i := Nat.sub_le _ _
  have hgo : goN ρ dm rn σ i ≤ waN ρ rn σ i := gof_le
  refine wp_iaddN (pc := 255) d_135_255 ?_
  refine wp_aS (pc := 256) (j := i) d_135_256 rfl rfl (by omega) (by decide) (fun Iq256 uq256 => ?_)
  refine wp_aload_n (pc := 257) (i := 0) d_135_257 rfl rfl ?_
  refine wp_gA (pc := 258) d_135_258 fl_10_31 rfl ft_9_16 (F_173_16 hF) ?_
  refine wp_iload (pc := 261) d_135_261 rfl ?_
  refine wp_aload_n (pc := 263) (i := 0) d_135_263 rfl rfl ?_
  refine wp_gA (pc := 264) d_135_264 fl_10_19 rfl ft_9_4 (F_173_4 hF) ?_
  refine wp_iload (pc := 267) d_135_267 rfl ?_
  refine wp_bpN (pc := 269) (m := 6) d_135_269 (by decide) ?_
  refine wp_iaddN (pc := 271) d_135_271 ?_
  refine wp_aL (pc := 272) (j := ((f + i) + 6)) d_135_272 rfl rfl (by omega) (by decide) ((uq256.off (by decide)).trans ((uq149.ne (by omega)).trans ((uq134.ne (by omega)).trans uq119.at))) ?_
  refine wp_aload_n (pc := 273) (i := 0) d_135_273 rfl rfl ?_
  refine wp_gA (pc := 274) d_135_274 fl_10_28 rfl ft_9_15 (F_173_15 hF) ?_
  refine wp_iload (pc := 277) d_135_277 rfl ?_
  refine wp_aL (pc := 279) (j := i) d_135_279 rfl rfl (by omega) (by decide) (uq256.at.trans (by rw [hgg])) ?_
  refine wp_aload_n (pc := 280) (i := 0) d_135_280 rfl rfl ?_
  refine wp_gA (pc := 281) d_135_281 fl_10_19 rfl ft_9_4 (F_173_4 hF) ?_
  refine wp_iload (pc := 284) d_135_284 rfl ?_
  refine wp_aL (pc := 286) (j := (f + i)) d_135_286 rfl rfl (by omega) (by decide) ((uq256.off (by decide)).trans ((uq149.ne (by omega)).trans ((uq134.ne (by omega)).trans ((uq119.ne (by omega)).trans uq104.at)))) ?_
  refine wp_callS3p (pc := 287) d_135_287 lk_10_114 (by decide) rfl (Nat.le_of_ble_eq_true rfl) (m_alongE (v := s2N ρ dm rn σ i) rfl (fun h => sa_z h) hgo (by omega) (Nat.lt_of_le_of_lt (Nat.mul_le_mul (show (saN ρ rn σ i) ≤ 2 ^ 14 by omega) (show (goN ρ dm rn σ i) ≤ 2 ^ 16 + 9 by omega)) (by decide))) ?_
  refine wp_aS (pc := 290) (j := i) d_135_290 rfl rfl (by omega) (by decide) (fun Iq290 uq290 => ?_)
  refine wq_iincN (pc := 291) (L2 := [_, _, _, _, _, _, _, _, _, _, _]) d_135_291 rfl (b := 1) (by decide) rfl rfl ?_
  refine wp_goto (pc := 294) (tgt := 3) d_135_294 (by decide) ?_
  refine hk Iq290 _ _ _ _ _ _ ⟨?_, ?_, ?_, ?_, fun q g1 g2 g3 g4 => ?_, ?_, fun q hq => ?_, uq290.at, fun q hq => ?_, fun a a1 a2 a3 => ?_⟩
  · exact (uq290.off (by decide)).trans ((uq256.off (by decide)).trans ((uq149.ne (by omega)).trans ((uq134.ne (by omega)).trans ((uq119.ne (by omega)).trans uq104.at))))
  · exact (uq290.off (by decide)).trans ((uq256.off (by decide)).trans ((uq149.ne (by omega)).trans ((uq134.ne (by omega)).trans uq119.at)))
  · exact (uq290.off (by decide)).trans ((uq256.off (by decide)).trans ((uq149.ne (by omega)).trans uq134.at))
  · exact (uq290.off (by decide)).trans ((uq256.off (by decide)).trans (uq149.at))
  · rw [uq290.off (by decide), uq256.off (by decide), uq149.ne g4, uq134.ne g3, uq119.ne g2, uq104.ne g1, uq28.ne g1]
  · exact (uq290.off (by decide)).trans (uq256.at.trans (by rw [hgg]; rfl))
  · rw [uq290.off (by decide), uq256.ne hq, uq149.off (by decide), uq134.off (by decide), uq119.off (by decide), uq104.off (by decide), uq28.off (by decide)]
  · rw [uq290.ne hq, uq256.off (by decide), uq149.off (by decide), uq134.off (by decide), uq119.off (by decide), uq104.off (by decide), uq28.off (by decide)]
  · rw [uq290.2 a a3, uq256.2 a a2, uq149.2 a a1, uq134.2 a a1, uq119.2 a a1, uq104.2 a a1, uq28.2 a a1]
set_option maxRecDepth 4000 in
theorem mp210 {Po : RT → Prop} {I : IT} {J : JT} {F : FT} {f n i dm rn : Nat} {ρ σ : SN} (hF : Fok F) (hRo : mRo I ρ n) (hρ : ∀ k j, ρ k j ≤ 9) (hi : i < n) (hf : f ≤ 30) (hdm : dm < 64) (hrn : rn ≤ 9) (hb0 : σ 0 i < 2 ^ 16) (hb1 : σ 1 i < 2 ^ 14) (hz : σ 0 i = 0 → σ 1 i = 0) (h0 : I 177 (f + i) = nI (σ 0 i)) (h1 : I 177 (f + i + 6) = nI (σ 1 i)) (h2 : I 177 (f + i + 12) = nI (σ 2 i)) (h3 : I 177 (f + i + 18) = nI (σ 3 i)) {gg : Nat} (hgg : gg = (if dm.testBit i then 0 else min (ρ 1 i) (waN ρ rn σ i))) {x6 x7 x8 : Int32} {x9 : Option VV} {x10 : Option VV} {Iq28 : IT} (uq28 : Up I Iq28 177 (f + i) (nI (σ 0 i + rn))) {Iq104 : IT} (uq104 : Up Iq28 Iq104 177 (f + i) (nI (waN ρ rn σ i))) {Iq119 : IT} (uq119 : Up Iq104 Iq119 177 (f + i + 6) (nI (saN ρ rn σ i))) {Iq134 : IT} (uq134 : Up Iq119 Iq134 177 (f + i + 12) (nI (σ 2 i + (drN ρ rn σ i)))) {Iq149 : IT} (uq149 : Up Iq134 Iq149 177 (f + i + 18) (nI (σ 3 i + (s1N ρ rn σ i)))) (hk : ∀ (I2 : IT) (x5 : Option VV) (x6 : Option VV) (x7 : Option VV) (x8 : Option VV) (x9 : Option VV) (x10 : Option VV), (I2 177 (f + i) = nI (waN ρ rn σ i) ∧ I2 177 (f + i + 6) = nI (saN ρ rn σ i) ∧ I2 177 (f + i + 12) = nI (σ 2 i + (drN ρ rn σ i)) ∧ I2 177 (f + i + 18) = nI (σ 3 i + (s1N ρ rn σ i)) ∧ (∀ q, q ≠ f + i → q ≠ f + i + 6 → q ≠ f + i + 12 → q ≠ f + i + 18 → I2 177 q = I 177 q) ∧ I2 180 i = nI (goN ρ dm rn σ i) ∧ (∀ q, q ≠ i → I2 180 q = I 180 q) ∧ I2 181 i = nI (s2N ρ dm rn σ i) ∧ (∀ q, q ≠ i → I2 181 q = I 181 q) ∧ ∀ a, a ≠ 177 → a ≠ 180 → a ≠ 181 → I2 a = I a) → Wp none 135 Po 3 [some (vR 173), some (vI (nI f)), some (vI (nI rn)), some (vI (nI dm)), some (vI (nI (i + 1))), x5, x6, x7, x8, x9, x10] [] KK I2 J F) : Wp none 135 Po 210 [some (vR 173), some (vI (nI f)), some (vI (nI rn)), some (vI (nI dm)), some (vI (nI i)), some (vI (nI (f + i))), some (vI x6), some (vI x7), some (vI x8), x9, x10] [vI (nI gg)] KK Iq149 J F := by
  have hn6 := hRo.1
  have hd1 : drN ρ rn σ i ≤ ρ 0 i := Nat.min_le_left _ _
  have hd2 : drN ρ rn σ i ≤ σ 0 i + rn := Nat.min_le_right _ _
  have hr0 := hρ 0 i
  have hr1 := hρ 1 i
  have hr3 := hρ 3 i
  have hwa : waN ρ rn σ i ≤ σ 0 i + rn := Nat.sub_le _ _
  have hs1 : s1N ρ rn σ i ≤ σ 1 i := alg_le _ _ _
  have hsa : saN ρ rn σ i ≤ σ 1 i := Nat.sub_le _ _
  have hgo : goN ρ dm rn σ i ≤ waN ρ rn σ i := gof_le
  have hgl : gg ≤ waN ρ rn σ i := by rw [hgg]; by_cases e : dm.testBit i = true; rw [if_pos e]; omega; rw [if_neg e]; omega
  refine wq_istore (pc := 210) (L2 := [_, _, _, _, _, _, _, _, _, _, _]) d_135_210 (Nat.le_of_ble_eq_true rfl) rfl rfl ?_
  refine wp_aload_n (pc := 212) (i := 0) d_135_212 rfl rfl ?_
  refine wp_gA (pc := 213) d_135_213 fl_10_19 rfl ft_9_4 (F_173_4 hF) ?_
  refine wp_iload (pc := 216) d_135_216 rfl ?_
  refine wp_aL (pc := 218) (j := (f + i)) d_135_218 rfl rfl (by omega) (by decide) ((uq149.ne (by omega)).trans ((uq134.ne (by omega)).trans ((uq119.ne (by omega)).trans uq104.at))) ?_
  refine wp_iload (pc := 219) d_135_219 rfl ?_
  refine wp_isubN (pc := 221) d_135_221 hgl ?_
  refine wp_aload_n (pc := 222) (i := 0) d_135_222 rfl rfl ?_
  refine wp_gA (pc := 223) d_135_223 fl_10_16 rfl ft_9_3 (F_173_3 hF) ?_
  refine wp_icN (pc := 226) (m := 4) d_135_226 (by decide) ?_
  refine wp_iload (pc := 227) d_135_227 rfl ?_
  refine wp_imulN (pc := 229) d_135_229 ?_
  refine wp_icN (pc := 230) (m := 3) d_135_230 (by decide) ?_
  refine wp_iaddN (pc := 231) d_135_231 ?_
  refine wp_aL (pc := 232) (j := ((4 * i) + 3)) d_135_232 rfl rfl (by omega) (by decide) ((congrFun (show Iq149 176 = I 176 by rw [uq149.2 176 (by decide), uq134.2 176 (by decide), uq119.2 176 (by decide), uq104.2 176 (by decide), uq28.2 176 (by decide)]) _).trans (hRo.2.2 3 (by decide) i hi)) ?_
  refine wp_isub (pc := 233) d_135_233 ?_
  refine wq_istore (pc := 234) (L2 := [_, _, _, _, _, _, _, _, _, _, _]) d_135_234 (Nat.le_of_ble_eq_true rfl) rfl rfl ?_
  refine wp_aload_n (pc := 236) (i := 0) d_135_236 rfl rfl ?_
  refine wp_gA (pc := 237) d_135_237 fl_10_28 rfl ft_9_15 (F_173_15 hF) ?_
  refine wp_iload (pc := 240) d_135_240 rfl ?_
  refine wp_iload (pc := 242) d_135_242 rfl ?_
  refine wp_iload (pc := 244) d_135_244 rfl ?_
  refine wp_if_le (pc := 246) (tgt := 254) d_135_246 (by decide) (fun zq246 => ?_) (fun zq246 => ?_)
  · refine wp_icN (pc := 254) (m := 0) d_135_254 (by decide) ?_
    have hv0 : (waN ρ rn σ i - (if dm.testBit i then 0 else min (ρ 1 i) (waN ρ rn σ i)) - ρ 3 i) = 0 := by
      by_cases hlt : ρ 3 i < waN ρ rn σ i - gg
      · rw [pk_sub (Nat.le_of_lt hlt), nI_le0 (by omega)] at zq246; omega
      · rw [← hgg]; omega
    rw [← hv0]
    exact mp255 hF hRo hρ hi hf hdm hrn hb0 hb1 hz h0 h1 h2 h3 hgg uq28 uq104 uq119 uq134 uq149 hk
  · have hle3 : ρ 3 i ≤ waN ρ rn σ i - gg := by
      by_cases hlt : waN ρ rn σ i - gg < ρ 3 i
      · exact absurd (Int32.le_of_lt (pk_sneg (by omega) hlt)) zq246
      · omega
    rw [pk_sub hle3, show waN ρ rn σ i - gg - ρ 3 i = (waN ρ rn σ i - (if dm.testBit i then 0 else min (ρ 1 i) (waN ρ rn σ i)) - ρ 3 i) by rw [hgg]]
    refine wp_iload (pc := 249) d_135_249 rfl ?_
    refine wp_goto (pc := 251) (tgt := 255) d_135_251 (by decide) ?_
    exact mp255 hF hRo hρ hi hf hdm hrn hb0 hb1 hz h0 h1 h2 h3 hgg uq28 uq104 uq119 uq134 uq149 hk
set_option maxRecDepth 4000 in
theorem mp192 {Po : RT → Prop} {I : IT} {J : JT} {F : FT} {f n i dm rn : Nat} {ρ σ : SN} (hF : Fok F) (hRo : mRo I ρ n) (hρ : ∀ k j, ρ k j ≤ 9) (hi : i < n) (hf : f ≤ 30) (hdm : dm < 64) (hrn : rn ≤ 9) (hb0 : σ 0 i < 2 ^ 16) (hb1 : σ 1 i < 2 ^ 14) (hz : σ 0 i = 0 → σ 1 i = 0) (h0 : I 177 (f + i) = nI (σ 0 i)) (h1 : I 177 (f + i + 6) = nI (σ 1 i)) (h2 : I 177 (f + i + 12) = nI (σ 2 i)) (h3 : I 177 (f + i + 18) = nI (σ 3 i)) {x6 x7 : Int32} {x8 : Option VV} {x9 : Option VV} {x10 : Option VV} {Iq28 : IT} (uq28 : Up I Iq28 177 (f + i) (nI (σ 0 i + rn))) {Iq104 : IT} (uq104 : Up Iq28 Iq104 177 (f + i) (nI (waN ρ rn σ i))) {Iq119 : IT} (uq119 : Up Iq104 Iq119 177 (f + i + 6) (nI (saN ρ rn σ i))) {Iq134 : IT} (uq134 : Up Iq119 Iq134 177 (f + i + 12) (nI (σ 2 i + (drN ρ rn σ i)))) {Iq149 : IT} (uq149 : Up Iq134 Iq149 177 (f + i + 18) (nI (σ 3 i + (s1N ρ rn σ i)))) (hk : ∀ (I2 : IT) (x5 : Option VV) (x6 : Option VV) (x7 : Option VV) (x8 : Option VV) (x9 : Option VV) (x10 : Option VV), (I2 177 (f + i) = nI (waN ρ rn σ i) ∧ I2 177 (f + i + 6) = nI (saN ρ rn σ i) ∧ I2 177 (f + i + 12) = nI (σ 2 i + (drN ρ rn σ i)) ∧ I2 177 (f + i + 18) = nI (σ 3 i + (s1N ρ rn σ i)) ∧ (∀ q, q ≠ f + i → q ≠ f + i + 6 → q ≠ f + i + 12 → q ≠ f + i + 18 → I2 177 q = I 177 q) ∧ I2 180 i = nI (goN ρ dm rn σ i) ∧ (∀ q, q ≠ i → I2 180 q = I 180 q) ∧ I2 181 i = nI (s2N ρ dm rn σ i) ∧ (∀ q, q ≠ i → I2 181 q = I 181 q) ∧ ∀ a, a ≠ 177 → a ≠ 180 → a ≠ 181 → I2 a = I a) → Wp none 135 Po 3 [some (vR 173), some (vI (nI f)), some (vI (nI rn)), some (vI (nI dm)), some (vI (nI (i + 1))), x5, x6, x7, x8, x9, x10] [] KK I2 J F) : Wp none 135 Po 192 [some (vR 173), some (vI (nI f)), some (vI (nI rn)), some (vI (nI dm)), some (vI (nI i)), some (vI (nI (f + i))), some (vI x6), some (vI x7), x8, x9, x10] [vI (nI (min (ρ 1 i) (waN ρ rn σ i)))] KK Iq149 J F := by
  have hn6 := hRo.1
  have hd1 : drN ρ rn σ i ≤ ρ 0 i := Nat.min_le_left _ _
  have hd2 : drN ρ rn σ i ≤ σ 0 i + rn := Nat.min_le_right _ _
  have hr0 := hρ 0 i
  have hr1 := hρ 1 i
  have hr3 := hρ 3 i
  have hwa : waN ρ rn σ i ≤ σ 0 i + rn := Nat.sub_le _ _
  have hs1 : s1N ρ rn σ i ≤ σ 1 i := alg_le _ _ _
  have hsa : saN ρ rn σ i ≤ σ 1 i := Nat.sub_le _ _
  have hgo : goN ρ dm rn σ i ≤ waN ρ rn σ i := gof_le
  refine wq_istore (pc := 192) (L2 := [_, _, _, _, _, _, _, _, _, _, _]) d_135_192 (Nat.le_of_ble_eq_true rfl) rfl rfl ?_
  refine wp_iload_n (pc := 194) (i := 3) d_135_194 rfl rfl ?_
  refine wp_iload (pc := 195) d_135_195 rfl ?_
  refine wp_ishr (pc := 197) d_135_197 ?_
  refine wp_icN (pc := 198) (m := 1) d_135_198 (by decide) ?_
  refine wp_iand (pc := 199) d_135_199 ?_
  rw [bit1_c hdm (by omega)]
  refine wp_icN (pc := 200) (m := 1) d_135_200 (by decide) ?_
  refine wp_icmpN_ne (pc := 201) (tgt := 208) d_135_201 (by decide) (by omega) (by decide) (fun zq201 => ?_) (fun zq201 => ?_)
  · refine wp_iload (pc := 208) d_135_208 rfl ?_
    exact mp210 hF hRo hρ hi hf hdm hrn hb0 hb1 hz h0 h1 h2 h3 (gg := min (ρ 1 i) (waN ρ rn σ i)) (by rw [if_neg (nT (tb0 zq201))]) uq28 uq104 uq119 uq134 uq149 hk
  · refine wp_icN (pc := 204) (m := 0) d_135_204 (by decide) ?_
    refine wp_goto (pc := 205) (tgt := 210) d_135_205 (by decide) ?_
    exact mp210 hF hRo hρ hi hf hdm hrn hb0 hb1 hz h0 h1 h2 h3 (gg := 0) (by rw [if_pos (tb1 zq201)]) uq28 uq104 uq119 uq134 uq149 hk
set_option maxRecDepth 4000 in
theorem mp67 {Po : RT → Prop} {I : IT} {J : JT} {F : FT} {f n i dm rn : Nat} {ρ σ : SN} (hF : Fok F) (hRo : mRo I ρ n) (hρ : ∀ k j, ρ k j ≤ 9) (hi : i < n) (hf : f ≤ 30) (hdm : dm < 64) (hrn : rn ≤ 9) (hb0 : σ 0 i < 2 ^ 16) (hb1 : σ 1 i < 2 ^ 14) (hz : σ 0 i = 0 → σ 1 i = 0) (h0 : I 177 (f + i) = nI (σ 0 i)) (h1 : I 177 (f + i + 6) = nI (σ 1 i)) (h2 : I 177 (f + i + 12) = nI (σ 2 i)) (h3 : I 177 (f + i + 18) = nI (σ 3 i)) {x6 : Option VV} {x7 : Option VV} {x8 : Option VV} {x9 : Option VV} {x10 : Option VV} {Iq28 : IT} (uq28 : Up I Iq28 177 (f + i) (nI (σ 0 i + rn))) (hk : ∀ (I2 : IT) (x5 : Option VV) (x6 : Option VV) (x7 : Option VV) (x8 : Option VV) (x9 : Option VV) (x10 : Option VV), (I2 177 (f + i) = nI (waN ρ rn σ i) ∧ I2 177 (f + i + 6) = nI (saN ρ rn σ i) ∧ I2 177 (f + i + 12) = nI (σ 2 i + (drN ρ rn σ i)) ∧ I2 177 (f + i + 18) = nI (σ 3 i + (s1N ρ rn σ i)) ∧ (∀ q, q ≠ f + i → q ≠ f + i + 6 → q ≠ f + i + 12 → q ≠ f + i + 18 → I2 177 q = I 177 q) ∧ I2 180 i = nI (goN ρ dm rn σ i) ∧ (∀ q, q ≠ i → I2 180 q = I 180 q) ∧ I2 181 i = nI (s2N ρ dm rn σ i) ∧ (∀ q, q ≠ i → I2 181 q = I 181 q) ∧ ∀ a, a ≠ 177 → a ≠ 180 → a ≠ 181 → I2 a = I a) → Wp none 135 Po 3 [some (vR 173), some (vI (nI f)), some (vI (nI rn)), some (vI (nI dm)), some (vI (nI (i + 1))), x5, x6, x7, x8, x9, x10] [] KK I2 J F) : Wp none 135 Po 67 [some (vR 173), some (vI (nI f)), some (vI (nI rn)), some (vI (nI dm)), some (vI (nI i)), some (vI (nI (f + i))), x6, x7, x8, x9, x10] [vI (nI (drN ρ rn σ i))] KK Iq28 J F := by
  have hn6 := hRo.1
  have hd1 : drN ρ rn σ i ≤ ρ 0 i := Nat.min_le_left _ _
  have hd2 : drN ρ rn σ i ≤ σ 0 i + rn := Nat.min_le_right _ _
  have hr0 := hρ 0 i
  have hr1 := hρ 1 i
  have hr3 := hρ 3 i
  have hwa : waN ρ rn σ i ≤ σ 0 i + rn := Nat.sub_le _ _
  have hs1 : s1N ρ rn σ i ≤ σ 1 i := alg_le _ _ _
  have hsa : saN ρ rn σ i ≤ σ 1 i := Nat.sub_le _ _
  have hgo : goN ρ dm rn σ i ≤ waN ρ rn σ i := gof_le
  refine wq_istore (pc := 67) (L2 := [_, _, _, _, _, _, _, _, _, _, _]) d_135_67 (Nat.le_of_ble_eq_true rfl) rfl rfl ?_
  refine wp_aload_n (pc := 69) (i := 0) d_135_69 rfl rfl ?_
  refine wp_gA (pc := 70) d_135_70 fl_10_19 rfl ft_9_4 (F_173_4 hF) ?_
  refine wp_iload (pc := 73) d_135_73 rfl ?_
  refine wp_bpN (pc := 75) (m := 6) d_135_75 (by decide) ?_
  refine wp_iaddN (pc := 77) d_135_77 ?_
  refine wp_aL (pc := 78) (j := ((f + i) + 6)) d_135_78 rfl rfl (by omega) (by decide) ((uq28.ne (by omega)).trans h1) ?_
  refine wp_iload (pc := 79) d_135_79 rfl ?_
  refine wp_aload_n (pc := 81) (i := 0) d_135_81 rfl rfl ?_
  refine wp_gA (pc := 82) d_135_82 fl_10_19 rfl ft_9_4 (F_173_4 hF) ?_
  refine wp_iload (pc := 85) d_135_85 rfl ?_
  refine wp_aL (pc := 87) (j := (f + i)) d_135_87 rfl rfl (by omega) (by decide) uq28.at ?_
  refine wp_callS3p (pc := 88) d_135_88 lk_10_114 (by decide) rfl (Nat.le_of_ble_eq_true rfl) (m_alongE (v := s1N ρ rn σ i) rfl (fun h => hz (by omega)) hd2 (by omega) (Nat.lt_of_le_of_lt (Nat.mul_le_mul (show σ 1 i ≤ 2 ^ 14 by omega) (show drN ρ rn σ i ≤ 9 by omega)) (by decide))) ?_
  refine wq_istore (pc := 91) (L2 := [_, _, _, _, _, _, _, _, _, _, _]) d_135_91 (Nat.le_of_ble_eq_true rfl) rfl rfl ?_
  refine wp_aload_n (pc := 93) (i := 0) d_135_93 rfl rfl ?_
  refine wp_gA (pc := 94) d_135_94 fl_10_19 rfl ft_9_4 (F_173_4 hF) ?_
  refine wp_iload (pc := 97) d_135_97 rfl ?_
  refine wp_dup2a (pc := 99) d_135_99 rfl rfl ?_
  refine wp_aL (pc := 100) (j := (f + i)) d_135_100 rfl rfl (by omega) (by decide) uq28.at ?_
  refine wp_iload (pc := 101) d_135_101 rfl ?_
  refine wp_isubN (pc := 103) d_135_103 (by omega) ?_
  rw [show σ 0 i + rn - drN ρ rn σ i = (waN ρ rn σ i) from rfl]
  refine wp_aS (pc := 104) (j := (f + i)) d_135_104 rfl rfl (by omega) (by decide) (fun Iq104 uq104 => ?_)
  refine wp_aload_n (pc := 105) (i := 0) d_135_105 rfl rfl ?_
  refine wp_gA (pc := 106) d_135_106 fl_10_19 rfl ft_9_4 (F_173_4 hF) ?_
  refine wp_iload (pc := 109) d_135_109 rfl ?_
  refine wp_bpN (pc := 111) (m := 6) d_135_111 (by decide) ?_
  refine wp_iaddN (pc := 113) d_135_113 ?_
  refine wp_dup2a (pc := 114) d_135_114 rfl rfl ?_
  refine wp_aL (pc := 115) (j := ((f + i) + 6)) d_135_115 rfl rfl (by omega) (by decide) ((uq104.ne (by omega)).trans ((uq28.ne (by omega)).trans h1)) ?_
  refine wp_iload (pc := 116) d_135_116 rfl ?_
  refine wp_isubN (pc := 118) d_135_118 (by omega) ?_
  rw [show σ 1 i - s1N ρ rn σ i = (saN ρ rn σ i) from rfl]
  refine wp_aS (pc := 119) (j := ((f + i) + 6)) d_135_119 rfl rfl (by omega) (by decide) (fun Iq119 uq119 => ?_)
  refine wp_aload_n (pc := 120) (i := 0) d_135_120 rfl rfl ?_
  refine wp_gA (pc := 121) d_135_121 fl_10_19 rfl ft_9_4 (F_173_4 hF) ?_
  refine wp_iload (pc := 124) d_135_124 rfl ?_
  refine wp_bpN (pc := 126) (m := 12) d_135_126 (by decide) ?_
  refine wp_iaddN (pc := 128) d_135_128 ?_
  refine wp_dup2a (pc := 129) d_135_129 rfl rfl ?_
  refine wp_aL (pc := 130) (j := ((f + i) + 12)) d_135_130 rfl rfl (by omega) (by decide) ((uq119.ne (by omega)).trans ((uq104.ne (by omega)).trans ((uq28.ne (by omega)).trans h2))) ?_
  refine wp_iload (pc := 131) d_135_131 rfl ?_
  refine wp_iaddN (pc := 133) d_135_133 ?_
  refine wp_aS (pc := 134) (j := ((f + i) + 12)) d_135_134 rfl rfl (by omega) (by decide) (fun Iq134 uq134 => ?_)
  refine wp_aload_n (pc := 135) (i := 0) d_135_135 rfl rfl ?_
  refine wp_gA (pc := 136) d_135_136 fl_10_19 rfl ft_9_4 (F_173_4 hF) ?_
  refine wp_iload (pc := 139) d_135_139 rfl ?_
  refine wp_bpN (pc := 141) (m := 18) d_135_141 (by decide) ?_
  refine wp_iaddN (pc := 143) d_135_143 ?_
  refine wp_dup2a (pc := 144) d_135_144 rfl rfl ?_
  refine wp_aL (pc := 145) (j := ((f + i) + 18)) d_135_145 rfl rfl (by omega) (by decide) ((uq134.ne (by omega)).trans ((uq119.ne (by omega)).trans ((uq104.ne (by omega)).trans ((uq28.ne (by omega)).trans h3)))) ?_
  refine wp_iload (pc := 146) d_135_146 rfl ?_
  refine wp_iaddN (pc := 148) d_135_148 ?_
  refine wp_aS (pc := 149) (j := ((f + i) + 18)) d_135_149 rfl rfl (by omega) (by decide) (fun Iq149 uq149 => ?_)
  refine wp_aload_n (pc := 150) (i := 0) d_135_150 rfl rfl ?_
  refine wp_gA (pc := 151) d_135_151 fl_10_19 rfl ft_9_4 (F_173_4 hF) ?_
  refine wp_iload (pc := 154) d_135_154 rfl ?_
  refine wp_aL (pc := 156) (j := (f + i)) d_135_156 rfl rfl (by omega) (by decide) ((uq149.ne (by omega)).trans ((uq134.ne (by omega)).trans ((uq119.ne (by omega)).trans uq104.at))) ?_
  refine wp_aload_n (pc := 157) (i := 0) d_135_157 rfl rfl ?_
  refine wp_gA (pc := 158) d_135_158 fl_10_16 rfl ft_9_3 (F_173_3 hF) ?_
  refine wp_icN (pc := 161) (m := 4) d_135_161 (by decide) ?_
  refine wp_iload (pc := 162) d_135_162 rfl ?_
  refine wp_imulN (pc := 164) d_135_164 ?_
  refine wp_icN (pc := 165) (m := 1) d_135_165 (by decide) ?_
  refine wp_iaddN (pc := 166) d_135_166 ?_
  refine wp_aL (pc := 167) (j := ((4 * i) + 1)) d_135_167 rfl rfl (by omega) (by decide) ((congrFun (show Iq149 176 = I 176 by rw [uq149.2 176 (by decide), uq134.2 176 (by decide), uq119.2 176 (by decide), uq104.2 176 (by decide), uq28.2 176 (by decide)]) _).trans (hRo.2.2 1 (by decide) i hi)) ?_
  refine wp_icmpN_ge (pc := 168) (tgt := 181) d_135_168 (by decide) (by omega) (by omega) (fun zq168 => ?_) (fun zq168 => ?_)
  · refine wp_aload_n (pc := 181) (i := 0) d_135_181 rfl rfl ?_
    refine wp_gA (pc := 182) d_135_182 fl_10_16 rfl ft_9_3 (F_173_3 hF) ?_
    refine wp_icN (pc := 185) (m := 4) d_135_185 (by decide) ?_
    refine wp_iload (pc := 186) d_135_186 rfl ?_
    refine wp_imulN (pc := 188) d_135_188 ?_
    refine wp_icN (pc := 189) (m := 1) d_135_189 (by decide) ?_
    refine wp_iaddN (pc := 190) d_135_190 ?_
    refine wp_aL (pc := 191) (j := ((4 * i) + 1)) d_135_191 rfl rfl (by omega) (by decide) ((congrFun (show Iq149 176 = I 176 by rw [uq149.2 176 (by decide), uq134.2 176 (by decide), uq119.2 176 (by decide), uq104.2 176 (by decide), uq28.2 176 (by decide)]) _).trans (hRo.2.2 1 (by decide) i hi)) ?_
    rw [show ρ 1 i = min (ρ 1 i) (waN ρ rn σ i) by omega]
    exact mp192 hF hRo hρ hi hf hdm hrn hb0 hb1 hz h0 h1 h2 h3 uq28 uq104 uq119 uq134 uq149 hk
  · refine wp_aload_n (pc := 171) (i := 0) d_135_171 rfl rfl ?_
    refine wp_gA (pc := 172) d_135_172 fl_10_19 rfl ft_9_4 (F_173_4 hF) ?_
    refine wp_iload (pc := 175) d_135_175 rfl ?_
    refine wp_aL (pc := 177) (j := (f + i)) d_135_177 rfl rfl (by omega) (by decide) ((uq149.ne (by omega)).trans ((uq134.ne (by omega)).trans ((uq119.ne (by omega)).trans uq104.at))) ?_
    refine wp_goto (pc := 178) (tgt := 192) d_135_178 (by decide) ?_
    rw [show waN ρ rn σ i = min (ρ 1 i) (waN ρ rn σ i) by omega]
    exact mp192 hF hRo hρ hi hf hdm hrn hb0 hb1 hz h0 h1 h2 h3 uq28 uq104 uq119 uq134 uq149 hk
set_option maxRecDepth 4000 in
theorem mp12 {Po : RT → Prop} {I : IT} {J : JT} {F : FT} {f n i dm rn : Nat} {ρ σ : SN} (hF : Fok F) (hRo : mRo I ρ n) (hρ : ∀ k j, ρ k j ≤ 9) (hi : i < n) (hf : f ≤ 30) (hdm : dm < 64) (hrn : rn ≤ 9) (hb0 : σ 0 i < 2 ^ 16) (hb1 : σ 1 i < 2 ^ 14) (hz : σ 0 i = 0 → σ 1 i = 0) (h0 : I 177 (f + i) = nI (σ 0 i)) (h1 : I 177 (f + i + 6) = nI (σ 1 i)) (h2 : I 177 (f + i + 12) = nI (σ 2 i)) (h3 : I 177 (f + i + 18) = nI (σ 3 i)) {x5 : Option VV} {x6 : Option VV} {x7 : Option VV} {x8 : Option VV} {x9 : Option VV} {x10 : Option VV} (hk : ∀ (I2 : IT) (x5 : Option VV) (x6 : Option VV) (x7 : Option VV) (x8 : Option VV) (x9 : Option VV) (x10 : Option VV), (I2 177 (f + i) = nI (waN ρ rn σ i) ∧ I2 177 (f + i + 6) = nI (saN ρ rn σ i) ∧ I2 177 (f + i + 12) = nI (σ 2 i + (drN ρ rn σ i)) ∧ I2 177 (f + i + 18) = nI (σ 3 i + (s1N ρ rn σ i)) ∧ (∀ q, q ≠ f + i → q ≠ f + i + 6 → q ≠ f + i + 12 → q ≠ f + i + 18 → I2 177 q = I 177 q) ∧ I2 180 i = nI (goN ρ dm rn σ i) ∧ (∀ q, q ≠ i → I2 180 q = I 180 q) ∧ I2 181 i = nI (s2N ρ dm rn σ i) ∧ (∀ q, q ≠ i → I2 181 q = I 181 q) ∧ ∀ a, a ≠ 177 → a ≠ 180 → a ≠ 181 → I2 a = I a) → Wp none 135 Po 3 [some (vR 173), some (vI (nI f)), some (vI (nI rn)), some (vI (nI dm)), some (vI (nI (i + 1))), x5, x6, x7, x8, x9, x10] [] KK I2 J F) : Wp none 135 Po 12 [some (vR 173), some (vI (nI f)), some (vI (nI rn)), some (vI (nI dm)), some (vI (nI i)), x5, x6, x7, x8, x9, x10] [] KK I J F := by
  have hn6 := hRo.1
  have hd1 : drN ρ rn σ i ≤ ρ 0 i := Nat.min_le_left _ _
  have hd2 : drN ρ rn σ i ≤ σ 0 i + rn := Nat.min_le_right _ _
  have hr0 := hρ 0 i
  have hr1 := hρ 1 i
  have hr3 := hρ 3 i
  have hwa : waN ρ rn σ i ≤ σ 0 i + rn := Nat.sub_le _ _
  have hs1 : s1N ρ rn σ i ≤ σ 1 i := alg_le _ _ _
  have hsa : saN ρ rn σ i ≤ σ 1 i := Nat.sub_le _ _
  have hgo : goN ρ dm rn σ i ≤ waN ρ rn σ i := gof_le
  refine wp_iload_n (pc := 12) (i := 1) d_135_12 rfl rfl ?_
  refine wp_iload (pc := 13) d_135_13 rfl ?_
  refine wp_iaddN (pc := 15) d_135_15 ?_
  refine wq_istore (pc := 16) (L2 := [_, _, _, _, _, _, _, _, _, _, _]) d_135_16 (Nat.le_of_ble_eq_true rfl) rfl rfl ?_
  refine wp_aload_n (pc := 18) (i := 0) d_135_18 rfl rfl ?_
  refine wp_gA (pc := 19) d_135_19 fl_10_19 rfl ft_9_4 (F_173_4 hF) ?_
  refine wp_iload (pc := 22) d_135_22 rfl ?_
  refine wp_dup2a (pc := 24) d_135_24 rfl rfl ?_
  refine wp_aL (pc := 25) (j := (f + i)) d_135_25 rfl rfl (by omega) (by decide) h0 ?_
  refine wp_iload_n (pc := 26) (i := 2) d_135_26 rfl rfl ?_
  refine wp_iaddN (pc := 27) d_135_27 ?_
  refine wp_aS (pc := 28) (j := (f + i)) d_135_28 rfl rfl (by omega) (by decide) (fun Iq28 uq28 => ?_)
  refine wp_aload_n (pc := 29) (i := 0) d_135_29 rfl rfl ?_
  refine wp_gA (pc := 30) d_135_30 fl_10_19 rfl ft_9_4 (F_173_4 hF) ?_
  refine wp_iload (pc := 33) d_135_33 rfl ?_
  refine wp_aL (pc := 35) (j := (f + i)) d_135_35 rfl rfl (by omega) (by decide) uq28.at ?_
  refine wp_aload_n (pc := 36) (i := 0) d_135_36 rfl rfl ?_
  refine wp_gA (pc := 37) d_135_37 fl_10_16 rfl ft_9_3 (F_173_3 hF) ?_
  refine wp_icN (pc := 40) (m := 4) d_135_40 (by decide) ?_
  refine wp_iload (pc := 41) d_135_41 rfl ?_
  refine wp_imulN (pc := 43) d_135_43 ?_
  refine wp_aL (pc := 44) (j := (4 * i)) d_135_44 rfl rfl (by omega) (by decide) ((congrFun (uq28.2 176 (by decide)) _).trans (hRo.2.2 0 (by decide) i hi)) ?_
  refine wp_icmpN_ge (pc := 45) (tgt := 58) d_135_45 (by decide) (by omega) (by omega) (fun zq45 => ?_) (fun zq45 => ?_)
  · refine wp_aload_n (pc := 58) (i := 0) d_135_58 rfl rfl ?_
    refine wp_gA (pc := 59) d_135_59 fl_10_16 rfl ft_9_3 (F_173_3 hF) ?_
    refine wp_icN (pc := 62) (m := 4) d_135_62 (by decide) ?_
    refine wp_iload (pc := 63) d_135_63 rfl ?_
    refine wp_imulN (pc := 65) d_135_65 ?_
    refine wp_aL (pc := 66) (j := (4 * i)) d_135_66 rfl rfl (by omega) (by decide) ((congrFun (uq28.2 176 (by decide)) _).trans (hRo.2.2 0 (by decide) i hi)) ?_
    rw [show ρ 0 i = drN ρ rn σ i by unfold drN; omega]
    exact mp67 hF hRo hρ hi hf hdm hrn hb0 hb1 hz h0 h1 h2 h3 uq28 hk
  · refine wp_aload_n (pc := 48) (i := 0) d_135_48 rfl rfl ?_
    refine wp_gA (pc := 49) d_135_49 fl_10_19 rfl ft_9_4 (F_173_4 hF) ?_
    refine wp_iload (pc := 52) d_135_52 rfl ?_
    refine wp_aL (pc := 54) (j := (f + i)) d_135_54 rfl rfl (by omega) (by decide) uq28.at ?_
    refine wp_goto (pc := 55) (tgt := 67) d_135_55 (by decide) ?_
    rw [show σ 0 i + rn = drN ρ rn σ i by unfold drN; omega]
    exact mp67 hF hRo hρ hi hf hdm hrn hb0 hb1 hz h0 h1 h2 h3 uq28 hk
