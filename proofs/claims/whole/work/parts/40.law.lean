theorem MR.fr {I I2 : IT} {J J2 : JT} {s0 : SS} (h : MRt I J s0) (k : OC I J I2 J2) : MRt I2 J2 s0 := by
  obtain ⟨h1, h2, h3, h4, h5, h6, h7⟩ := h
  obtain ⟨k1, k2⟩ := k
  refine ⟨⟨by rw [k1 173 (by decide)]; exact h1.1, fun j hj => by rw [k1 178 (by decide)]; exact h1.2 j hj⟩, h2.k (by rw [k1 173 (by decide)]) (k1 176 (by decide)), ⟨by rw [k1 177 (by decide)]; exact h3.1, by rw [k1 173 (by decide)]; exact h3.2.1, by rw [k1 173 (by decide)]; exact h3.2.2⟩, ⟨by rw [k1 173 (by decide)]; exact h4.1, by rw [k1 173 (by decide)]; exact h4.2.1, fun i hi => by rw [k1 179 (by decide)]; exact h4.2.2 i hi⟩, ⟨h5.1, by rw [k1 173 (by decide)]; exact h5.2.1, fun j hj => by rw [k1 183 (by decide), k1 184 (by decide), k1 185 (by decide)]; exact h5.2.2 j hj⟩, ⟨fun i hi => by rw [k1 187 (by decide)]; exact h6.1 i hi, fun i hi => by rw [k1 186 (by decide)]; exact h6.2 i hi⟩, by rw [k2]; exact h7⟩
theorem CR.fr {I I2 : IT} {J J2 : JT} {s0 : SS} (h : CRt I J s0) (k : OM I J I2 J2) : CRt I2 J2 s0 := by
  obtain ⟨h1, h2, h3, h4, h5, h6, h7⟩ := h
  obtain ⟨k1, k2⟩ := k
  refine ⟨⟨by rw [k1 2 (by decide)]; exact h1.1, fun j hj => by rw [k1 3 (by decide)]; exact h1.2 j hj⟩, atR_keep h2 (fun a _ ha => k1 a (by omega)), atWk h3 (fun a _ ha => k1 a (by omega)), ⟨by rw [k1 23 (by decide)]; exact h4.1, by rw [k1 23 (by decide)]; exact h4.2.1, fun i hi => atWk (h4.2.2 i hi) (fun a _ ha => k1 a (by omega))⟩, ⟨h5.1, by rw [k1 151 (by decide)]; exact h5.2.1, fun k3 hk j hj => by rw [k1 (151 + 1 + k3) (by omega)]; exact h5.2.2 k3 hk j hj⟩, h6.k (fun a _ ha => k1 a (by omega)), by rw [k2]; exact h7⟩
theorem lgs_0 (a : Int64) : lg_cmp a a = 0 := by
  unfold lg_cmp
  rw [if_neg (show ¬ a > a from Int64.lt_irrefl), if_pos rfl]
theorem wl_c0 {scr : Option (Nat × (Nat → Int32))} {y : Nat} {Po : RT → Prop} {pc : Nat} {L : LL} {st : List VV} {I : IT} {J : JT} {F : FT} {i y2 a : Nat} {ci n n3 : Nat} {T : u_T} {q : Int32 × SS} (hd : decode (mB y) pc = .ok (.invokevirtual i, 3)) (hl : gg_CV (mN y).cls i y2) (hm : mK y2 < mK y) (hn : 0 = mA y2) (hs : vcats st ≤ 8) (hk : KK[a]? = some (ci, n)) (hcl : vwCl[ci]? = some ((mN y2).cls, T, n3)) (hC : Sp y2 [vR a] KK I J F (PQ q I J F)) (k : ∀ I2 J2, CRt I2 J2 q.2 → OC I J I2 J2 → Wp scr y Po (pc + 3) L (vI q.1 :: st) KK I2 J2 F) : Wp scr y Po pc L (vR a :: st) KK I J F := wp_callV (as := []) hd hl hm hn hs hk hcl hC (fun r K2 I2 J2 F2 h => by obtain ⟨I3, J3, h1, h2, h3⟩ := h; cases h1; exact k _ _ h2 h3)
theorem wl_m0 {scr : Option (Nat × (Nat → Int32))} {y : Nat} {Po : RT → Prop} {pc : Nat} {L : LL} {st : List VV} {I : IT} {J : JT} {F : FT} {i y2 a : Nat} {ci n n3 : Nat} {T : u_T} {q : Int32 × SS} (hd : decode (mB y) pc = .ok (.invokevirtual i, 3)) (hl : gg_CV (mN y).cls i y2) (hm : mK y2 < mK y) (hn : 0 = mA y2) (hs : vcats st ≤ 8) (hk : KK[a]? = some (ci, n)) (hcl : vwCl[ci]? = some ((mN y2).cls, T, n3)) (hC : Sp y2 [vR a] KK I J F (PN q I J F)) (k : ∀ I2 J2, MRt I2 J2 q.2 → OM I J I2 J2 → Wp scr y Po (pc + 3) L (vI q.1 :: st) KK I2 J2 F) : Wp scr y Po pc L (vR a :: st) KK I J F := wp_callV (as := []) hd hl hm hn hs hk hcl hC (fun r K2 I2 J2 F2 h => by obtain ⟨I3, J3, h1, h2, h3⟩ := h; cases h1; exact k _ _ h2 h3)
theorem wl_c1 {scr : Option (Nat × (Nat → Int32))} {y : Nat} {Po : RT → Prop} {pc : Nat} {L : LL} {st : List VV} {I : IT} {J : JT} {F : FT} {i y2 a : Nat} {v0 : VV} {ci n n3 : Nat} {T : u_T} {q : Int32 × SS} (hd : decode (mB y) pc = .ok (.invokevirtual i, 3)) (hl : gg_CV (mN y).cls i y2) (hm : mK y2 < mK y) (hn : 1 = mA y2) (hs : vcats st ≤ 8) (hk : KK[a]? = some (ci, n)) (hcl : vwCl[ci]? = some ((mN y2).cls, T, n3)) (hC : Sp y2 [vR a, v0] KK I J F (PQ q I J F)) (k : ∀ I2 J2, CRt I2 J2 q.2 → OC I J I2 J2 → Wp scr y Po (pc + 3) L (vI q.1 :: st) KK I2 J2 F) : Wp scr y Po pc L (v0 :: vR a :: st) KK I J F := wp_callV (as := [v0]) hd hl hm hn hs hk hcl hC (fun r K2 I2 J2 F2 h => by obtain ⟨I3, J3, h1, h2, h3⟩ := h; cases h1; exact k _ _ h2 h3)
theorem wl_m1 {scr : Option (Nat × (Nat → Int32))} {y : Nat} {Po : RT → Prop} {pc : Nat} {L : LL} {st : List VV} {I : IT} {J : JT} {F : FT} {i y2 a : Nat} {v0 : VV} {ci n n3 : Nat} {T : u_T} {q : Int32 × SS} (hd : decode (mB y) pc = .ok (.invokevirtual i, 3)) (hl : gg_CV (mN y).cls i y2) (hm : mK y2 < mK y) (hn : 1 = mA y2) (hs : vcats st ≤ 8) (hk : KK[a]? = some (ci, n)) (hcl : vwCl[ci]? = some ((mN y2).cls, T, n3)) (hC : Sp y2 [vR a, v0] KK I J F (PN q I J F)) (k : ∀ I2 J2, MRt I2 J2 q.2 → OM I J I2 J2 → Wp scr y Po (pc + 3) L (vI q.1 :: st) KK I2 J2 F) : Wp scr y Po pc L (v0 :: vR a :: st) KK I J F := wp_callV (as := [v0]) hd hl hm hn hs hk hcl hC (fun r K2 I2 J2 F2 h => by obtain ⟨I3, J3, h1, h2, h3⟩ := h; cases h1; exact k _ _ h2 h3)
theorem wl_c2 {scr : Option (Nat × (Nat → Int32))} {y : Nat} {Po : RT → Prop} {pc : Nat} {L : LL} {st : List VV} {I : IT} {J : JT} {F : FT} {i y2 a : Nat} {v0 v1 : VV} {ci n n3 : Nat} {T : u_T} {q : Int32 × SS} (hd : decode (mB y) pc = .ok (.invokevirtual i, 3)) (hl : gg_CV (mN y).cls i y2) (hm : mK y2 < mK y) (hn : 2 = mA y2) (hs : vcats st ≤ 8) (hk : KK[a]? = some (ci, n)) (hcl : vwCl[ci]? = some ((mN y2).cls, T, n3)) (hC : Sp y2 [vR a, v0, v1] KK I J F (PQ q I J F)) (k : ∀ I2 J2, CRt I2 J2 q.2 → OC I J I2 J2 → Wp scr y Po (pc + 3) L (vI q.1 :: st) KK I2 J2 F) : Wp scr y Po pc L (v1 :: v0 :: vR a :: st) KK I J F := wp_callV (as := [v0, v1]) hd hl hm hn hs hk hcl hC (fun r K2 I2 J2 F2 h => by obtain ⟨I3, J3, h1, h2, h3⟩ := h; cases h1; exact k _ _ h2 h3)
theorem wl_m2 {scr : Option (Nat × (Nat → Int32))} {y : Nat} {Po : RT → Prop} {pc : Nat} {L : LL} {st : List VV} {I : IT} {J : JT} {F : FT} {i y2 a : Nat} {v0 v1 : VV} {ci n n3 : Nat} {T : u_T} {q : Int32 × SS} (hd : decode (mB y) pc = .ok (.invokevirtual i, 3)) (hl : gg_CV (mN y).cls i y2) (hm : mK y2 < mK y) (hn : 2 = mA y2) (hs : vcats st ≤ 8) (hk : KK[a]? = some (ci, n)) (hcl : vwCl[ci]? = some ((mN y2).cls, T, n3)) (hC : Sp y2 [vR a, v0, v1] KK I J F (PN q I J F)) (k : ∀ I2 J2, MRt I2 J2 q.2 → OM I J I2 J2 → Wp scr y Po (pc + 3) L (vI q.1 :: st) KK I2 J2 F) : Wp scr y Po pc L (v1 :: v0 :: vR a :: st) KK I J F := wp_callV (as := [v0, v1]) hd hl hm hn hs hk hcl hC (fun r K2 I2 J2 F2 h => by obtain ⟨I3, J3, h1, h2, h3⟩ := h; cases h1; exact k _ _ h2 h3)
theorem wl_c3 {scr : Option (Nat × (Nat → Int32))} {y : Nat} {Po : RT → Prop} {pc : Nat} {L : LL} {st : List VV} {I : IT} {J : JT} {F : FT} {i y2 a : Nat} {v0 v1 v2 : VV} {ci n n3 : Nat} {T : u_T} {q : Int32 × SS} (hd : decode (mB y) pc = .ok (.invokevirtual i, 3)) (hl : gg_CV (mN y).cls i y2) (hm : mK y2 < mK y) (hn : 3 = mA y2) (hs : vcats st ≤ 8) (hk : KK[a]? = some (ci, n)) (hcl : vwCl[ci]? = some ((mN y2).cls, T, n3)) (hC : Sp y2 [vR a, v0, v1, v2] KK I J F (PQ q I J F)) (k : ∀ I2 J2, CRt I2 J2 q.2 → OC I J I2 J2 → Wp scr y Po (pc + 3) L (vI q.1 :: st) KK I2 J2 F) : Wp scr y Po pc L (v2 :: v1 :: v0 :: vR a :: st) KK I J F := wp_callV (as := [v0, v1, v2]) hd hl hm hn hs hk hcl hC (fun r K2 I2 J2 F2 h => by obtain ⟨I3, J3, h1, h2, h3⟩ := h; cases h1; exact k _ _ h2 h3)
theorem wl_m3 {scr : Option (Nat × (Nat → Int32))} {y : Nat} {Po : RT → Prop} {pc : Nat} {L : LL} {st : List VV} {I : IT} {J : JT} {F : FT} {i y2 a : Nat} {v0 v1 v2 : VV} {ci n n3 : Nat} {T : u_T} {q : Int32 × SS} (hd : decode (mB y) pc = .ok (.invokevirtual i, 3)) (hl : gg_CV (mN y).cls i y2) (hm : mK y2 < mK y) (hn : 3 = mA y2) (hs : vcats st ≤ 8) (hk : KK[a]? = some (ci, n)) (hcl : vwCl[ci]? = some ((mN y2).cls, T, n3)) (hC : Sp y2 [vR a, v0, v1, v2] KK I J F (PN q I J F)) (k : ∀ I2 J2, MRt I2 J2 q.2 → OM I J I2 J2 → Wp scr y Po (pc + 3) L (vI q.1 :: st) KK I2 J2 F) : Wp scr y Po pc L (v2 :: v1 :: v0 :: vR a :: st) KK I J F := wp_callV (as := [v0, v1, v2]) hd hl hm hn hs hk hcl hC (fun r K2 I2 J2 F2 h => by obtain ⟨I3, J3, h1, h2, h3⟩ := h; cases h1; exact k _ _ h2 h3)
theorem wl_cl1 {scr : Option (Nat × (Nat → Int32))} {y : Nat} {Po : RT → Prop} {pc : Nat} {L : LL} {st : List VV} {I : IT} {J : JT} {F : FT} {i y2 a : Nat} {v0 : VV} {ci n n3 : Nat} {T : u_T} {q : Int64 × SS} (hd : decode (mB y) pc = .ok (.invokevirtual i, 3)) (hl : gg_CV (mN y).cls i y2) (hm : mK y2 < mK y) (hn : 1 = mA y2) (hs : vcats st ≤ 8) (hk : KK[a]? = some (ci, n)) (hcl : vwCl[ci]? = some ((mN y2).cls, T, n3)) (hC : Sp y2 [vR a, v0] KK I J F (PQL q I J F)) (k : ∀ I2 J2, CRt I2 J2 q.2 → OC I J I2 J2 → Wp scr y Po (pc + 3) L (vL q.1 :: st) KK I2 J2 F) : Wp scr y Po pc L (v0 :: vR a :: st) KK I J F := wp_callV (as := [v0]) hd hl hm hn hs hk hcl hC (fun r K2 I2 J2 F2 h => by obtain ⟨I3, J3, h1, h2, h3⟩ := h; cases h1; exact k _ _ h2 h3)
theorem wl_ml1 {scr : Option (Nat × (Nat → Int32))} {y : Nat} {Po : RT → Prop} {pc : Nat} {L : LL} {st : List VV} {I : IT} {J : JT} {F : FT} {i y2 a : Nat} {v0 : VV} {ci n n3 : Nat} {T : u_T} {q : Int64 × SS} (hd : decode (mB y) pc = .ok (.invokevirtual i, 3)) (hl : gg_CV (mN y).cls i y2) (hm : mK y2 < mK y) (hn : 1 = mA y2) (hs : vcats st ≤ 8) (hk : KK[a]? = some (ci, n)) (hcl : vwCl[ci]? = some ((mN y2).cls, T, n3)) (hC : Sp y2 [vR a, v0] KK I J F (PNL q I J F)) (k : ∀ I2 J2, MRt I2 J2 q.2 → OM I J I2 J2 → Wp scr y Po (pc + 3) L (vL q.1 :: st) KK I2 J2 F) : Wp scr y Po pc L (v0 :: vR a :: st) KK I J F := wp_callV (as := [v0]) hd hl hm hn hs hk hcl hC (fun r K2 I2 J2 F2 h => by obtain ⟨I3, J3, h1, h2, h3⟩ := h; cases h1; exact k _ _ h2 h3)
theorem wl_cl5 {scr : Option (Nat × (Nat → Int32))} {y : Nat} {Po : RT → Prop} {pc : Nat} {L : LL} {st : List VV} {I : IT} {J : JT} {F : FT} {i y2 a : Nat} {v0 v1 v2 v3 v4 : VV} {ci n n3 : Nat} {T : u_T} {q : Int64 × SS} (hd : decode (mB y) pc = .ok (.invokevirtual i, 3)) (hl : gg_CV (mN y).cls i y2) (hm : mK y2 < mK y) (hn : 5 = mA y2) (hs : vcats st ≤ 8) (hk : KK[a]? = some (ci, n)) (hcl : vwCl[ci]? = some ((mN y2).cls, T, n3)) (hC : Sp y2 [vR a, v0, v1, v2, v3, v4] KK I J F (PQL q I J F)) (k : ∀ I2 J2, CRt I2 J2 q.2 → OC I J I2 J2 → Wp scr y Po (pc + 3) L (vL q.1 :: st) KK I2 J2 F) : Wp scr y Po pc L (v4 :: v3 :: v2 :: v1 :: v0 :: vR a :: st) KK I J F := wp_callV (as := [v0, v1, v2, v3, v4]) hd hl hm hn hs hk hcl hC (fun r K2 I2 J2 F2 h => by obtain ⟨I3, J3, h1, h2, h3⟩ := h; cases h1; exact k _ _ h2 h3)
theorem wl_ml5 {scr : Option (Nat × (Nat → Int32))} {y : Nat} {Po : RT → Prop} {pc : Nat} {L : LL} {st : List VV} {I : IT} {J : JT} {F : FT} {i y2 a : Nat} {v0 v1 v2 v3 v4 : VV} {ci n n3 : Nat} {T : u_T} {q : Int64 × SS} (hd : decode (mB y) pc = .ok (.invokevirtual i, 3)) (hl : gg_CV (mN y).cls i y2) (hm : mK y2 < mK y) (hn : 5 = mA y2) (hs : vcats st ≤ 8) (hk : KK[a]? = some (ci, n)) (hcl : vwCl[ci]? = some ((mN y2).cls, T, n3)) (hC : Sp y2 [vR a, v0, v1, v2, v3, v4] KK I J F (PNL q I J F)) (k : ∀ I2 J2, MRt I2 J2 q.2 → OM I J I2 J2 → Wp scr y Po (pc + 3) L (vL q.1 :: st) KK I2 J2 F) : Wp scr y Po pc L (v4 :: v3 :: v2 :: v1 :: v0 :: vR a :: st) KK I J F := wp_callV (as := [v0, v1, v2, v3, v4]) hd hl hm hn hs hk hcl hC (fun r K2 I2 J2 F2 h => by obtain ⟨I3, J3, h1, h2, h3⟩ := h; cases h1; exact k _ _ h2 h3)
set_option maxRecDepth 4000 in
theorem lw_c0 {L i t : Nat} {xs : Nat → Int32} {Po : RT → Prop} {I : IT} {J : JT} {F : FT} {tx : Nat → Nat} {tl : Nat} {ρ : SN} {n : Nat} {σ : SN} {rg : Nat → SN} {nx na : Nat} {γ : SN} {gn : Nat} {sl : Nat → SN} {sf : Nat → Bool} {sd : Int64} (hF : Fok F) (hL : L ≤ 3072) (hi : i + 6 ≤ L) (hC : CR I J tx tl ρ n σ rg nx na γ gn sl sf sd) (hM : MR I J tx tl ρ n σ rg nx na γ gn sl sf sd) (hO : OKS t tx tl ρ n σ rg nx na γ gn sl sf) (ht : t + 100 ≤ 1000) (hk : ∀ (s2 : SS) (I2 : IT) (J2 : JT), OKt (t + 1) s2 → CRt I2 J2 s2 → MRt I2 J2 s2 → Wp (some (L, xs)) 0 Po 1063 [some (vR 0), some (vR 1), some (vR 173), some (vI (nI i))] [] KK I2 J2 F) : Wp (some (L, xs)) 0 Po 156 [some (vR 0), some (vR 1), some (vR 173), some (vI (nI i))] [] KK I J F := by
  refine wp_aload_n (pc := 156) (i := 1) d_0_156 rfl rfl ?_
  refine wp_aload_n (pc := 157) (i := 0) d_0_157 rfl rfl ?_
  refine wp_iload_n (pc := 158) (i := 3) d_0_158 rfl rfl ?_
  refine wp_icN (pc := 159) (m := 1) d_0_159 (by decide) ?_
  refine wp_iaddN (pc := 160) d_0_160 ?_
  refine wp_sld (pc := 161) d_0_161 rfl (vp_in_nI (show i + 1 < L by omega) (by omega)) ?_
  refine wp_aload_n (pc := 162) (i := 0) d_0_162 rfl rfl ?_
  refine wp_iload_n (pc := 163) (i := 3) d_0_163 rfl rfl ?_
  refine wp_icN (pc := 164) (m := 2) d_0_164 (by decide) ?_
  refine wp_iaddN (pc := 165) d_0_165 ?_
  refine wp_sld (pc := 166) d_0_166 rfl (vp_in_nI (show i + 2 < L by omega) (by omega)) ?_
  refine wp_i2l (pc := 167) d_0_167 ?_
  refine wp_bpN (pc := 168) (m := 32) d_0_168 (by decide) ?_
  refine wp_lshl (pc := 170) d_0_170 ?_
  refine wp_aload_n (pc := 171) (i := 0) d_0_171 rfl rfl ?_
  refine wp_iload_n (pc := 172) (i := 3) d_0_172 rfl rfl ?_
  refine wp_icN (pc := 173) (m := 3) d_0_173 (by decide) ?_
  refine wp_iaddN (pc := 174) d_0_174 ?_
  refine wp_sld (pc := 175) d_0_175 rfl (vp_in_nI (show i + 3 < L by omega) (by omega)) ?_
  refine wp_i2l (pc := 176) d_0_176 ?_
  refine wp_ldc2 (pc := 177) d_0_177 cs_0_13 ?_
  refine wp_land (pc := 180) d_0_180 ?_
  refine wp_lor (pc := 181) d_0_181 ?_
  refine wl_c2 (pc := 182) d_0_182 lk_0_15 (by decide) rfl (Nat.le_of_ble_eq_true rfl) (a := 1) rfl rfl (c_gwrite hF hC hO ht) (fun I2 J2 hc oc => ?_)
  refine wp_aload_n (pc := 185) (i := 2) d_0_185 rfl rfl ?_
  refine wp_aload_n (pc := 186) (i := 0) d_0_186 rfl rfl ?_
  refine wp_iload_n (pc := 187) (i := 3) d_0_187 rfl rfl ?_
  refine wp_icN (pc := 188) (m := 1) d_0_188 (by decide) ?_
  refine wp_iaddN (pc := 189) d_0_189 ?_
  refine wp_sld (pc := 190) d_0_190 rfl (vp_in_nI (show i + 1 < L by omega) (by omega)) ?_
  refine wp_aload_n (pc := 191) (i := 0) d_0_191 rfl rfl ?_
  refine wp_iload_n (pc := 192) (i := 3) d_0_192 rfl rfl ?_
  refine wp_icN (pc := 193) (m := 2) d_0_193 (by decide) ?_
  refine wp_iaddN (pc := 194) d_0_194 ?_
  refine wp_sld (pc := 195) d_0_195 rfl (vp_in_nI (show i + 2 < L by omega) (by omega)) ?_
  refine wp_i2l (pc := 196) d_0_196 ?_
  refine wp_bpN (pc := 197) (m := 32) d_0_197 (by decide) ?_
  refine wp_lshl (pc := 199) d_0_199 ?_
  refine wp_aload_n (pc := 200) (i := 0) d_0_200 rfl rfl ?_
  refine wp_iload_n (pc := 201) (i := 3) d_0_201 rfl rfl ?_
  refine wp_icN (pc := 202) (m := 3) d_0_202 (by decide) ?_
  refine wp_iaddN (pc := 203) d_0_203 ?_
  refine wp_sld (pc := 204) d_0_204 rfl (vp_in_nI (show i + 3 < L by omega) (by omega)) ?_
  refine wp_i2l (pc := 205) d_0_205 ?_
  refine wp_ldc2 (pc := 206) d_0_206 cs_0_13 ?_
  refine wp_land (pc := 209) d_0_209 ?_
  refine wp_lor (pc := 210) d_0_210 ?_
  refine wl_m2 (pc := 211) d_0_211 lk_0_19 (by decide) rfl (Nat.le_of_ble_eq_true rfl) (a := 173) rfl rfl (m_gwrite hF (MR.fr (s0 := (tx, tl, ρ, n, σ, rg, nx, na, γ, gn, sl, sf, sd)) hM oc) hO ht) (fun I3 J3 hm om => ?_)
  refine wp_icmp_eq (pc := 214) (tgt := 1063) d_0_214 (by decide) (fun _ => ?_) (fun h => absurd rfl h)
  exact hk _ I3 J3 (ok_write hO) (CR.fr hc om) hm
set_option maxRecDepth 4000 in
theorem lw_c1 {L i t : Nat} {xs : Nat → Int32} {Po : RT → Prop} {I : IT} {J : JT} {F : FT} {tx : Nat → Nat} {tl : Nat} {ρ : SN} {n : Nat} {σ : SN} {rg : Nat → SN} {nx na : Nat} {γ : SN} {gn : Nat} {sl : Nat → SN} {sf : Nat → Bool} {sd : Int64} (hF : Fok F) (hL : L ≤ 3072) (hi : i + 6 ≤ L) (hC : CR I J tx tl ρ n σ rg nx na γ gn sl sf sd) (hM : MR I J tx tl ρ n σ rg nx na γ gn sl sf sd) (hO : OKS t tx tl ρ n σ rg nx na γ gn sl sf) (ht : t + 100 ≤ 1000) (hk : ∀ (s2 : SS) (I2 : IT) (J2 : JT), OKt (t + 1) s2 → CRt I2 J2 s2 → MRt I2 J2 s2 → Wp (some (L, xs)) 0 Po 1063 [some (vR 0), some (vR 1), some (vR 173), some (vI (nI i))] [] KK I2 J2 F) : Wp (some (L, xs)) 0 Po 219 [some (vR 0), some (vR 1), some (vR 173), some (vI (nI i))] [] KK I J F := by
  refine wp_aload_n (pc := 219) (i := 1) d_0_219 rfl rfl ?_
  refine wl_c0 (pc := 220) d_0_220 lk_0_20 (by decide) rfl (Nat.le_of_ble_eq_true rfl) (a := 1) rfl rfl (c_gwipe hF hC hO ht) (fun I2 J2 hc oc => ?_)
  refine wp_aload_n (pc := 223) (i := 2) d_0_223 rfl rfl ?_
  refine wl_m0 (pc := 224) d_0_224 lk_0_24 (by decide) rfl (Nat.le_of_ble_eq_true rfl) (a := 173) rfl rfl (m_gwipe hF (MR.fr (s0 := (tx, tl, ρ, n, σ, rg, nx, na, γ, gn, sl, sf, sd)) hM oc) hO ht) (fun I3 J3 hm om => ?_)
  refine wp_icmp_eq (pc := 227) (tgt := 1063) d_0_227 (by decide) (fun _ => ?_) (fun h => absurd rfl h)
  exact hk _ I3 J3 (ok_wipe hO) (CR.fr hc om) hm
set_option maxRecDepth 4000 in
theorem lw_c2 {L i t : Nat} {xs : Nat → Int32} {Po : RT → Prop} {I : IT} {J : JT} {F : FT} {tx : Nat → Nat} {tl : Nat} {ρ : SN} {n : Nat} {σ : SN} {rg : Nat → SN} {nx na : Nat} {γ : SN} {gn : Nat} {sl : Nat → SN} {sf : Nat → Bool} {sd : Int64} (hF : Fok F) (hL : L ≤ 3072) (hi : i + 6 ≤ L) (hC : CR I J tx tl ρ n σ rg nx na γ gn sl sf sd) (hM : MR I J tx tl ρ n σ rg nx na γ gn sl sf sd) (hO : OKS t tx tl ρ n σ rg nx na γ gn sl sf) (ht : t + 100 ≤ 1000) (hk : ∀ (s2 : SS) (I2 : IT) (J2 : JT), OKt (t + 1) s2 → CRt I2 J2 s2 → MRt I2 J2 s2 → Wp (some (L, xs)) 0 Po 1063 [some (vR 0), some (vR 1), some (vR 173), some (vI (nI i))] [] KK I2 J2 F) : Wp (some (L, xs)) 0 Po 232 [some (vR 0), some (vR 1), some (vR 173), some (vI (nI i))] [] KK I J F := by
  refine wp_aload_n (pc := 232) (i := 1) d_0_232 rfl rfl ?_
  refine wl_c0 (pc := 233) d_0_233 lk_0_25 (by decide) rfl (Nat.le_of_ble_eq_true rfl) (a := 1) rfl rfl (c_gfault hF hC hO ht) (fun I2 J2 hc oc => ?_)
  refine wp_aload_n (pc := 236) (i := 2) d_0_236 rfl rfl ?_
  refine wl_m0 (pc := 237) d_0_237 lk_0_28 (by decide) rfl (Nat.le_of_ble_eq_true rfl) (a := 173) rfl rfl (m_gfault hF (MR.fr (s0 := (tx, tl, ρ, n, σ, rg, nx, na, γ, gn, sl, sf, sd)) hM oc) hO ht) (fun I3 J3 hm om => ?_)
  refine wp_icmp_eq (pc := 240) (tgt := 1063) d_0_240 (by decide) (fun _ => ?_) (fun h => absurd rfl h)
  exact hk _ I3 J3 (OKS.mono hO (Nat.le_succ t)) (CR.fr hc om) hm
set_option maxRecDepth 4000 in
theorem lw_c3 {L i t : Nat} {xs : Nat → Int32} {Po : RT → Prop} {I : IT} {J : JT} {F : FT} {tx : Nat → Nat} {tl : Nat} {ρ : SN} {n : Nat} {σ : SN} {rg : Nat → SN} {nx na : Nat} {γ : SN} {gn : Nat} {sl : Nat → SN} {sf : Nat → Bool} {sd : Int64} (hF : Fok F) (hL : L ≤ 3072) (hi : i + 6 ≤ L) (hC : CR I J tx tl ρ n σ rg nx na γ gn sl sf sd) (hM : MR I J tx tl ρ n σ rg nx na γ gn sl sf sd) (hO : OKS t tx tl ρ n σ rg nx na γ gn sl sf) (ht : t + 100 ≤ 1000) (hk : ∀ (s2 : SS) (I2 : IT) (J2 : JT), OKt (t + 1) s2 → CRt I2 J2 s2 → MRt I2 J2 s2 → Wp (some (L, xs)) 0 Po 1063 [some (vR 0), some (vR 1), some (vR 173), some (vI (nI i))] [] KK I2 J2 F) : Wp (some (L, xs)) 0 Po 245 [some (vR 0), some (vR 1), some (vR 173), some (vI (nI i))] [] KK I J F := by
  refine wp_aload_n (pc := 245) (i := 1) d_0_245 rfl rfl ?_
  refine wl_c0 (pc := 246) d_0_246 lk_0_29 (by decide) rfl (Nat.le_of_ble_eq_true rfl) (a := 1) rfl rfl (c_gstreet hF hC hO ht) (fun I2 J2 hc oc => ?_)
  refine wp_aload_n (pc := 249) (i := 2) d_0_249 rfl rfl ?_
  refine wl_m0 (pc := 250) d_0_250 lk_0_32 (by decide) rfl (Nat.le_of_ble_eq_true rfl) (a := 173) rfl rfl (m_gstreet hF (MR.fr (s0 := (tx, tl, ρ, n, σ, rg, nx, na, γ, gn, sl, sf, sd)) hM oc) hO ht) (fun I3 J3 hm om => ?_)
  refine wp_icmp_eq (pc := 253) (tgt := 1063) d_0_253 (by decide) (fun _ => ?_) (fun h => absurd rfl h)
  exact hk _ I3 J3 (ok_street hO) (CR.fr hc om) hm
set_option maxRecDepth 4000 in
theorem lw_c4 {L i t : Nat} {xs : Nat → Int32} {Po : RT → Prop} {I : IT} {J : JT} {F : FT} {tx : Nat → Nat} {tl : Nat} {ρ : SN} {n : Nat} {σ : SN} {rg : Nat → SN} {nx na : Nat} {γ : SN} {gn : Nat} {sl : Nat → SN} {sf : Nat → Bool} {sd : Int64} (hF : Fok F) (hL : L ≤ 3072) (hi : i + 6 ≤ L) (hC : CR I J tx tl ρ n σ rg nx na γ gn sl sf sd) (hM : MR I J tx tl ρ n σ rg nx na γ gn sl sf sd) (hO : OKS t tx tl ρ n σ rg nx na γ gn sl sf) (ht : t + 100 ≤ 1000) (hk : ∀ (s2 : SS) (I2 : IT) (J2 : JT), OKt (t + 1) s2 → CRt I2 J2 s2 → MRt I2 J2 s2 → Wp (some (L, xs)) 0 Po 1063 [some (vR 0), some (vR 1), some (vR 173), some (vI (nI i))] [] KK I2 J2 F) : Wp (some (L, xs)) 0 Po 258 [some (vR 0), some (vR 1), some (vR 173), some (vI (nI i))] [] KK I J F := by
  refine wp_aload_n (pc := 258) (i := 1) d_0_258 rfl rfl ?_
  refine wp_aload_n (pc := 259) (i := 0) d_0_259 rfl rfl ?_
  refine wp_iload_n (pc := 260) (i := 3) d_0_260 rfl rfl ?_
  refine wp_icN (pc := 261) (m := 1) d_0_261 (by decide) ?_
  refine wp_iaddN (pc := 262) d_0_262 ?_
  refine wp_sld (pc := 263) d_0_263 rfl (vp_in_nI (show i + 1 < L by omega) (by omega)) ?_
  refine wp_aload_n (pc := 264) (i := 0) d_0_264 rfl rfl ?_
  refine wp_iload_n (pc := 265) (i := 3) d_0_265 rfl rfl ?_
  refine wp_icN (pc := 266) (m := 2) d_0_266 (by decide) ?_
  refine wp_iaddN (pc := 267) d_0_267 ?_
  refine wp_sld (pc := 268) d_0_268 rfl (vp_in_nI (show i + 2 < L by omega) (by omega)) ?_
  refine wl_c2 (pc := 269) d_0_269 lk_0_33 (by decide) rfl (Nat.le_of_ble_eq_true rfl) (a := 1) rfl rfl (c_groof hF hC hO ht) (fun I2 J2 hc oc => ?_)
  refine wp_aload_n (pc := 272) (i := 2) d_0_272 rfl rfl ?_
  refine wp_aload_n (pc := 273) (i := 0) d_0_273 rfl rfl ?_
  refine wp_iload_n (pc := 274) (i := 3) d_0_274 rfl rfl ?_
  refine wp_icN (pc := 275) (m := 1) d_0_275 (by decide) ?_
  refine wp_iaddN (pc := 276) d_0_276 ?_
  refine wp_sld (pc := 277) d_0_277 rfl (vp_in_nI (show i + 1 < L by omega) (by omega)) ?_
  refine wp_aload_n (pc := 278) (i := 0) d_0_278 rfl rfl ?_
  refine wp_iload_n (pc := 279) (i := 3) d_0_279 rfl rfl ?_
  refine wp_icN (pc := 280) (m := 2) d_0_280 (by decide) ?_
  refine wp_iaddN (pc := 281) d_0_281 ?_
  refine wp_sld (pc := 282) d_0_282 rfl (vp_in_nI (show i + 2 < L by omega) (by omega)) ?_
  refine wl_m2 (pc := 283) d_0_283 lk_0_37 (by decide) rfl (Nat.le_of_ble_eq_true rfl) (a := 173) rfl rfl (m_groof hF (MR.fr (s0 := (tx, tl, ρ, n, σ, rg, nx, na, γ, gn, sl, sf, sd)) hM oc) hO ht) (fun I3 J3 hm om => ?_)
  refine wp_icmp_eq (pc := 286) (tgt := 1063) d_0_286 (by decide) (fun _ => ?_) (fun h => absurd rfl h)
  exact hk _ I3 J3 (OKS.mono hO (Nat.le_succ t)) (CR.fr hc om) hm
set_option maxRecDepth 4000 in
theorem lw_c5 {L i t : Nat} {xs : Nat → Int32} {Po : RT → Prop} {I : IT} {J : JT} {F : FT} {tx : Nat → Nat} {tl : Nat} {ρ : SN} {n : Nat} {σ : SN} {rg : Nat → SN} {nx na : Nat} {γ : SN} {gn : Nat} {sl : Nat → SN} {sf : Nat → Bool} {sd : Int64} (hF : Fok F) (hL : L ≤ 3072) (hi : i + 6 ≤ L) (hC : CR I J tx tl ρ n σ rg nx na γ gn sl sf sd) (hM : MR I J tx tl ρ n σ rg nx na γ gn sl sf sd) (hO : OKS t tx tl ρ n σ rg nx na γ gn sl sf) (ht : t + 100 ≤ 1000) (hk : ∀ (s2 : SS) (I2 : IT) (J2 : JT), OKt (t + 1) s2 → CRt I2 J2 s2 → MRt I2 J2 s2 → Wp (some (L, xs)) 0 Po 1063 [some (vR 0), some (vR 1), some (vR 173), some (vI (nI i))] [] KK I2 J2 F) : Wp (some (L, xs)) 0 Po 291 [some (vR 0), some (vR 1), some (vR 173), some (vI (nI i))] [] KK I J F := by
  refine wp_aload_n (pc := 291) (i := 1) d_0_291 rfl rfl ?_
  refine wp_aload_n (pc := 292) (i := 0) d_0_292 rfl rfl ?_
  refine wp_iload_n (pc := 293) (i := 3) d_0_293 rfl rfl ?_
  refine wp_icN (pc := 294) (m := 1) d_0_294 (by decide) ?_
  refine wp_iaddN (pc := 295) d_0_295 ?_
  refine wp_sld (pc := 296) d_0_296 rfl (vp_in_nI (show i + 1 < L by omega) (by omega)) ?_
  refine wp_aload_n (pc := 297) (i := 0) d_0_297 rfl rfl ?_
  refine wp_iload_n (pc := 298) (i := 3) d_0_298 rfl rfl ?_
  refine wp_icN (pc := 299) (m := 2) d_0_299 (by decide) ?_
  refine wp_iaddN (pc := 300) d_0_300 ?_
  refine wp_sld (pc := 301) d_0_301 rfl (vp_in_nI (show i + 2 < L by omega) (by omega)) ?_
  refine wp_if_eq (pc := 302) (tgt := 309) d_0_302 (by decide) (fun zb302 => ?_) (fun zb302 => ?_)
  · refine wp_icN (pc := 309) (m := 0) d_0_309 (by decide) ?_
    refine wl_c2 (pc := 310) d_0_310 lk_0_38 (by decide) rfl (Nat.le_of_ble_eq_true rfl) (a := 1) rfl rfl (c_gdam (p := false) hF hC hO ht) (fun I2 J2 hc oc => ?_)
    refine wp_aload_n (pc := 313) (i := 2) d_0_313 rfl rfl ?_
    refine wp_aload_n (pc := 314) (i := 0) d_0_314 rfl rfl ?_
    refine wp_iload_n (pc := 315) (i := 3) d_0_315 rfl rfl ?_
    refine wp_icN (pc := 316) (m := 1) d_0_316 (by decide) ?_
    refine wp_iaddN (pc := 317) d_0_317 ?_
    refine wp_sld (pc := 318) d_0_318 rfl (vp_in_nI (show i + 1 < L by omega) (by omega)) ?_
    refine wp_aload_n (pc := 319) (i := 0) d_0_319 rfl rfl ?_
    refine wp_iload_n (pc := 320) (i := 3) d_0_320 rfl rfl ?_
    refine wp_icN (pc := 321) (m := 2) d_0_321 (by decide) ?_
    refine wp_iaddN (pc := 322) d_0_322 ?_
    refine wp_sld (pc := 323) d_0_323 rfl (vp_in_nI (show i + 2 < L by omega) (by omega)) ?_
    refine wp_if_eq (pc := 324) (tgt := 331) d_0_324 (by decide) (fun zb324 => ?_) (fun zb324 => ?_)
    · refine wp_icN (pc := 331) (m := 0) d_0_331 (by decide) ?_
      refine wl_m2 (pc := 332) d_0_332 lk_0_42 (by decide) rfl (Nat.le_of_ble_eq_true rfl) (a := 173) rfl rfl (m_gdam (p := false) hF (MR.fr (s0 := (tx, tl, ρ, n, σ, rg, nx, na, γ, gn, sl, sf, sd)) hM oc) hO ht) (fun I3 J3 hm om => ?_)
      refine wp_icmp_eq (pc := 335) (tgt := 1063) d_0_335 (by decide) (fun _ => ?_) (fun h => absurd rfl h)
      exact hk _ I3 J3 (ok_dam hO) (CR.fr hc om) hm
    · exact absurd zb302 zb324
  · refine wp_icN (pc := 305) (m := 1) d_0_305 (by decide) ?_
    refine wp_goto (pc := 306) (tgt := 310) d_0_306 (by decide) ?_
    refine wl_c2 (pc := 310) d_0_310 lk_0_38 (by decide) rfl (Nat.le_of_ble_eq_true rfl) (a := 1) rfl rfl (c_gdam (p := true) hF hC hO ht) (fun I2 J2 hc oc => ?_)
    refine wp_aload_n (pc := 313) (i := 2) d_0_313 rfl rfl ?_
    refine wp_aload_n (pc := 314) (i := 0) d_0_314 rfl rfl ?_
    refine wp_iload_n (pc := 315) (i := 3) d_0_315 rfl rfl ?_
    refine wp_icN (pc := 316) (m := 1) d_0_316 (by decide) ?_
    refine wp_iaddN (pc := 317) d_0_317 ?_
    refine wp_sld (pc := 318) d_0_318 rfl (vp_in_nI (show i + 1 < L by omega) (by omega)) ?_
    refine wp_aload_n (pc := 319) (i := 0) d_0_319 rfl rfl ?_
    refine wp_iload_n (pc := 320) (i := 3) d_0_320 rfl rfl ?_
    refine wp_icN (pc := 321) (m := 2) d_0_321 (by decide) ?_
    refine wp_iaddN (pc := 322) d_0_322 ?_
    refine wp_sld (pc := 323) d_0_323 rfl (vp_in_nI (show i + 2 < L by omega) (by omega)) ?_
    refine wp_if_eq (pc := 324) (tgt := 331) d_0_324 (by decide) (fun zb324 => ?_) (fun zb324 => ?_)
    · exact absurd zb324 zb302
    · refine wp_icN (pc := 327) (m := 1) d_0_327 (by decide) ?_
      refine wp_goto (pc := 328) (tgt := 332) d_0_328 (by decide) ?_
      refine wl_m2 (pc := 332) d_0_332 lk_0_42 (by decide) rfl (Nat.le_of_ble_eq_true rfl) (a := 173) rfl rfl (m_gdam (p := true) hF (MR.fr (s0 := (tx, tl, ρ, n, σ, rg, nx, na, γ, gn, sl, sf, sd)) hM oc) hO ht) (fun I3 J3 hm om => ?_)
      refine wp_icmp_eq (pc := 335) (tgt := 1063) d_0_335 (by decide) (fun _ => ?_) (fun h => absurd rfl h)
      exact hk _ I3 J3 (ok_dam hO) (CR.fr hc om) hm
set_option maxRecDepth 4000 in
theorem lw_c6 {L i t : Nat} {xs : Nat → Int32} {Po : RT → Prop} {I : IT} {J : JT} {F : FT} {tx : Nat → Nat} {tl : Nat} {ρ : SN} {n : Nat} {σ : SN} {rg : Nat → SN} {nx na : Nat} {γ : SN} {gn : Nat} {sl : Nat → SN} {sf : Nat → Bool} {sd : Int64} (hF : Fok F) (hL : L ≤ 3072) (hi : i + 6 ≤ L) (hC : CR I J tx tl ρ n σ rg nx na γ gn sl sf sd) (hM : MR I J tx tl ρ n σ rg nx na γ gn sl sf sd) (hO : OKS t tx tl ρ n σ rg nx na γ gn sl sf) (ht : t + 100 ≤ 1000) (hk : ∀ (s2 : SS) (I2 : IT) (J2 : JT), OKt (t + 1) s2 → CRt I2 J2 s2 → MRt I2 J2 s2 → Wp (some (L, xs)) 0 Po 1063 [some (vR 0), some (vR 1), some (vR 173), some (vI (nI i))] [] KK I2 J2 F) : Wp (some (L, xs)) 0 Po 340 [some (vR 0), some (vR 1), some (vR 173), some (vI (nI i))] [] KK I J F := by
  refine wp_aload_n (pc := 340) (i := 1) d_0_340 rfl rfl ?_
  refine wp_aload_n (pc := 341) (i := 0) d_0_341 rfl rfl ?_
  refine wp_iload_n (pc := 342) (i := 3) d_0_342 rfl rfl ?_
  refine wp_icN (pc := 343) (m := 1) d_0_343 (by decide) ?_
  refine wp_iaddN (pc := 344) d_0_344 ?_
  refine wp_sld (pc := 345) d_0_345 rfl (vp_in_nI (show i + 1 < L by omega) (by omega)) ?_
  refine wl_c1 (pc := 346) d_0_346 lk_0_43 (by decide) rfl (Nat.le_of_ble_eq_true rfl) (a := 1) rfl rfl (c_gquarter hF hC hO ht) (fun I2 J2 hc oc => ?_)
  refine wp_aload_n (pc := 349) (i := 2) d_0_349 rfl rfl ?_
  refine wp_aload_n (pc := 350) (i := 0) d_0_350 rfl rfl ?_
  refine wp_iload_n (pc := 351) (i := 3) d_0_351 rfl rfl ?_
  refine wp_icN (pc := 352) (m := 1) d_0_352 (by decide) ?_
  refine wp_iaddN (pc := 353) d_0_353 ?_
  refine wp_sld (pc := 354) d_0_354 rfl (vp_in_nI (show i + 1 < L by omega) (by omega)) ?_
  refine wl_m1 (pc := 355) d_0_355 lk_0_47 (by decide) rfl (Nat.le_of_ble_eq_true rfl) (a := 173) rfl rfl (m_gquarter hF (MR.fr (s0 := (tx, tl, ρ, n, σ, rg, nx, na, γ, gn, sl, sf, sd)) hM oc) hO ht) (fun I3 J3 hm om => ?_)
  refine wp_icmp_eq (pc := 358) (tgt := 1063) d_0_358 (by decide) (fun _ => ?_) (fun h => absurd rfl h)
  exact hk _ I3 J3 (ok_quarter hO) (CR.fr hc om) hm
set_option maxRecDepth 4000 in
theorem lw_c7 {L i t : Nat} {xs : Nat → Int32} {Po : RT → Prop} {I : IT} {J : JT} {F : FT} {tx : Nat → Nat} {tl : Nat} {ρ : SN} {n : Nat} {σ : SN} {rg : Nat → SN} {nx na : Nat} {γ : SN} {gn : Nat} {sl : Nat → SN} {sf : Nat → Bool} {sd : Int64} (hF : Fok F) (hL : L ≤ 3072) (hi : i + 6 ≤ L) (hC : CR I J tx tl ρ n σ rg nx na γ gn sl sf sd) (hM : MR I J tx tl ρ n σ rg nx na γ gn sl sf sd) (hO : OKS t tx tl ρ n σ rg nx na γ gn sl sf) (ht : t + 100 ≤ 1000) (hk : ∀ (s2 : SS) (I2 : IT) (J2 : JT), OKt (t + 1) s2 → CRt I2 J2 s2 → MRt I2 J2 s2 → Wp (some (L, xs)) 0 Po 1063 [some (vR 0), some (vR 1), some (vR 173), some (vI (nI i))] [] KK I2 J2 F) : Wp (some (L, xs)) 0 Po 363 [some (vR 0), some (vR 1), some (vR 173), some (vI (nI i))] [] KK I J F := by
  refine wp_aload_n (pc := 363) (i := 1) d_0_363 rfl rfl ?_
  refine wp_aload_n (pc := 364) (i := 0) d_0_364 rfl rfl ?_
  refine wp_iload_n (pc := 365) (i := 3) d_0_365 rfl rfl ?_
  refine wp_icN (pc := 366) (m := 1) d_0_366 (by decide) ?_
  refine wp_iaddN (pc := 367) d_0_367 ?_
  refine wp_sld (pc := 368) d_0_368 rfl (vp_in_nI (show i + 1 < L by omega) (by omega)) ?_
  refine wp_aload_n (pc := 369) (i := 0) d_0_369 rfl rfl ?_
  refine wp_iload_n (pc := 370) (i := 3) d_0_370 rfl rfl ?_
  refine wp_icN (pc := 371) (m := 2) d_0_371 (by decide) ?_
  refine wp_iaddN (pc := 372) d_0_372 ?_
  refine wp_sld (pc := 373) d_0_373 rfl (vp_in_nI (show i + 2 < L by omega) (by omega)) ?_
  refine wl_c2 (pc := 374) d_0_374 lk_0_48 (by decide) rfl (Nat.le_of_ble_eq_true rfl) (a := 1) rfl rfl (c_gpail hF hC hO ht) (fun I2 J2 hc oc => ?_)
  refine wp_aload_n (pc := 377) (i := 2) d_0_377 rfl rfl ?_
  refine wp_aload_n (pc := 378) (i := 0) d_0_378 rfl rfl ?_
  refine wp_iload_n (pc := 379) (i := 3) d_0_379 rfl rfl ?_
  refine wp_icN (pc := 380) (m := 1) d_0_380 (by decide) ?_
  refine wp_iaddN (pc := 381) d_0_381 ?_
  refine wp_sld (pc := 382) d_0_382 rfl (vp_in_nI (show i + 1 < L by omega) (by omega)) ?_
  refine wp_aload_n (pc := 383) (i := 0) d_0_383 rfl rfl ?_
  refine wp_iload_n (pc := 384) (i := 3) d_0_384 rfl rfl ?_
  refine wp_icN (pc := 385) (m := 2) d_0_385 (by decide) ?_
  refine wp_iaddN (pc := 386) d_0_386 ?_
  refine wp_sld (pc := 387) d_0_387 rfl (vp_in_nI (show i + 2 < L by omega) (by omega)) ?_
  refine wl_m2 (pc := 388) d_0_388 lk_0_51 (by decide) rfl (Nat.le_of_ble_eq_true rfl) (a := 173) rfl rfl (m_gpail hF (MR.fr (s0 := (tx, tl, ρ, n, σ, rg, nx, na, γ, gn, sl, sf, sd)) hM oc) hO ht) (fun I3 J3 hm om => ?_)
  refine wp_icmp_eq (pc := 391) (tgt := 1063) d_0_391 (by decide) (fun _ => ?_) (fun h => absurd rfl h)
  exact hk _ I3 J3 (ok_pail hO) (CR.fr hc om) hm
set_option maxRecDepth 4000 in
theorem lw_c8 {L i t : Nat} {xs : Nat → Int32} {Po : RT → Prop} {I : IT} {J : JT} {F : FT} {tx : Nat → Nat} {tl : Nat} {ρ : SN} {n : Nat} {σ : SN} {rg : Nat → SN} {nx na : Nat} {γ : SN} {gn : Nat} {sl : Nat → SN} {sf : Nat → Bool} {sd : Int64} (hF : Fok F) (hL : L ≤ 3072) (hi : i + 6 ≤ L) (hC : CR I J tx tl ρ n σ rg nx na γ gn sl sf sd) (hM : MR I J tx tl ρ n σ rg nx na γ gn sl sf sd) (hO : OKS t tx tl ρ n σ rg nx na γ gn sl sf) (ht : t + 100 ≤ 1000) (hk : ∀ (s2 : SS) (I2 : IT) (J2 : JT), OKt (t + 1) s2 → CRt I2 J2 s2 → MRt I2 J2 s2 → Wp (some (L, xs)) 0 Po 1063 [some (vR 0), some (vR 1), some (vR 173), some (vI (nI i))] [] KK I2 J2 F) : Wp (some (L, xs)) 0 Po 396 [some (vR 0), some (vR 1), some (vR 173), some (vI (nI i))] [] KK I J F := by
  refine wp_aload_n (pc := 396) (i := 1) d_0_396 rfl rfl ?_
  refine wp_aload_n (pc := 397) (i := 0) d_0_397 rfl rfl ?_
  refine wp_iload_n (pc := 398) (i := 3) d_0_398 rfl rfl ?_
  refine wp_icN (pc := 399) (m := 1) d_0_399 (by decide) ?_
  refine wp_iaddN (pc := 400) d_0_400 ?_
  refine wp_sld (pc := 401) d_0_401 rfl (vp_in_nI (show i + 1 < L by omega) (by omega)) ?_
  refine wp_aload_n (pc := 402) (i := 0) d_0_402 rfl rfl ?_
  refine wp_iload_n (pc := 403) (i := 3) d_0_403 rfl rfl ?_
  refine wp_icN (pc := 404) (m := 2) d_0_404 (by decide) ?_
  refine wp_iaddN (pc := 405) d_0_405 ?_
  refine wp_sld (pc := 406) d_0_406 rfl (vp_in_nI (show i + 2 < L by omega) (by omega)) ?_
  refine wl_c2 (pc := 407) d_0_407 lk_0_52 (by decide) rfl (Nat.le_of_ble_eq_true rfl) (a := 1) rfl rfl (c_gsoap hF hC hO ht) (fun I2 J2 hc oc => ?_)
  refine wp_aload_n (pc := 410) (i := 2) d_0_410 rfl rfl ?_
  refine wp_aload_n (pc := 411) (i := 0) d_0_411 rfl rfl ?_
  refine wp_iload_n (pc := 412) (i := 3) d_0_412 rfl rfl ?_
  refine wp_icN (pc := 413) (m := 1) d_0_413 (by decide) ?_
  refine wp_iaddN (pc := 414) d_0_414 ?_
  refine wp_sld (pc := 415) d_0_415 rfl (vp_in_nI (show i + 1 < L by omega) (by omega)) ?_
  refine wp_aload_n (pc := 416) (i := 0) d_0_416 rfl rfl ?_
  refine wp_iload_n (pc := 417) (i := 3) d_0_417 rfl rfl ?_
  refine wp_icN (pc := 418) (m := 2) d_0_418 (by decide) ?_
  refine wp_iaddN (pc := 419) d_0_419 ?_
  refine wp_sld (pc := 420) d_0_420 rfl (vp_in_nI (show i + 2 < L by omega) (by omega)) ?_
  refine wl_m2 (pc := 421) d_0_421 lk_0_55 (by decide) rfl (Nat.le_of_ble_eq_true rfl) (a := 173) rfl rfl (m_gsoap hF (MR.fr (s0 := (tx, tl, ρ, n, σ, rg, nx, na, γ, gn, sl, sf, sd)) hM oc) hO ht) (fun I3 J3 hm om => ?_)
  refine wp_icmp_eq (pc := 424) (tgt := 1063) d_0_424 (by decide) (fun _ => ?_) (fun h => absurd rfl h)
  exact hk _ I3 J3 (ok_soap hO) (CR.fr hc om) hm
set_option maxRecDepth 4000 in
theorem lw_c9 {L i t : Nat} {xs : Nat → Int32} {Po : RT → Prop} {I : IT} {J : JT} {F : FT} {tx : Nat → Nat} {tl : Nat} {ρ : SN} {n : Nat} {σ : SN} {rg : Nat → SN} {nx na : Nat} {γ : SN} {gn : Nat} {sl : Nat → SN} {sf : Nat → Bool} {sd : Int64} (hF : Fok F) (hL : L ≤ 3072) (hi : i + 6 ≤ L) (hC : CR I J tx tl ρ n σ rg nx na γ gn sl sf sd) (hM : MR I J tx tl ρ n σ rg nx na γ gn sl sf sd) (hO : OKS t tx tl ρ n σ rg nx na γ gn sl sf) (ht : t + 100 ≤ 1000) (hk : ∀ (s2 : SS) (I2 : IT) (J2 : JT), OKt (t + 1) s2 → CRt I2 J2 s2 → MRt I2 J2 s2 → Wp (some (L, xs)) 0 Po 1063 [some (vR 0), some (vR 1), some (vR 173), some (vI (nI i))] [] KK I2 J2 F) : Wp (some (L, xs)) 0 Po 429 [some (vR 0), some (vR 1), some (vR 173), some (vI (nI i))] [] KK I J F := by
  refine wp_aload_n (pc := 429) (i := 1) d_0_429 rfl rfl ?_
  refine wl_c0 (pc := 430) d_0_430 lk_0_56 (by decide) rfl (Nat.le_of_ble_eq_true rfl) (a := 1) rfl rfl (c_gundo hF hC hO ht) (fun I2 J2 hc oc => ?_)
  refine wp_aload_n (pc := 433) (i := 2) d_0_433 rfl rfl ?_
  refine wl_m0 (pc := 434) d_0_434 lk_0_59 (by decide) rfl (Nat.le_of_ble_eq_true rfl) (a := 173) rfl rfl (m_gundo hF (MR.fr (s0 := (tx, tl, ρ, n, σ, rg, nx, na, γ, gn, sl, sf, sd)) hM oc) hO ht) (fun I3 J3 hm om => ?_)
  refine wp_icmp_eq (pc := 437) (tgt := 1063) d_0_437 (by decide) (fun _ => ?_) (fun h => absurd rfl h)
  exact hk _ I3 J3 (ok_undo hO) (CR.fr hc om) hm
set_option maxRecDepth 4000 in
theorem lw_c10 {L i t : Nat} {xs : Nat → Int32} {Po : RT → Prop} {I : IT} {J : JT} {F : FT} {tx : Nat → Nat} {tl : Nat} {ρ : SN} {n : Nat} {σ : SN} {rg : Nat → SN} {nx na : Nat} {γ : SN} {gn : Nat} {sl : Nat → SN} {sf : Nat → Bool} {sd : Int64} (hF : Fok F) (hL : L ≤ 3072) (hi : i + 6 ≤ L) (hC : CR I J tx tl ρ n σ rg nx na γ gn sl sf sd) (hM : MR I J tx tl ρ n σ rg nx na γ gn sl sf sd) (hO : OKS t tx tl ρ n σ rg nx na γ gn sl sf) (ht : t + 100 ≤ 1000) (hk : ∀ (s2 : SS) (I2 : IT) (J2 : JT), OKt (t + 1) s2 → CRt I2 J2 s2 → MRt I2 J2 s2 → Wp (some (L, xs)) 0 Po 1063 [some (vR 0), some (vR 1), some (vR 173), some (vI (nI i))] [] KK I2 J2 F) : Wp (some (L, xs)) 0 Po 442 [some (vR 0), some (vR 1), some (vR 173), some (vI (nI i))] [] KK I J F := by
  refine wp_aload_n (pc := 442) (i := 1) d_0_442 rfl rfl ?_
  refine wp_aload_n (pc := 443) (i := 0) d_0_443 rfl rfl ?_
  refine wp_iload_n (pc := 444) (i := 3) d_0_444 rfl rfl ?_
  refine wp_icN (pc := 445) (m := 1) d_0_445 (by decide) ?_
  refine wp_iaddN (pc := 446) d_0_446 ?_
  refine wp_sld (pc := 447) d_0_447 rfl (vp_in_nI (show i + 1 < L by omega) (by omega)) ?_
  refine wp_aload_n (pc := 448) (i := 0) d_0_448 rfl rfl ?_
  refine wp_iload_n (pc := 449) (i := 3) d_0_449 rfl rfl ?_
  refine wp_icN (pc := 450) (m := 2) d_0_450 (by decide) ?_
  refine wp_iaddN (pc := 451) d_0_451 ?_
  refine wp_sld (pc := 452) d_0_452 rfl (vp_in_nI (show i + 2 < L by omega) (by omega)) ?_
  refine wp_aload_n (pc := 453) (i := 0) d_0_453 rfl rfl ?_
  refine wp_iload_n (pc := 454) (i := 3) d_0_454 rfl rfl ?_
  refine wp_icN (pc := 455) (m := 3) d_0_455 (by decide) ?_
  refine wp_iaddN (pc := 456) d_0_456 ?_
  refine wp_sld (pc := 457) d_0_457 rfl (vp_in_nI (show i + 3 < L by omega) (by omega)) ?_
  refine wl_c3 (pc := 458) d_0_458 lk_0_60 (by decide) rfl (Nat.le_of_ble_eq_true rfl) (a := 1) rfl rfl (c_ggot hF hC hO ht) (fun I2 J2 hc oc => ?_)
  refine wp_aload_n (pc := 461) (i := 2) d_0_461 rfl rfl ?_
  refine wp_aload_n (pc := 462) (i := 0) d_0_462 rfl rfl ?_
  refine wp_iload_n (pc := 463) (i := 3) d_0_463 rfl rfl ?_
  refine wp_icN (pc := 464) (m := 1) d_0_464 (by decide) ?_
  refine wp_iaddN (pc := 465) d_0_465 ?_
  refine wp_sld (pc := 466) d_0_466 rfl (vp_in_nI (show i + 1 < L by omega) (by omega)) ?_
  refine wp_aload_n (pc := 467) (i := 0) d_0_467 rfl rfl ?_
  refine wp_iload_n (pc := 468) (i := 3) d_0_468 rfl rfl ?_
  refine wp_icN (pc := 469) (m := 2) d_0_469 (by decide) ?_
  refine wp_iaddN (pc := 470) d_0_470 ?_
  refine wp_sld (pc := 471) d_0_471 rfl (vp_in_nI (show i + 2 < L by omega) (by omega)) ?_
  refine wp_aload_n (pc := 472) (i := 0) d_0_472 rfl rfl ?_
  refine wp_iload_n (pc := 473) (i := 3) d_0_473 rfl rfl ?_
  refine wp_icN (pc := 474) (m := 3) d_0_474 (by decide) ?_
  refine wp_iaddN (pc := 475) d_0_475 ?_
  refine wp_sld (pc := 476) d_0_476 rfl (vp_in_nI (show i + 3 < L by omega) (by omega)) ?_
  refine wl_m3 (pc := 477) d_0_477 lk_0_64 (by decide) rfl (Nat.le_of_ble_eq_true rfl) (a := 173) rfl rfl (m_ggot hF (MR.fr (s0 := (tx, tl, ρ, n, σ, rg, nx, na, γ, gn, sl, sf, sd)) hM oc) hO ht) (fun I3 J3 hm om => ?_)
  refine wp_icmp_eq (pc := 480) (tgt := 1063) d_0_480 (by decide) (fun _ => ?_) (fun h => absurd rfl h)
  exact hk _ I3 J3 (OKS.mono hO (Nat.le_succ t)) (CR.fr hc om) hm
set_option maxRecDepth 4000 in
theorem lw_c11 {L i t : Nat} {xs : Nat → Int32} {Po : RT → Prop} {I : IT} {J : JT} {F : FT} {tx : Nat → Nat} {tl : Nat} {ρ : SN} {n : Nat} {σ : SN} {rg : Nat → SN} {nx na : Nat} {γ : SN} {gn : Nat} {sl : Nat → SN} {sf : Nat → Bool} {sd : Int64} (hF : Fok F) (hL : L ≤ 3072) (hi : i + 6 ≤ L) (hC : CR I J tx tl ρ n σ rg nx na γ gn sl sf sd) (hM : MR I J tx tl ρ n σ rg nx na γ gn sl sf sd) (hO : OKS t tx tl ρ n σ rg nx na γ gn sl sf) (ht : t + 100 ≤ 1000) (hk : ∀ (s2 : SS) (I2 : IT) (J2 : JT), OKt (t + 1) s2 → CRt I2 J2 s2 → MRt I2 J2 s2 → Wp (some (L, xs)) 0 Po 1063 [some (vR 0), some (vR 1), some (vR 173), some (vI (nI i))] [] KK I2 J2 F) : Wp (some (L, xs)) 0 Po 485 [some (vR 0), some (vR 1), some (vR 173), some (vI (nI i))] [] KK I J F := by
  refine wp_aload_n (pc := 485) (i := 1) d_0_485 rfl rfl ?_
  refine wp_aload_n (pc := 486) (i := 0) d_0_486 rfl rfl ?_
  refine wp_iload_n (pc := 487) (i := 3) d_0_487 rfl rfl ?_
  refine wp_icN (pc := 488) (m := 1) d_0_488 (by decide) ?_
  refine wp_iaddN (pc := 489) d_0_489 ?_
  refine wp_sld (pc := 490) d_0_490 rfl (vp_in_nI (show i + 1 < L by omega) (by omega)) ?_
  refine wp_aload_n (pc := 491) (i := 0) d_0_491 rfl rfl ?_
  refine wp_iload_n (pc := 492) (i := 3) d_0_492 rfl rfl ?_
  refine wp_icN (pc := 493) (m := 2) d_0_493 (by decide) ?_
  refine wp_iaddN (pc := 494) d_0_494 ?_
  refine wp_sld (pc := 495) d_0_495 rfl (vp_in_nI (show i + 2 < L by omega) (by omega)) ?_
  refine wp_aload_n (pc := 496) (i := 0) d_0_496 rfl rfl ?_
  refine wp_iload_n (pc := 497) (i := 3) d_0_497 rfl rfl ?_
  refine wp_icN (pc := 498) (m := 3) d_0_498 (by decide) ?_
  refine wp_iaddN (pc := 499) d_0_499 ?_
  refine wp_sld (pc := 500) d_0_500 rfl (vp_in_nI (show i + 3 < L by omega) (by omega)) ?_
  refine wp_if_eq (pc := 501) (tgt := 508) d_0_501 (by decide) (fun zb501 => ?_) (fun zb501 => ?_)
  · refine wp_icN (pc := 508) (m := 0) d_0_508 (by decide) ?_
    refine wl_c3 (pc := 509) d_0_509 lk_0_65 (by decide) rfl (Nat.le_of_ble_eq_true rfl) (a := 1) rfl rfl (c_gbutt (p := false) hF hC hO ht) (fun I2 J2 hc oc => ?_)
    refine wp_aload_n (pc := 512) (i := 2) d_0_512 rfl rfl ?_
    refine wp_aload_n (pc := 513) (i := 0) d_0_513 rfl rfl ?_
    refine wp_iload_n (pc := 514) (i := 3) d_0_514 rfl rfl ?_
    refine wp_icN (pc := 515) (m := 1) d_0_515 (by decide) ?_
    refine wp_iaddN (pc := 516) d_0_516 ?_
    refine wp_sld (pc := 517) d_0_517 rfl (vp_in_nI (show i + 1 < L by omega) (by omega)) ?_
    refine wp_aload_n (pc := 518) (i := 0) d_0_518 rfl rfl ?_
    refine wp_iload_n (pc := 519) (i := 3) d_0_519 rfl rfl ?_
    refine wp_icN (pc := 520) (m := 2) d_0_520 (by decide) ?_
    refine wp_iaddN (pc := 521) d_0_521 ?_
    refine wp_sld (pc := 522) d_0_522 rfl (vp_in_nI (show i + 2 < L by omega) (by omega)) ?_
    refine wp_aload_n (pc := 523) (i := 0) d_0_523 rfl rfl ?_
    refine wp_iload_n (pc := 524) (i := 3) d_0_524 rfl rfl ?_
    refine wp_icN (pc := 525) (m := 3) d_0_525 (by decide) ?_
    refine wp_iaddN (pc := 526) d_0_526 ?_
    refine wp_sld (pc := 527) d_0_527 rfl (vp_in_nI (show i + 3 < L by omega) (by omega)) ?_
    refine wp_if_eq (pc := 528) (tgt := 535) d_0_528 (by decide) (fun zb528 => ?_) (fun zb528 => ?_)
    · refine wp_icN (pc := 535) (m := 0) d_0_535 (by decide) ?_
      refine wl_m3 (pc := 536) d_0_536 lk_0_69 (by decide) rfl (Nat.le_of_ble_eq_true rfl) (a := 173) rfl rfl (m_gbutt (p := false) hF (MR.fr (s0 := (tx, tl, ρ, n, σ, rg, nx, na, γ, gn, sl, sf, sd)) hM oc) hO ht) (fun I3 J3 hm om => ?_)
      refine wp_icmp_eq (pc := 539) (tgt := 1063) d_0_539 (by decide) (fun _ => ?_) (fun h => absurd rfl h)
      exact hk _ I3 J3 (OKS.mono hO (Nat.le_succ t)) (CR.fr hc om) hm
    · exact absurd zb501 zb528
  · refine wp_icN (pc := 504) (m := 1) d_0_504 (by decide) ?_
    refine wp_goto (pc := 505) (tgt := 509) d_0_505 (by decide) ?_
    refine wl_c3 (pc := 509) d_0_509 lk_0_65 (by decide) rfl (Nat.le_of_ble_eq_true rfl) (a := 1) rfl rfl (c_gbutt (p := true) hF hC hO ht) (fun I2 J2 hc oc => ?_)
    refine wp_aload_n (pc := 512) (i := 2) d_0_512 rfl rfl ?_
    refine wp_aload_n (pc := 513) (i := 0) d_0_513 rfl rfl ?_
    refine wp_iload_n (pc := 514) (i := 3) d_0_514 rfl rfl ?_
    refine wp_icN (pc := 515) (m := 1) d_0_515 (by decide) ?_
    refine wp_iaddN (pc := 516) d_0_516 ?_
    refine wp_sld (pc := 517) d_0_517 rfl (vp_in_nI (show i + 1 < L by omega) (by omega)) ?_
    refine wp_aload_n (pc := 518) (i := 0) d_0_518 rfl rfl ?_
    refine wp_iload_n (pc := 519) (i := 3) d_0_519 rfl rfl ?_
    refine wp_icN (pc := 520) (m := 2) d_0_520 (by decide) ?_
    refine wp_iaddN (pc := 521) d_0_521 ?_
    refine wp_sld (pc := 522) d_0_522 rfl (vp_in_nI (show i + 2 < L by omega) (by omega)) ?_
    refine wp_aload_n (pc := 523) (i := 0) d_0_523 rfl rfl ?_
    refine wp_iload_n (pc := 524) (i := 3) d_0_524 rfl rfl ?_
    refine wp_icN (pc := 525) (m := 3) d_0_525 (by decide) ?_
    refine wp_iaddN (pc := 526) d_0_526 ?_
    refine wp_sld (pc := 527) d_0_527 rfl (vp_in_nI (show i + 3 < L by omega) (by omega)) ?_
    refine wp_if_eq (pc := 528) (tgt := 535) d_0_528 (by decide) (fun zb528 => ?_) (fun zb528 => ?_)
    · exact absurd zb528 zb501
    · refine wp_icN (pc := 531) (m := 1) d_0_531 (by decide) ?_
      refine wp_goto (pc := 532) (tgt := 536) d_0_532 (by decide) ?_
      refine wl_m3 (pc := 536) d_0_536 lk_0_69 (by decide) rfl (Nat.le_of_ble_eq_true rfl) (a := 173) rfl rfl (m_gbutt (p := true) hF (MR.fr (s0 := (tx, tl, ρ, n, σ, rg, nx, na, γ, gn, sl, sf, sd)) hM oc) hO ht) (fun I3 J3 hm om => ?_)
      refine wp_icmp_eq (pc := 539) (tgt := 1063) d_0_539 (by decide) (fun _ => ?_) (fun h => absurd rfl h)
      exact hk _ I3 J3 (OKS.mono hO (Nat.le_succ t)) (CR.fr hc om) hm
set_option maxRecDepth 4000 in
theorem lw_c12 {L i t : Nat} {xs : Nat → Int32} {Po : RT → Prop} {I : IT} {J : JT} {F : FT} {tx : Nat → Nat} {tl : Nat} {ρ : SN} {n : Nat} {σ : SN} {rg : Nat → SN} {nx na : Nat} {γ : SN} {gn : Nat} {sl : Nat → SN} {sf : Nat → Bool} {sd : Int64} (hF : Fok F) (hL : L ≤ 3072) (hi : i + 6 ≤ L) (hC : CR I J tx tl ρ n σ rg nx na γ gn sl sf sd) (hM : MR I J tx tl ρ n σ rg nx na γ gn sl sf sd) (hO : OKS t tx tl ρ n σ rg nx na γ gn sl sf) (ht : t + 100 ≤ 1000) (hk : ∀ (s2 : SS) (I2 : IT) (J2 : JT), OKt (t + 1) s2 → CRt I2 J2 s2 → MRt I2 J2 s2 → Wp (some (L, xs)) 0 Po 1063 [some (vR 0), some (vR 1), some (vR 173), some (vI (nI i))] [] KK I2 J2 F) : Wp (some (L, xs)) 0 Po 544 [some (vR 0), some (vR 1), some (vR 173), some (vI (nI i))] [] KK I J F := by
  refine wp_aload_n (pc := 544) (i := 1) d_0_544 rfl rfl ?_
  refine wp_aload_n (pc := 545) (i := 0) d_0_545 rfl rfl ?_
  refine wp_iload_n (pc := 546) (i := 3) d_0_546 rfl rfl ?_
  refine wp_icN (pc := 547) (m := 1) d_0_547 (by decide) ?_
  refine wp_iaddN (pc := 548) d_0_548 ?_
  refine wp_sld (pc := 549) d_0_549 rfl (vp_in_nI (show i + 1 < L by omega) (by omega)) ?_
  refine wp_aload_n (pc := 550) (i := 0) d_0_550 rfl rfl ?_
  refine wp_iload_n (pc := 551) (i := 3) d_0_551 rfl rfl ?_
  refine wp_icN (pc := 552) (m := 2) d_0_552 (by decide) ?_
  refine wp_iaddN (pc := 553) d_0_553 ?_
  refine wp_sld (pc := 554) d_0_554 rfl (vp_in_nI (show i + 2 < L by omega) (by omega)) ?_
  refine wl_c2 (pc := 555) d_0_555 lk_0_70 (by decide) rfl (Nat.le_of_ble_eq_true rfl) (a := 1) rfl rfl (c_gdams hF hC hO ht) (fun I2 J2 hc oc => ?_)
  refine wp_aload_n (pc := 558) (i := 2) d_0_558 rfl rfl ?_
  refine wp_aload_n (pc := 559) (i := 0) d_0_559 rfl rfl ?_
  refine wp_iload_n (pc := 560) (i := 3) d_0_560 rfl rfl ?_
  refine wp_icN (pc := 561) (m := 1) d_0_561 (by decide) ?_
  refine wp_iaddN (pc := 562) d_0_562 ?_
  refine wp_sld (pc := 563) d_0_563 rfl (vp_in_nI (show i + 1 < L by omega) (by omega)) ?_
  refine wp_aload_n (pc := 564) (i := 0) d_0_564 rfl rfl ?_
  refine wp_iload_n (pc := 565) (i := 3) d_0_565 rfl rfl ?_
  refine wp_icN (pc := 566) (m := 2) d_0_566 (by decide) ?_
  refine wp_iaddN (pc := 567) d_0_567 ?_
  refine wp_sld (pc := 568) d_0_568 rfl (vp_in_nI (show i + 2 < L by omega) (by omega)) ?_
  refine wl_m2 (pc := 569) d_0_569 lk_0_73 (by decide) rfl (Nat.le_of_ble_eq_true rfl) (a := 173) rfl rfl (m_gdams hF (MR.fr (s0 := (tx, tl, ρ, n, σ, rg, nx, na, γ, gn, sl, sf, sd)) hM oc) hO ht) (fun I3 J3 hm om => ?_)
  refine wp_icmp_eq (pc := 572) (tgt := 1063) d_0_572 (by decide) (fun _ => ?_) (fun h => absurd rfl h)
  exact hk _ I3 J3 (OKS.mono hO (Nat.le_succ t)) (CR.fr hc om) hm
set_option maxRecDepth 4000 in
theorem lw_c13 {L i t : Nat} {xs : Nat → Int32} {Po : RT → Prop} {I : IT} {J : JT} {F : FT} {tx : Nat → Nat} {tl : Nat} {ρ : SN} {n : Nat} {σ : SN} {rg : Nat → SN} {nx na : Nat} {γ : SN} {gn : Nat} {sl : Nat → SN} {sf : Nat → Bool} {sd : Int64} (hF : Fok F) (hL : L ≤ 3072) (hi : i + 6 ≤ L) (hC : CR I J tx tl ρ n σ rg nx na γ gn sl sf sd) (hM : MR I J tx tl ρ n σ rg nx na γ gn sl sf sd) (hO : OKS t tx tl ρ n σ rg nx na γ gn sl sf) (ht : t + 100 ≤ 1000) (hk : ∀ (s2 : SS) (I2 : IT) (J2 : JT), OKt (t + 1) s2 → CRt I2 J2 s2 → MRt I2 J2 s2 → Wp (some (L, xs)) 0 Po 1063 [some (vR 0), some (vR 1), some (vR 173), some (vI (nI i))] [] KK I2 J2 F) : Wp (some (L, xs)) 0 Po 577 [some (vR 0), some (vR 1), some (vR 173), some (vI (nI i))] [] KK I J F := by
  refine wp_aload_n (pc := 577) (i := 1) d_0_577 rfl rfl ?_
  refine wp_aload_n (pc := 578) (i := 0) d_0_578 rfl rfl ?_
  refine wp_iload_n (pc := 579) (i := 3) d_0_579 rfl rfl ?_
  refine wp_icN (pc := 580) (m := 1) d_0_580 (by decide) ?_
  refine wp_iaddN (pc := 581) d_0_581 ?_
  refine wp_sld (pc := 582) d_0_582 rfl (vp_in_nI (show i + 1 < L by omega) (by omega)) ?_
  refine wp_aload_n (pc := 583) (i := 0) d_0_583 rfl rfl ?_
  refine wp_iload_n (pc := 584) (i := 3) d_0_584 rfl rfl ?_
  refine wp_icN (pc := 585) (m := 2) d_0_585 (by decide) ?_
  refine wp_iaddN (pc := 586) d_0_586 ?_
  refine wp_sld (pc := 587) d_0_587 rfl (vp_in_nI (show i + 2 < L by omega) (by omega)) ?_
  refine wl_c2 (pc := 588) d_0_588 lk_0_74 (by decide) rfl (Nat.le_of_ble_eq_true rfl) (a := 1) rfl rfl (c_genough hF hC hO ht) (fun I2 J2 hc oc => ?_)
  refine wp_aload_n (pc := 591) (i := 2) d_0_591 rfl rfl ?_
  refine wp_aload_n (pc := 592) (i := 0) d_0_592 rfl rfl ?_
  refine wp_iload_n (pc := 593) (i := 3) d_0_593 rfl rfl ?_
  refine wp_icN (pc := 594) (m := 1) d_0_594 (by decide) ?_
  refine wp_iaddN (pc := 595) d_0_595 ?_
  refine wp_sld (pc := 596) d_0_596 rfl (vp_in_nI (show i + 1 < L by omega) (by omega)) ?_
  refine wp_aload_n (pc := 597) (i := 0) d_0_597 rfl rfl ?_
  refine wp_iload_n (pc := 598) (i := 3) d_0_598 rfl rfl ?_
  refine wp_icN (pc := 599) (m := 2) d_0_599 (by decide) ?_
  refine wp_iaddN (pc := 600) d_0_600 ?_
  refine wp_sld (pc := 601) d_0_601 rfl (vp_in_nI (show i + 2 < L by omega) (by omega)) ?_
  refine wl_m2 (pc := 602) d_0_602 lk_0_77 (by decide) rfl (Nat.le_of_ble_eq_true rfl) (a := 173) rfl rfl (m_genough hF (MR.fr (s0 := (tx, tl, ρ, n, σ, rg, nx, na, γ, gn, sl, sf, sd)) hM oc) hO ht) (fun I3 J3 hm om => ?_)
  refine wp_icmp_eq (pc := 605) (tgt := 1063) d_0_605 (by decide) (fun _ => ?_) (fun h => absurd rfl h)
  exact hk _ I3 J3 (OKS.mono hO (Nat.le_succ t)) (CR.fr hc om) hm
set_option maxRecDepth 4000 in
theorem lw_c14 {L i t : Nat} {xs : Nat → Int32} {Po : RT → Prop} {I : IT} {J : JT} {F : FT} {tx : Nat → Nat} {tl : Nat} {ρ : SN} {n : Nat} {σ : SN} {rg : Nat → SN} {nx na : Nat} {γ : SN} {gn : Nat} {sl : Nat → SN} {sf : Nat → Bool} {sd : Int64} (hF : Fok F) (hL : L ≤ 3072) (hi : i + 6 ≤ L) (hC : CR I J tx tl ρ n σ rg nx na γ gn sl sf sd) (hM : MR I J tx tl ρ n σ rg nx na γ gn sl sf sd) (hO : OKS t tx tl ρ n σ rg nx na γ gn sl sf) (ht : t + 100 ≤ 1000) (hk : ∀ (s2 : SS) (I2 : IT) (J2 : JT), OKt (t + 1) s2 → CRt I2 J2 s2 → MRt I2 J2 s2 → Wp (some (L, xs)) 0 Po 1063 [some (vR 0), some (vR 1), some (vR 173), some (vI (nI i))] [] KK I2 J2 F) : Wp (some (L, xs)) 0 Po 610 [some (vR 0), some (vR 1), some (vR 173), some (vI (nI i))] [] KK I J F := by
  refine wp_aload_n (pc := 610) (i := 1) d_0_610 rfl rfl ?_
  refine wp_aload_n (pc := 611) (i := 0) d_0_611 rfl rfl ?_
  refine wp_iload_n (pc := 612) (i := 3) d_0_612 rfl rfl ?_
  refine wp_icN (pc := 613) (m := 1) d_0_613 (by decide) ?_
  refine wp_iaddN (pc := 614) d_0_614 ?_
  refine wp_sld (pc := 615) d_0_615 rfl (vp_in_nI (show i + 1 < L by omega) (by omega)) ?_
  refine wp_aload_n (pc := 616) (i := 0) d_0_616 rfl rfl ?_
  refine wp_iload_n (pc := 617) (i := 3) d_0_617 rfl rfl ?_
  refine wp_icN (pc := 618) (m := 2) d_0_618 (by decide) ?_
  refine wp_iaddN (pc := 619) d_0_619 ?_
  refine wp_sld (pc := 620) d_0_620 rfl (vp_in_nI (show i + 2 < L by omega) (by omega)) ?_
  refine wl_c2 (pc := 621) d_0_621 lk_0_78 (by decide) rfl (Nat.le_of_ble_eq_true rfl) (a := 1) rfl rfl (c_gplan hF hC hO ht) (fun I2 J2 hc oc => ?_)
  refine wp_aload_n (pc := 624) (i := 2) d_0_624 rfl rfl ?_
  refine wp_aload_n (pc := 625) (i := 0) d_0_625 rfl rfl ?_
  refine wp_iload_n (pc := 626) (i := 3) d_0_626 rfl rfl ?_
  refine wp_icN (pc := 627) (m := 1) d_0_627 (by decide) ?_
  refine wp_iaddN (pc := 628) d_0_628 ?_
  refine wp_sld (pc := 629) d_0_629 rfl (vp_in_nI (show i + 1 < L by omega) (by omega)) ?_
  refine wp_aload_n (pc := 630) (i := 0) d_0_630 rfl rfl ?_
  refine wp_iload_n (pc := 631) (i := 3) d_0_631 rfl rfl ?_
  refine wp_icN (pc := 632) (m := 2) d_0_632 (by decide) ?_
  refine wp_iaddN (pc := 633) d_0_633 ?_
  refine wp_sld (pc := 634) d_0_634 rfl (vp_in_nI (show i + 2 < L by omega) (by omega)) ?_
  refine wl_m2 (pc := 635) d_0_635 lk_0_81 (by decide) rfl (Nat.le_of_ble_eq_true rfl) (a := 173) rfl rfl (m_gplan hF (MR.fr (s0 := (tx, tl, ρ, n, σ, rg, nx, na, γ, gn, sl, sf, sd)) hM oc) hO ht) (fun I3 J3 hm om => ?_)
  refine wp_icmp_eq (pc := 638) (tgt := 1063) d_0_638 (by decide) (fun _ => ?_) (fun h => absurd rfl h)
  exact hk _ I3 J3 (OKS.mono hO (Nat.le_succ t)) (CR.fr hc om) hm
set_option maxRecDepth 4000 in
theorem lw_c15 {L i t : Nat} {xs : Nat → Int32} {Po : RT → Prop} {I : IT} {J : JT} {F : FT} {tx : Nat → Nat} {tl : Nat} {ρ : SN} {n : Nat} {σ : SN} {rg : Nat → SN} {nx na : Nat} {γ : SN} {gn : Nat} {sl : Nat → SN} {sf : Nat → Bool} {sd : Int64} (hF : Fok F) (hL : L ≤ 3072) (hi : i + 6 ≤ L) (hC : CR I J tx tl ρ n σ rg nx na γ gn sl sf sd) (hM : MR I J tx tl ρ n σ rg nx na γ gn sl sf sd) (hO : OKS t tx tl ρ n σ rg nx na γ gn sl sf) (ht : t + 100 ≤ 1000) (hk : ∀ (s2 : SS) (I2 : IT) (J2 : JT), OKt (t + 1) s2 → CRt I2 J2 s2 → MRt I2 J2 s2 → Wp (some (L, xs)) 0 Po 1063 [some (vR 0), some (vR 1), some (vR 173), some (vI (nI i))] [] KK I2 J2 F) : Wp (some (L, xs)) 0 Po 643 [some (vR 0), some (vR 1), some (vR 173), some (vI (nI i))] [] KK I J F := by
  refine wp_aload_n (pc := 643) (i := 1) d_0_643 rfl rfl ?_
  refine wp_aload_n (pc := 644) (i := 0) d_0_644 rfl rfl ?_
  refine wp_iload_n (pc := 645) (i := 3) d_0_645 rfl rfl ?_
  refine wp_icN (pc := 646) (m := 1) d_0_646 (by decide) ?_
  refine wp_iaddN (pc := 647) d_0_647 ?_
  refine wp_sld (pc := 648) d_0_648 rfl (vp_in_nI (show i + 1 < L by omega) (by omega)) ?_
  refine wp_aload_n (pc := 649) (i := 0) d_0_649 rfl rfl ?_
  refine wp_iload_n (pc := 650) (i := 3) d_0_650 rfl rfl ?_
  refine wp_icN (pc := 651) (m := 2) d_0_651 (by decide) ?_
  refine wp_iaddN (pc := 652) d_0_652 ?_
  refine wp_sld (pc := 653) d_0_653 rfl (vp_in_nI (show i + 2 < L by omega) (by omega)) ?_
  refine wp_aload_n (pc := 654) (i := 0) d_0_654 rfl rfl ?_
  refine wp_iload_n (pc := 655) (i := 3) d_0_655 rfl rfl ?_
  refine wp_icN (pc := 656) (m := 3) d_0_656 (by decide) ?_
  refine wp_iaddN (pc := 657) d_0_657 ?_
  refine wp_sld (pc := 658) d_0_658 rfl (vp_in_nI (show i + 3 < L by omega) (by omega)) ?_
  refine wl_c3 (pc := 659) d_0_659 lk_0_82 (by decide) rfl (Nat.le_of_ble_eq_true rfl) (a := 1) rfl rfl (c_gplanAt hF hC hO ht) (fun I2 J2 hc oc => ?_)
  refine wp_aload_n (pc := 662) (i := 2) d_0_662 rfl rfl ?_
  refine wp_aload_n (pc := 663) (i := 0) d_0_663 rfl rfl ?_
  refine wp_iload_n (pc := 664) (i := 3) d_0_664 rfl rfl ?_
  refine wp_icN (pc := 665) (m := 1) d_0_665 (by decide) ?_
  refine wp_iaddN (pc := 666) d_0_666 ?_
  refine wp_sld (pc := 667) d_0_667 rfl (vp_in_nI (show i + 1 < L by omega) (by omega)) ?_
  refine wp_aload_n (pc := 668) (i := 0) d_0_668 rfl rfl ?_
  refine wp_iload_n (pc := 669) (i := 3) d_0_669 rfl rfl ?_
  refine wp_icN (pc := 670) (m := 2) d_0_670 (by decide) ?_
  refine wp_iaddN (pc := 671) d_0_671 ?_
  refine wp_sld (pc := 672) d_0_672 rfl (vp_in_nI (show i + 2 < L by omega) (by omega)) ?_
  refine wp_aload_n (pc := 673) (i := 0) d_0_673 rfl rfl ?_
  refine wp_iload_n (pc := 674) (i := 3) d_0_674 rfl rfl ?_
  refine wp_icN (pc := 675) (m := 3) d_0_675 (by decide) ?_
  refine wp_iaddN (pc := 676) d_0_676 ?_
  refine wp_sld (pc := 677) d_0_677 rfl (vp_in_nI (show i + 3 < L by omega) (by omega)) ?_
  refine wl_m3 (pc := 678) d_0_678 lk_0_85 (by decide) rfl (Nat.le_of_ble_eq_true rfl) (a := 173) rfl rfl (m_gplanAt hF (MR.fr (s0 := (tx, tl, ρ, n, σ, rg, nx, na, γ, gn, sl, sf, sd)) hM oc) hO ht) (fun I3 J3 hm om => ?_)
  refine wp_icmp_eq (pc := 681) (tgt := 1063) d_0_681 (by decide) (fun _ => ?_) (fun h => absurd rfl h)
  exact hk _ I3 J3 (OKS.mono hO (Nat.le_succ t)) (CR.fr hc om) hm
set_option maxRecDepth 4000 in
theorem lw_c16 {L i t : Nat} {xs : Nat → Int32} {Po : RT → Prop} {I : IT} {J : JT} {F : FT} {tx : Nat → Nat} {tl : Nat} {ρ : SN} {n : Nat} {σ : SN} {rg : Nat → SN} {nx na : Nat} {γ : SN} {gn : Nat} {sl : Nat → SN} {sf : Nat → Bool} {sd : Int64} (hF : Fok F) (hL : L ≤ 3072) (hi : i + 6 ≤ L) (hC : CR I J tx tl ρ n σ rg nx na γ gn sl sf sd) (hM : MR I J tx tl ρ n σ rg nx na γ gn sl sf sd) (hO : OKS t tx tl ρ n σ rg nx na γ gn sl sf) (ht : t + 100 ≤ 1000) (hk : ∀ (s2 : SS) (I2 : IT) (J2 : JT), OKt (t + 1) s2 → CRt I2 J2 s2 → MRt I2 J2 s2 → Wp (some (L, xs)) 0 Po 1063 [some (vR 0), some (vR 1), some (vR 173), some (vI (nI i))] [] KK I2 J2 F) : Wp (some (L, xs)) 0 Po 686 [some (vR 0), some (vR 1), some (vR 173), some (vI (nI i))] [] KK I J F := by
  refine wp_aload_n (pc := 686) (i := 1) d_0_686 rfl rfl ?_
  refine wp_aload_n (pc := 687) (i := 0) d_0_687 rfl rfl ?_
  refine wp_iload_n (pc := 688) (i := 3) d_0_688 rfl rfl ?_
  refine wp_icN (pc := 689) (m := 1) d_0_689 (by decide) ?_
  refine wp_iaddN (pc := 690) d_0_690 ?_
  refine wp_sld (pc := 691) d_0_691 rfl (vp_in_nI (show i + 1 < L by omega) (by omega)) ?_
  refine wp_aload_n (pc := 692) (i := 0) d_0_692 rfl rfl ?_
  refine wp_iload_n (pc := 693) (i := 3) d_0_693 rfl rfl ?_
  refine wp_icN (pc := 694) (m := 2) d_0_694 (by decide) ?_
  refine wp_iaddN (pc := 695) d_0_695 ?_
  refine wp_sld (pc := 696) d_0_696 rfl (vp_in_nI (show i + 2 < L by omega) (by omega)) ?_
  refine wl_c2 (pc := 697) d_0_697 lk_0_86 (by decide) rfl (Nat.le_of_ble_eq_true rfl) (a := 1) rfl rfl (c_geach hF hC hO ht) (fun I2 J2 hc oc => ?_)
  refine wp_aload_n (pc := 700) (i := 2) d_0_700 rfl rfl ?_
  refine wp_aload_n (pc := 701) (i := 0) d_0_701 rfl rfl ?_
  refine wp_iload_n (pc := 702) (i := 3) d_0_702 rfl rfl ?_
  refine wp_icN (pc := 703) (m := 1) d_0_703 (by decide) ?_
  refine wp_iaddN (pc := 704) d_0_704 ?_
  refine wp_sld (pc := 705) d_0_705 rfl (vp_in_nI (show i + 1 < L by omega) (by omega)) ?_
  refine wp_aload_n (pc := 706) (i := 0) d_0_706 rfl rfl ?_
  refine wp_iload_n (pc := 707) (i := 3) d_0_707 rfl rfl ?_
  refine wp_icN (pc := 708) (m := 2) d_0_708 (by decide) ?_
  refine wp_iaddN (pc := 709) d_0_709 ?_
  refine wp_sld (pc := 710) d_0_710 rfl (vp_in_nI (show i + 2 < L by omega) (by omega)) ?_
  refine wl_m2 (pc := 711) d_0_711 lk_0_89 (by decide) rfl (Nat.le_of_ble_eq_true rfl) (a := 173) rfl rfl (m_geach hF (MR.fr (s0 := (tx, tl, ρ, n, σ, rg, nx, na, γ, gn, sl, sf, sd)) hM oc) hO ht) (fun I3 J3 hm om => ?_)
  refine wp_icmp_eq (pc := 714) (tgt := 1063) d_0_714 (by decide) (fun _ => ?_) (fun h => absurd rfl h)
  exact hk _ I3 J3 (OKS.mono hO (Nat.le_succ t)) (CR.fr hc om) hm
set_option maxRecDepth 4000 in
theorem lw_c17 {L i t : Nat} {xs : Nat → Int32} {Po : RT → Prop} {I : IT} {J : JT} {F : FT} {tx : Nat → Nat} {tl : Nat} {ρ : SN} {n : Nat} {σ : SN} {rg : Nat → SN} {nx na : Nat} {γ : SN} {gn : Nat} {sl : Nat → SN} {sf : Nat → Bool} {sd : Int64} (hF : Fok F) (hL : L ≤ 3072) (hi : i + 6 ≤ L) (hC : CR I J tx tl ρ n σ rg nx na γ gn sl sf sd) (hM : MR I J tx tl ρ n σ rg nx na γ gn sl sf sd) (hO : OKS t tx tl ρ n σ rg nx na γ gn sl sf) (ht : t + 100 ≤ 1000) (hk : ∀ (s2 : SS) (I2 : IT) (J2 : JT), OKt (t + 1) s2 → CRt I2 J2 s2 → MRt I2 J2 s2 → Wp (some (L, xs)) 0 Po 1063 [some (vR 0), some (vR 1), some (vR 173), some (vI (nI i))] [] KK I2 J2 F) : Wp (some (L, xs)) 0 Po 719 [some (vR 0), some (vR 1), some (vR 173), some (vI (nI i))] [] KK I J F := by
  refine wp_aload_n (pc := 719) (i := 1) d_0_719 rfl rfl ?_
  refine wp_aload_n (pc := 720) (i := 0) d_0_720 rfl rfl ?_
  refine wp_iload_n (pc := 721) (i := 3) d_0_721 rfl rfl ?_
  refine wp_icN (pc := 722) (m := 1) d_0_722 (by decide) ?_
  refine wp_iaddN (pc := 723) d_0_723 ?_
  refine wp_sld (pc := 724) d_0_724 rfl (vp_in_nI (show i + 1 < L by omega) (by omega)) ?_
  refine wp_aload_n (pc := 725) (i := 0) d_0_725 rfl rfl ?_
  refine wp_iload_n (pc := 726) (i := 3) d_0_726 rfl rfl ?_
  refine wp_icN (pc := 727) (m := 2) d_0_727 (by decide) ?_
  refine wp_iaddN (pc := 728) d_0_728 ?_
  refine wp_sld (pc := 729) d_0_729 rfl (vp_in_nI (show i + 2 < L by omega) (by omega)) ?_
  refine wp_aload_n (pc := 730) (i := 0) d_0_730 rfl rfl ?_
  refine wp_iload_n (pc := 731) (i := 3) d_0_731 rfl rfl ?_
  refine wp_icN (pc := 732) (m := 3) d_0_732 (by decide) ?_
  refine wp_iaddN (pc := 733) d_0_733 ?_
  refine wp_sld (pc := 734) d_0_734 rfl (vp_in_nI (show i + 3 < L by omega) (by omega)) ?_
  refine wl_c3 (pc := 735) d_0_735 lk_0_90 (by decide) rfl (Nat.le_of_ble_eq_true rfl) (a := 1) rfl rfl (c_ggauge hF hC hO ht) (fun I2 J2 hc oc => ?_)
  refine wp_aload_n (pc := 738) (i := 2) d_0_738 rfl rfl ?_
  refine wp_aload_n (pc := 739) (i := 0) d_0_739 rfl rfl ?_
  refine wp_iload_n (pc := 740) (i := 3) d_0_740 rfl rfl ?_
  refine wp_icN (pc := 741) (m := 1) d_0_741 (by decide) ?_
  refine wp_iaddN (pc := 742) d_0_742 ?_
  refine wp_sld (pc := 743) d_0_743 rfl (vp_in_nI (show i + 1 < L by omega) (by omega)) ?_
  refine wp_aload_n (pc := 744) (i := 0) d_0_744 rfl rfl ?_
  refine wp_iload_n (pc := 745) (i := 3) d_0_745 rfl rfl ?_
  refine wp_icN (pc := 746) (m := 2) d_0_746 (by decide) ?_
  refine wp_iaddN (pc := 747) d_0_747 ?_
  refine wp_sld (pc := 748) d_0_748 rfl (vp_in_nI (show i + 2 < L by omega) (by omega)) ?_
  refine wp_aload_n (pc := 749) (i := 0) d_0_749 rfl rfl ?_
  refine wp_iload_n (pc := 750) (i := 3) d_0_750 rfl rfl ?_
  refine wp_icN (pc := 751) (m := 3) d_0_751 (by decide) ?_
  refine wp_iaddN (pc := 752) d_0_752 ?_
  refine wp_sld (pc := 753) d_0_753 rfl (vp_in_nI (show i + 3 < L by omega) (by omega)) ?_
  refine wl_m3 (pc := 754) d_0_754 lk_0_93 (by decide) rfl (Nat.le_of_ble_eq_true rfl) (a := 173) rfl rfl (m_ggauge hF (MR.fr (s0 := (tx, tl, ρ, n, σ, rg, nx, na, γ, gn, sl, sf, sd)) hM oc) hO ht) (fun I3 J3 hm om => ?_)
  refine wp_icmp_eq (pc := 757) (tgt := 1063) d_0_757 (by decide) (fun _ => ?_) (fun h => absurd rfl h)
  exact hk _ I3 J3 (ok_gauge hO) (CR.fr hc om) hm
set_option maxRecDepth 4000 in
theorem lw_c18 {L i t : Nat} {xs : Nat → Int32} {Po : RT → Prop} {I : IT} {J : JT} {F : FT} {tx : Nat → Nat} {tl : Nat} {ρ : SN} {n : Nat} {σ : SN} {rg : Nat → SN} {nx na : Nat} {γ : SN} {gn : Nat} {sl : Nat → SN} {sf : Nat → Bool} {sd : Int64} (hF : Fok F) (hL : L ≤ 3072) (hi : i + 6 ≤ L) (hC : CR I J tx tl ρ n σ rg nx na γ gn sl sf sd) (hM : MR I J tx tl ρ n σ rg nx na γ gn sl sf sd) (hO : OKS t tx tl ρ n σ rg nx na γ gn sl sf) (ht : t + 100 ≤ 1000) (hk : ∀ (s2 : SS) (I2 : IT) (J2 : JT), OKt (t + 1) s2 → CRt I2 J2 s2 → MRt I2 J2 s2 → Wp (some (L, xs)) 0 Po 1063 [some (vR 0), some (vR 1), some (vR 173), some (vI (nI i))] [] KK I2 J2 F) : Wp (some (L, xs)) 0 Po 762 [some (vR 0), some (vR 1), some (vR 173), some (vI (nI i))] [] KK I J F := by
  refine wp_aload_n (pc := 762) (i := 1) d_0_762 rfl rfl ?_
  refine wl_c0 (pc := 763) d_0_763 lk_0_94 (by decide) rfl (Nat.le_of_ble_eq_true rfl) (a := 1) rfl rfl (c_gungauge hF hC hO ht) (fun I2 J2 hc oc => ?_)
  refine wp_aload_n (pc := 766) (i := 2) d_0_766 rfl rfl ?_
  refine wl_m0 (pc := 767) d_0_767 lk_0_97 (by decide) rfl (Nat.le_of_ble_eq_true rfl) (a := 173) rfl rfl (m_gungauge hF (MR.fr (s0 := (tx, tl, ρ, n, σ, rg, nx, na, γ, gn, sl, sf, sd)) hM oc) hO ht) (fun I3 J3 hm om => ?_)
  refine wp_icmp_eq (pc := 770) (tgt := 1063) d_0_770 (by decide) (fun _ => ?_) (fun h => absurd rfl h)
  exact hk _ I3 J3 (ok_ungauge hO) (CR.fr hc om) hm
set_option maxRecDepth 4000 in
theorem lw_c19 {L i t : Nat} {xs : Nat → Int32} {Po : RT → Prop} {I : IT} {J : JT} {F : FT} {tx : Nat → Nat} {tl : Nat} {ρ : SN} {n : Nat} {σ : SN} {rg : Nat → SN} {nx na : Nat} {γ : SN} {gn : Nat} {sl : Nat → SN} {sf : Nat → Bool} {sd : Int64} (hF : Fok F) (hL : L ≤ 3072) (hi : i + 6 ≤ L) (hC : CR I J tx tl ρ n σ rg nx na γ gn sl sf sd) (hM : MR I J tx tl ρ n σ rg nx na γ gn sl sf sd) (hO : OKS t tx tl ρ n σ rg nx na γ gn sl sf) (ht : t + 100 ≤ 1000) (hk : ∀ (s2 : SS) (I2 : IT) (J2 : JT), OKt (t + 1) s2 → CRt I2 J2 s2 → MRt I2 J2 s2 → Wp (some (L, xs)) 0 Po 1063 [some (vR 0), some (vR 1), some (vR 173), some (vI (nI i))] [] KK I2 J2 F) : Wp (some (L, xs)) 0 Po 775 [some (vR 0), some (vR 1), some (vR 173), some (vI (nI i))] [] KK I J F := by
  refine wp_aload_n (pc := 775) (i := 1) d_0_775 rfl rfl ?_
  refine wl_c0 (pc := 776) d_0_776 lk_0_98 (by decide) rfl (Nat.le_of_ble_eq_true rfl) (a := 1) rfl rfl (c_gfits hF hC hO ht) (fun I2 J2 hc oc => ?_)
  refine wp_aload_n (pc := 779) (i := 2) d_0_779 rfl rfl ?_
  refine wl_m0 (pc := 780) d_0_780 lk_0_101 (by decide) rfl (Nat.le_of_ble_eq_true rfl) (a := 173) rfl rfl (m_gfits hF (MR.fr (s0 := (tx, tl, ρ, n, σ, rg, nx, na, γ, gn, sl, sf, sd)) hM oc) hO ht) (fun I3 J3 hm om => ?_)
  refine wp_icmp_eq (pc := 783) (tgt := 1063) d_0_783 (by decide) (fun _ => ?_) (fun h => absurd rfl h)
  exact hk _ I3 J3 (OKS.mono hO (Nat.le_succ t)) (CR.fr hc om) hm
set_option maxRecDepth 4000 in
theorem lw_c20 {L i t : Nat} {xs : Nat → Int32} {Po : RT → Prop} {I : IT} {J : JT} {F : FT} {tx : Nat → Nat} {tl : Nat} {ρ : SN} {n : Nat} {σ : SN} {rg : Nat → SN} {nx na : Nat} {γ : SN} {gn : Nat} {sl : Nat → SN} {sf : Nat → Bool} {sd : Int64} (hF : Fok F) (hL : L ≤ 3072) (hi : i + 6 ≤ L) (hC : CR I J tx tl ρ n σ rg nx na γ gn sl sf sd) (hM : MR I J tx tl ρ n σ rg nx na γ gn sl sf sd) (hO : OKS t tx tl ρ n σ rg nx na γ gn sl sf) (ht : t + 100 ≤ 1000) (hk : ∀ (s2 : SS) (I2 : IT) (J2 : JT), OKt (t + 1) s2 → CRt I2 J2 s2 → MRt I2 J2 s2 → Wp (some (L, xs)) 0 Po 1063 [some (vR 0), some (vR 1), some (vR 173), some (vI (nI i))] [] KK I2 J2 F) : Wp (some (L, xs)) 0 Po 788 [some (vR 0), some (vR 1), some (vR 173), some (vI (nI i))] [] KK I J F := by
  refine wp_aload_n (pc := 788) (i := 1) d_0_788 rfl rfl ?_
  refine wp_aload_n (pc := 789) (i := 0) d_0_789 rfl rfl ?_
  refine wp_iload_n (pc := 790) (i := 3) d_0_790 rfl rfl ?_
  refine wp_icN (pc := 791) (m := 1) d_0_791 (by decide) ?_
  refine wp_iaddN (pc := 792) d_0_792 ?_
  refine wp_sld (pc := 793) d_0_793 rfl (vp_in_nI (show i + 1 < L by omega) (by omega)) ?_
  refine wp_if_eq (pc := 794) (tgt := 801) d_0_794 (by decide) (fun zb794 => ?_) (fun zb794 => ?_)
  · refine wp_icN (pc := 801) (m := 0) d_0_801 (by decide) ?_
    refine wl_c1 (pc := 802) d_0_802 lk_0_102 (by decide) rfl (Nat.le_of_ble_eq_true rfl) (a := 1) rfl rfl (c_gdammed (p := false) hF hC hO ht) (fun I2 J2 hc oc => ?_)
    refine wp_aload_n (pc := 805) (i := 2) d_0_805 rfl rfl ?_
    refine wp_aload_n (pc := 806) (i := 0) d_0_806 rfl rfl ?_
    refine wp_iload_n (pc := 807) (i := 3) d_0_807 rfl rfl ?_
    refine wp_icN (pc := 808) (m := 1) d_0_808 (by decide) ?_
    refine wp_iaddN (pc := 809) d_0_809 ?_
    refine wp_sld (pc := 810) d_0_810 rfl (vp_in_nI (show i + 1 < L by omega) (by omega)) ?_
    refine wp_if_eq (pc := 811) (tgt := 818) d_0_811 (by decide) (fun zb811 => ?_) (fun zb811 => ?_)
    · refine wp_icN (pc := 818) (m := 0) d_0_818 (by decide) ?_
      refine wl_m1 (pc := 819) d_0_819 lk_0_106 (by decide) rfl (Nat.le_of_ble_eq_true rfl) (a := 173) rfl rfl (m_gdammed (p := false) hF (MR.fr (s0 := (tx, tl, ρ, n, σ, rg, nx, na, γ, gn, sl, sf, sd)) hM oc) hO ht) (fun I3 J3 hm om => ?_)
      refine wp_icmp_eq (pc := 822) (tgt := 1063) d_0_822 (by decide) (fun _ => ?_) (fun h => absurd rfl h)
      exact hk _ I3 J3 (OKS.mono hO (Nat.le_succ t)) (CR.fr hc om) hm
    · exact absurd zb794 zb811
  · refine wp_icN (pc := 797) (m := 1) d_0_797 (by decide) ?_
    refine wp_goto (pc := 798) (tgt := 802) d_0_798 (by decide) ?_
    refine wl_c1 (pc := 802) d_0_802 lk_0_102 (by decide) rfl (Nat.le_of_ble_eq_true rfl) (a := 1) rfl rfl (c_gdammed (p := true) hF hC hO ht) (fun I2 J2 hc oc => ?_)
    refine wp_aload_n (pc := 805) (i := 2) d_0_805 rfl rfl ?_
    refine wp_aload_n (pc := 806) (i := 0) d_0_806 rfl rfl ?_
    refine wp_iload_n (pc := 807) (i := 3) d_0_807 rfl rfl ?_
    refine wp_icN (pc := 808) (m := 1) d_0_808 (by decide) ?_
    refine wp_iaddN (pc := 809) d_0_809 ?_
    refine wp_sld (pc := 810) d_0_810 rfl (vp_in_nI (show i + 1 < L by omega) (by omega)) ?_
    refine wp_if_eq (pc := 811) (tgt := 818) d_0_811 (by decide) (fun zb811 => ?_) (fun zb811 => ?_)
    · exact absurd zb811 zb794
    · refine wp_icN (pc := 814) (m := 1) d_0_814 (by decide) ?_
      refine wp_goto (pc := 815) (tgt := 819) d_0_815 (by decide) ?_
      refine wl_m1 (pc := 819) d_0_819 lk_0_106 (by decide) rfl (Nat.le_of_ble_eq_true rfl) (a := 173) rfl rfl (m_gdammed (p := true) hF (MR.fr (s0 := (tx, tl, ρ, n, σ, rg, nx, na, γ, gn, sl, sf, sd)) hM oc) hO ht) (fun I3 J3 hm om => ?_)
      refine wp_icmp_eq (pc := 822) (tgt := 1063) d_0_822 (by decide) (fun _ => ?_) (fun h => absurd rfl h)
      exact hk _ I3 J3 (OKS.mono hO (Nat.le_succ t)) (CR.fr hc om) hm
set_option maxRecDepth 4000 in
theorem lw_c21 {L i t : Nat} {xs : Nat → Int32} {Po : RT → Prop} {I : IT} {J : JT} {F : FT} {tx : Nat → Nat} {tl : Nat} {ρ : SN} {n : Nat} {σ : SN} {rg : Nat → SN} {nx na : Nat} {γ : SN} {gn : Nat} {sl : Nat → SN} {sf : Nat → Bool} {sd : Int64} (hF : Fok F) (hL : L ≤ 3072) (hi : i + 6 ≤ L) (hC : CR I J tx tl ρ n σ rg nx na γ gn sl sf sd) (hM : MR I J tx tl ρ n σ rg nx na γ gn sl sf sd) (hO : OKS t tx tl ρ n σ rg nx na γ gn sl sf) (ht : t + 100 ≤ 1000) (hk : ∀ (s2 : SS) (I2 : IT) (J2 : JT), OKt (t + 1) s2 → CRt I2 J2 s2 → MRt I2 J2 s2 → Wp (some (L, xs)) 0 Po 1063 [some (vR 0), some (vR 1), some (vR 173), some (vI (nI i))] [] KK I2 J2 F) : Wp (some (L, xs)) 0 Po 827 [some (vR 0), some (vR 1), some (vR 173), some (vI (nI i))] [] KK I J F := by
  refine wp_aload_n (pc := 827) (i := 1) d_0_827 rfl rfl ?_
  refine wp_aload_n (pc := 828) (i := 0) d_0_828 rfl rfl ?_
  refine wp_iload_n (pc := 829) (i := 3) d_0_829 rfl rfl ?_
  refine wp_icN (pc := 830) (m := 1) d_0_830 (by decide) ?_
  refine wp_iaddN (pc := 831) d_0_831 ?_
  refine wp_sld (pc := 832) d_0_832 rfl (vp_in_nI (show i + 1 < L by omega) (by omega)) ?_
  refine wp_aload_n (pc := 833) (i := 0) d_0_833 rfl rfl ?_
  refine wp_iload_n (pc := 834) (i := 3) d_0_834 rfl rfl ?_
  refine wp_icN (pc := 835) (m := 2) d_0_835 (by decide) ?_
  refine wp_iaddN (pc := 836) d_0_836 ?_
  refine wp_sld (pc := 837) d_0_837 rfl (vp_in_nI (show i + 2 < L by omega) (by omega)) ?_
  refine wp_aload_n (pc := 838) (i := 0) d_0_838 rfl rfl ?_
  refine wp_iload_n (pc := 839) (i := 3) d_0_839 rfl rfl ?_
  refine wp_icN (pc := 840) (m := 3) d_0_840 (by decide) ?_
  refine wp_iaddN (pc := 841) d_0_841 ?_
  refine wp_sld (pc := 842) d_0_842 rfl (vp_in_nI (show i + 3 < L by omega) (by omega)) ?_
  refine wp_aload_n (pc := 843) (i := 0) d_0_843 rfl rfl ?_
  refine wp_iload_n (pc := 844) (i := 3) d_0_844 rfl rfl ?_
  refine wp_icN (pc := 845) (m := 4) d_0_845 (by decide) ?_
  refine wp_iaddN (pc := 846) d_0_846 ?_
  refine wp_sld (pc := 847) d_0_847 rfl (vp_in_nI (show i + 4 < L by omega) (by omega)) ?_
  refine wp_aload_n (pc := 848) (i := 0) d_0_848 rfl rfl ?_
  refine wp_iload_n (pc := 849) (i := 3) d_0_849 rfl rfl ?_
  refine wp_icN (pc := 850) (m := 5) d_0_850 (by decide) ?_
  refine wp_iaddN (pc := 851) d_0_851 ?_
  refine wp_sld (pc := 852) d_0_852 rfl (vp_in_nI (show i + 5 < L by omega) (by omega)) ?_
  refine wp_if_eq (pc := 853) (tgt := 860) d_0_853 (by decide) (fun zb853 => ?_) (fun zb853 => ?_)
  · refine wp_icN (pc := 860) (m := 0) d_0_860 (by decide) ?_
    refine wl_cl5 (pc := 861) d_0_861 lk_0_107 (by decide) rfl (Nat.le_of_ble_eq_true rfl) (a := 1) rfl rfl (c_gluck (p := false) hF hC hO ht) (fun I2 J2 hc oc => ?_)
    refine wp_aload_n (pc := 864) (i := 2) d_0_864 rfl rfl ?_
    refine wp_aload_n (pc := 865) (i := 0) d_0_865 rfl rfl ?_
    refine wp_iload_n (pc := 866) (i := 3) d_0_866 rfl rfl ?_
    refine wp_icN (pc := 867) (m := 1) d_0_867 (by decide) ?_
    refine wp_iaddN (pc := 868) d_0_868 ?_
    refine wp_sld (pc := 869) d_0_869 rfl (vp_in_nI (show i + 1 < L by omega) (by omega)) ?_
    refine wp_aload_n (pc := 870) (i := 0) d_0_870 rfl rfl ?_
    refine wp_iload_n (pc := 871) (i := 3) d_0_871 rfl rfl ?_
    refine wp_icN (pc := 872) (m := 2) d_0_872 (by decide) ?_
    refine wp_iaddN (pc := 873) d_0_873 ?_
    refine wp_sld (pc := 874) d_0_874 rfl (vp_in_nI (show i + 2 < L by omega) (by omega)) ?_
    refine wp_aload_n (pc := 875) (i := 0) d_0_875 rfl rfl ?_
    refine wp_iload_n (pc := 876) (i := 3) d_0_876 rfl rfl ?_
    refine wp_icN (pc := 877) (m := 3) d_0_877 (by decide) ?_
    refine wp_iaddN (pc := 878) d_0_878 ?_
    refine wp_sld (pc := 879) d_0_879 rfl (vp_in_nI (show i + 3 < L by omega) (by omega)) ?_
    refine wp_aload_n (pc := 880) (i := 0) d_0_880 rfl rfl ?_
    refine wp_iload_n (pc := 881) (i := 3) d_0_881 rfl rfl ?_
    refine wp_icN (pc := 882) (m := 4) d_0_882 (by decide) ?_
    refine wp_iaddN (pc := 883) d_0_883 ?_
    refine wp_sld (pc := 884) d_0_884 rfl (vp_in_nI (show i + 4 < L by omega) (by omega)) ?_
    refine wp_aload_n (pc := 885) (i := 0) d_0_885 rfl rfl ?_
    refine wp_iload_n (pc := 886) (i := 3) d_0_886 rfl rfl ?_
    refine wp_icN (pc := 887) (m := 5) d_0_887 (by decide) ?_
    refine wp_iaddN (pc := 888) d_0_888 ?_
    refine wp_sld (pc := 889) d_0_889 rfl (vp_in_nI (show i + 5 < L by omega) (by omega)) ?_
    refine wp_if_eq (pc := 890) (tgt := 897) d_0_890 (by decide) (fun zb890 => ?_) (fun zb890 => ?_)
    · refine wp_icN (pc := 897) (m := 0) d_0_897 (by decide) ?_
      refine wl_ml5 (pc := 898) d_0_898 lk_0_111 (by decide) rfl (Nat.le_of_ble_eq_true rfl) (a := 173) rfl rfl (m_gluck (p := false) hF (MR.fr (s0 := (tx, tl, ρ, n, σ, rg, nx, na, γ, gn, sl, sf, sd)) hM oc) hO ht) (fun I3 J3 hm om => ?_)
      refine wp_lcmp (pc := 901) d_0_901 ?_
      refine wp_if_eq (pc := 902) (tgt := 1063) d_0_902 (by decide) (fun _ => ?_) (fun h => absurd (lgs_0 _) h)
      exact hk _ I3 J3 (OKS.mono hO (Nat.le_succ t)) (CR.fr hc om) hm
    · exact absurd zb853 zb890
  · refine wp_icN (pc := 856) (m := 1) d_0_856 (by decide) ?_
    refine wp_goto (pc := 857) (tgt := 861) d_0_857 (by decide) ?_
    refine wl_cl5 (pc := 861) d_0_861 lk_0_107 (by decide) rfl (Nat.le_of_ble_eq_true rfl) (a := 1) rfl rfl (c_gluck (p := true) hF hC hO ht) (fun I2 J2 hc oc => ?_)
    refine wp_aload_n (pc := 864) (i := 2) d_0_864 rfl rfl ?_
    refine wp_aload_n (pc := 865) (i := 0) d_0_865 rfl rfl ?_
    refine wp_iload_n (pc := 866) (i := 3) d_0_866 rfl rfl ?_
    refine wp_icN (pc := 867) (m := 1) d_0_867 (by decide) ?_
    refine wp_iaddN (pc := 868) d_0_868 ?_
    refine wp_sld (pc := 869) d_0_869 rfl (vp_in_nI (show i + 1 < L by omega) (by omega)) ?_
    refine wp_aload_n (pc := 870) (i := 0) d_0_870 rfl rfl ?_
    refine wp_iload_n (pc := 871) (i := 3) d_0_871 rfl rfl ?_
    refine wp_icN (pc := 872) (m := 2) d_0_872 (by decide) ?_
    refine wp_iaddN (pc := 873) d_0_873 ?_
    refine wp_sld (pc := 874) d_0_874 rfl (vp_in_nI (show i + 2 < L by omega) (by omega)) ?_
    refine wp_aload_n (pc := 875) (i := 0) d_0_875 rfl rfl ?_
    refine wp_iload_n (pc := 876) (i := 3) d_0_876 rfl rfl ?_
    refine wp_icN (pc := 877) (m := 3) d_0_877 (by decide) ?_
    refine wp_iaddN (pc := 878) d_0_878 ?_
    refine wp_sld (pc := 879) d_0_879 rfl (vp_in_nI (show i + 3 < L by omega) (by omega)) ?_
    refine wp_aload_n (pc := 880) (i := 0) d_0_880 rfl rfl ?_
    refine wp_iload_n (pc := 881) (i := 3) d_0_881 rfl rfl ?_
    refine wp_icN (pc := 882) (m := 4) d_0_882 (by decide) ?_
    refine wp_iaddN (pc := 883) d_0_883 ?_
    refine wp_sld (pc := 884) d_0_884 rfl (vp_in_nI (show i + 4 < L by omega) (by omega)) ?_
    refine wp_aload_n (pc := 885) (i := 0) d_0_885 rfl rfl ?_
    refine wp_iload_n (pc := 886) (i := 3) d_0_886 rfl rfl ?_
    refine wp_icN (pc := 887) (m := 5) d_0_887 (by decide) ?_
    refine wp_iaddN (pc := 888) d_0_888 ?_
    refine wp_sld (pc := 889) d_0_889 rfl (vp_in_nI (show i + 5 < L by omega) (by omega)) ?_
    refine wp_if_eq (pc := 890) (tgt := 897) d_0_890 (by decide) (fun zb890 => ?_) (fun zb890 => ?_)
    · exact absurd zb890 zb853
    · refine wp_icN (pc := 893) (m := 1) d_0_893 (by decide) ?_
      refine wp_goto (pc := 894) (tgt := 898) d_0_894 (by decide) ?_
      refine wl_ml5 (pc := 898) d_0_898 lk_0_111 (by decide) rfl (Nat.le_of_ble_eq_true rfl) (a := 173) rfl rfl (m_gluck (p := true) hF (MR.fr (s0 := (tx, tl, ρ, n, σ, rg, nx, na, γ, gn, sl, sf, sd)) hM oc) hO ht) (fun I3 J3 hm om => ?_)
      refine wp_lcmp (pc := 901) d_0_901 ?_
      refine wp_if_eq (pc := 902) (tgt := 1063) d_0_902 (by decide) (fun _ => ?_) (fun h => absurd (lgs_0 _) h)
      exact hk _ I3 J3 (OKS.mono hO (Nat.le_succ t)) (CR.fr hc om) hm
set_option maxRecDepth 4000 in
theorem lw_c22 {L i t : Nat} {xs : Nat → Int32} {Po : RT → Prop} {I : IT} {J : JT} {F : FT} {tx : Nat → Nat} {tl : Nat} {ρ : SN} {n : Nat} {σ : SN} {rg : Nat → SN} {nx na : Nat} {γ : SN} {gn : Nat} {sl : Nat → SN} {sf : Nat → Bool} {sd : Int64} (hF : Fok F) (hL : L ≤ 3072) (hi : i + 6 ≤ L) (hC : CR I J tx tl ρ n σ rg nx na γ gn sl sf sd) (hM : MR I J tx tl ρ n σ rg nx na γ gn sl sf sd) (hO : OKS t tx tl ρ n σ rg nx na γ gn sl sf) (ht : t + 100 ≤ 1000) (hk : ∀ (s2 : SS) (I2 : IT) (J2 : JT), OKt (t + 1) s2 → CRt I2 J2 s2 → MRt I2 J2 s2 → Wp (some (L, xs)) 0 Po 1063 [some (vR 0), some (vR 1), some (vR 173), some (vI (nI i))] [] KK I2 J2 F) : Wp (some (L, xs)) 0 Po 907 [some (vR 0), some (vR 1), some (vR 173), some (vI (nI i))] [] KK I J F := by
  refine wp_aload_n (pc := 907) (i := 1) d_0_907 rfl rfl ?_
  refine wp_aload_n (pc := 908) (i := 0) d_0_908 rfl rfl ?_
  refine wp_iload_n (pc := 909) (i := 3) d_0_909 rfl rfl ?_
  refine wp_icN (pc := 910) (m := 1) d_0_910 (by decide) ?_
  refine wp_iaddN (pc := 911) d_0_911 ?_
  refine wp_sld (pc := 912) d_0_912 rfl (vp_in_nI (show i + 1 < L by omega) (by omega)) ?_
  refine wp_i2l (pc := 913) d_0_913 ?_
  refine wp_bpN (pc := 914) (m := 32) d_0_914 (by decide) ?_
  refine wp_lshl (pc := 916) d_0_916 ?_
  refine wp_aload_n (pc := 917) (i := 0) d_0_917 rfl rfl ?_
  refine wp_iload_n (pc := 918) (i := 3) d_0_918 rfl rfl ?_
  refine wp_icN (pc := 919) (m := 2) d_0_919 (by decide) ?_
  refine wp_iaddN (pc := 920) d_0_920 ?_
  refine wp_sld (pc := 921) d_0_921 rfl (vp_in_nI (show i + 2 < L by omega) (by omega)) ?_
  refine wp_i2l (pc := 922) d_0_922 ?_
  refine wp_ldc2 (pc := 923) d_0_923 cs_0_13 ?_
  refine wp_land (pc := 926) d_0_926 ?_
  refine wp_lor (pc := 927) d_0_927 ?_
  refine wl_cl1 (pc := 928) d_0_928 lk_0_112 (by decide) rfl (Nat.le_of_ble_eq_true rfl) (a := 1) rfl rfl (c_gseed hF hC hO ht) (fun I2 J2 hc oc => ?_)
  refine wp_aload_n (pc := 931) (i := 2) d_0_931 rfl rfl ?_
  refine wp_aload_n (pc := 932) (i := 0) d_0_932 rfl rfl ?_
  refine wp_iload_n (pc := 933) (i := 3) d_0_933 rfl rfl ?_
  refine wp_icN (pc := 934) (m := 1) d_0_934 (by decide) ?_
  refine wp_iaddN (pc := 935) d_0_935 ?_
  refine wp_sld (pc := 936) d_0_936 rfl (vp_in_nI (show i + 1 < L by omega) (by omega)) ?_
  refine wp_i2l (pc := 937) d_0_937 ?_
  refine wp_bpN (pc := 938) (m := 32) d_0_938 (by decide) ?_
  refine wp_lshl (pc := 940) d_0_940 ?_
  refine wp_aload_n (pc := 941) (i := 0) d_0_941 rfl rfl ?_
  refine wp_iload_n (pc := 942) (i := 3) d_0_942 rfl rfl ?_
  refine wp_icN (pc := 943) (m := 2) d_0_943 (by decide) ?_
  refine wp_iaddN (pc := 944) d_0_944 ?_
  refine wp_sld (pc := 945) d_0_945 rfl (vp_in_nI (show i + 2 < L by omega) (by omega)) ?_
  refine wp_i2l (pc := 946) d_0_946 ?_
  refine wp_ldc2 (pc := 947) d_0_947 cs_0_13 ?_
  refine wp_land (pc := 950) d_0_950 ?_
  refine wp_lor (pc := 951) d_0_951 ?_
  refine wl_ml1 (pc := 952) d_0_952 lk_0_116 (by decide) rfl (Nat.le_of_ble_eq_true rfl) (a := 173) rfl rfl (m_gseed hF (MR.fr (s0 := (tx, tl, ρ, n, σ, rg, nx, na, γ, gn, sl, sf, sd)) hM oc) hO ht) (fun I3 J3 hm om => ?_)
  refine wp_lcmp (pc := 955) d_0_955 ?_
  refine wp_if_eq (pc := 956) (tgt := 1063) d_0_956 (by decide) (fun _ => ?_) (fun h => absurd (lgs_0 _) h)
  exact hk _ I3 J3 (ok_seed hO) (CR.fr hc om) hm
set_option maxRecDepth 4000 in
theorem lw_c23 {L i t : Nat} {xs : Nat → Int32} {Po : RT → Prop} {I : IT} {J : JT} {F : FT} {tx : Nat → Nat} {tl : Nat} {ρ : SN} {n : Nat} {σ : SN} {rg : Nat → SN} {nx na : Nat} {γ : SN} {gn : Nat} {sl : Nat → SN} {sf : Nat → Bool} {sd : Int64} (hF : Fok F) (hL : L ≤ 3072) (hi : i + 6 ≤ L) (hC : CR I J tx tl ρ n σ rg nx na γ gn sl sf sd) (hM : MR I J tx tl ρ n σ rg nx na γ gn sl sf sd) (hO : OKS t tx tl ρ n σ rg nx na γ gn sl sf) (ht : t + 100 ≤ 1000) (hk : ∀ (s2 : SS) (I2 : IT) (J2 : JT), OKt (t + 1) s2 → CRt I2 J2 s2 → MRt I2 J2 s2 → Wp (some (L, xs)) 0 Po 1063 [some (vR 0), some (vR 1), some (vR 173), some (vI (nI i))] [] KK I2 J2 F) : Wp (some (L, xs)) 0 Po 961 [some (vR 0), some (vR 1), some (vR 173), some (vI (nI i))] [] KK I J F := by
  refine wp_aload_n (pc := 961) (i := 1) d_0_961 rfl rfl ?_
  refine wp_aload_n (pc := 962) (i := 0) d_0_962 rfl rfl ?_
  refine wp_iload_n (pc := 963) (i := 3) d_0_963 rfl rfl ?_
  refine wp_icN (pc := 964) (m := 1) d_0_964 (by decide) ?_
  refine wp_iaddN (pc := 965) d_0_965 ?_
  refine wp_sld (pc := 966) d_0_966 rfl (vp_in_nI (show i + 1 < L by omega) (by omega)) ?_
  refine wp_aload_n (pc := 967) (i := 0) d_0_967 rfl rfl ?_
  refine wp_iload_n (pc := 968) (i := 3) d_0_968 rfl rfl ?_
  refine wp_icN (pc := 969) (m := 2) d_0_969 (by decide) ?_
  refine wp_iaddN (pc := 970) d_0_970 ?_
  refine wp_sld (pc := 971) d_0_971 rfl (vp_in_nI (show i + 2 < L by omega) (by omega)) ?_
  refine wl_c2 (pc := 972) d_0_972 lk_0_117 (by decide) rfl (Nat.le_of_ble_eq_true rfl) (a := 1) rfl rfl (c_gsummer hF hC hO ht) (fun I2 J2 hc oc => ?_)
  refine wp_aload_n (pc := 975) (i := 2) d_0_975 rfl rfl ?_
  refine wp_aload_n (pc := 976) (i := 0) d_0_976 rfl rfl ?_
  refine wp_iload_n (pc := 977) (i := 3) d_0_977 rfl rfl ?_
  refine wp_icN (pc := 978) (m := 1) d_0_978 (by decide) ?_
  refine wp_iaddN (pc := 979) d_0_979 ?_
  refine wp_sld (pc := 980) d_0_980 rfl (vp_in_nI (show i + 1 < L by omega) (by omega)) ?_
  refine wp_aload_n (pc := 981) (i := 0) d_0_981 rfl rfl ?_
  refine wp_iload_n (pc := 982) (i := 3) d_0_982 rfl rfl ?_
  refine wp_icN (pc := 983) (m := 2) d_0_983 (by decide) ?_
  refine wp_iaddN (pc := 984) d_0_984 ?_
  refine wp_sld (pc := 985) d_0_985 rfl (vp_in_nI (show i + 2 < L by omega) (by omega)) ?_
  refine wl_m2 (pc := 986) d_0_986 lk_0_120 (by decide) rfl (Nat.le_of_ble_eq_true rfl) (a := 173) rfl rfl (m_gsummer hF (MR.fr (s0 := (tx, tl, ρ, n, σ, rg, nx, na, γ, gn, sl, sf, sd)) hM oc) hO ht) (fun I3 J3 hm om => ?_)
  refine wp_icmp_eq (pc := 989) (tgt := 1063) d_0_989 (by decide) (fun _ => ?_) (fun h => absurd rfl h)
  exact hk _ I3 J3 (ok_summer hO) (CR.fr hc om) hm
set_option maxRecDepth 4000 in
theorem lw_c24 {L i t : Nat} {xs : Nat → Int32} {Po : RT → Prop} {I : IT} {J : JT} {F : FT} {tx : Nat → Nat} {tl : Nat} {ρ : SN} {n : Nat} {σ : SN} {rg : Nat → SN} {nx na : Nat} {γ : SN} {gn : Nat} {sl : Nat → SN} {sf : Nat → Bool} {sd : Int64} (hF : Fok F) (hL : L ≤ 3072) (hi : i + 6 ≤ L) (hC : CR I J tx tl ρ n σ rg nx na γ gn sl sf sd) (hM : MR I J tx tl ρ n σ rg nx na γ gn sl sf sd) (hO : OKS t tx tl ρ n σ rg nx na γ gn sl sf) (ht : t + 100 ≤ 1000) (hk : ∀ (s2 : SS) (I2 : IT) (J2 : JT), OKt (t + 1) s2 → CRt I2 J2 s2 → MRt I2 J2 s2 → Wp (some (L, xs)) 0 Po 1063 [some (vR 0), some (vR 1), some (vR 173), some (vI (nI i))] [] KK I2 J2 F) : Wp (some (L, xs)) 0 Po 994 [some (vR 0), some (vR 1), some (vR 173), some (vI (nI i))] [] KK I J F := by
  refine wp_aload_n (pc := 994) (i := 1) d_0_994 rfl rfl ?_
  refine wp_aload_n (pc := 995) (i := 0) d_0_995 rfl rfl ?_
  refine wp_iload_n (pc := 996) (i := 3) d_0_996 rfl rfl ?_
  refine wp_icN (pc := 997) (m := 1) d_0_997 (by decide) ?_
  refine wp_iaddN (pc := 998) d_0_998 ?_
  refine wp_sld (pc := 999) d_0_999 rfl (vp_in_nI (show i + 1 < L by omega) (by omega)) ?_
  refine wl_c1 (pc := 1000) d_0_1000 lk_0_121 (by decide) rfl (Nat.le_of_ble_eq_true rfl) (a := 1) rfl rfl (c_gkeep hF hC hO ht) (fun I2 J2 hc oc => ?_)
  refine wp_aload_n (pc := 1003) (i := 2) d_0_1003 rfl rfl ?_
  refine wp_aload_n (pc := 1004) (i := 0) d_0_1004 rfl rfl ?_
  refine wp_iload_n (pc := 1005) (i := 3) d_0_1005 rfl rfl ?_
  refine wp_icN (pc := 1006) (m := 1) d_0_1006 (by decide) ?_
  refine wp_iaddN (pc := 1007) d_0_1007 ?_
  refine wp_sld (pc := 1008) d_0_1008 rfl (vp_in_nI (show i + 1 < L by omega) (by omega)) ?_
  refine wl_m1 (pc := 1009) d_0_1009 lk_0_124 (by decide) rfl (Nat.le_of_ble_eq_true rfl) (a := 173) rfl rfl (m_gkeep hF (MR.fr (s0 := (tx, tl, ρ, n, σ, rg, nx, na, γ, gn, sl, sf, sd)) hM oc) hO ht) (fun I3 J3 hm om => ?_)
  refine wp_icmp_eq (pc := 1012) (tgt := 1063) d_0_1012 (by decide) (fun _ => ?_) (fun h => absurd rfl h)
  exact hk _ I3 J3 (ok_keep hO) (CR.fr hc om) hm
set_option maxRecDepth 4000 in
theorem lw_c25 {L i t : Nat} {xs : Nat → Int32} {Po : RT → Prop} {I : IT} {J : JT} {F : FT} {tx : Nat → Nat} {tl : Nat} {ρ : SN} {n : Nat} {σ : SN} {rg : Nat → SN} {nx na : Nat} {γ : SN} {gn : Nat} {sl : Nat → SN} {sf : Nat → Bool} {sd : Int64} (hF : Fok F) (hL : L ≤ 3072) (hi : i + 6 ≤ L) (hC : CR I J tx tl ρ n σ rg nx na γ gn sl sf sd) (hM : MR I J tx tl ρ n σ rg nx na γ gn sl sf sd) (hO : OKS t tx tl ρ n σ rg nx na γ gn sl sf) (ht : t + 100 ≤ 1000) (hk : ∀ (s2 : SS) (I2 : IT) (J2 : JT), OKt (t + 1) s2 → CRt I2 J2 s2 → MRt I2 J2 s2 → Wp (some (L, xs)) 0 Po 1063 [some (vR 0), some (vR 1), some (vR 173), some (vI (nI i))] [] KK I2 J2 F) : Wp (some (L, xs)) 0 Po 1017 [some (vR 0), some (vR 1), some (vR 173), some (vI (nI i))] [] KK I J F := by
  refine wp_aload_n (pc := 1017) (i := 1) d_0_1017 rfl rfl ?_
  refine wp_aload_n (pc := 1018) (i := 0) d_0_1018 rfl rfl ?_
  refine wp_iload_n (pc := 1019) (i := 3) d_0_1019 rfl rfl ?_
  refine wp_icN (pc := 1020) (m := 1) d_0_1020 (by decide) ?_
  refine wp_iaddN (pc := 1021) d_0_1021 ?_
  refine wp_sld (pc := 1022) d_0_1022 rfl (vp_in_nI (show i + 1 < L by omega) (by omega)) ?_
  refine wl_c1 (pc := 1023) d_0_1023 lk_0_125 (by decide) rfl (Nat.le_of_ble_eq_true rfl) (a := 1) rfl rfl (c_gagain hF hC hO ht) (fun I2 J2 hc oc => ?_)
  refine wp_aload_n (pc := 1026) (i := 2) d_0_1026 rfl rfl ?_
  refine wp_aload_n (pc := 1027) (i := 0) d_0_1027 rfl rfl ?_
  refine wp_iload_n (pc := 1028) (i := 3) d_0_1028 rfl rfl ?_
  refine wp_icN (pc := 1029) (m := 1) d_0_1029 (by decide) ?_
  refine wp_iaddN (pc := 1030) d_0_1030 ?_
  refine wp_sld (pc := 1031) d_0_1031 rfl (vp_in_nI (show i + 1 < L by omega) (by omega)) ?_
  refine wl_m1 (pc := 1032) d_0_1032 lk_0_128 (by decide) rfl (Nat.le_of_ble_eq_true rfl) (a := 173) rfl rfl (m_gagain hF (MR.fr (s0 := (tx, tl, ρ, n, σ, rg, nx, na, γ, gn, sl, sf, sd)) hM oc) hO ht) (fun I3 J3 hm om => ?_)
  refine wp_icmp_eq (pc := 1035) (tgt := 1063) d_0_1035 (by decide) (fun _ => ?_) (fun h => absurd rfl h)
  exact hk _ I3 J3 (ok_again hO) (CR.fr hc om) hm
set_option maxRecDepth 4000 in
theorem lw_c26 {L i t : Nat} {xs : Nat → Int32} {Po : RT → Prop} {I : IT} {J : JT} {F : FT} {tx : Nat → Nat} {tl : Nat} {ρ : SN} {n : Nat} {σ : SN} {rg : Nat → SN} {nx na : Nat} {γ : SN} {gn : Nat} {sl : Nat → SN} {sf : Nat → Bool} {sd : Int64} (hF : Fok F) (hL : L ≤ 3072) (hi : i + 6 ≤ L) (hC : CR I J tx tl ρ n σ rg nx na γ gn sl sf sd) (hM : MR I J tx tl ρ n σ rg nx na γ gn sl sf sd) (hO : OKS t tx tl ρ n σ rg nx na γ gn sl sf) (ht : t + 100 ≤ 1000) (hk : ∀ (s2 : SS) (I2 : IT) (J2 : JT), OKt (t + 1) s2 → CRt I2 J2 s2 → MRt I2 J2 s2 → Wp (some (L, xs)) 0 Po 1063 [some (vR 0), some (vR 1), some (vR 173), some (vI (nI i))] [] KK I2 J2 F) : Wp (some (L, xs)) 0 Po 1040 [some (vR 0), some (vR 1), some (vR 173), some (vI (nI i))] [] KK I J F := by
  refine wp_aload_n (pc := 1040) (i := 1) d_0_1040 rfl rfl ?_
  refine wp_aload_n (pc := 1041) (i := 0) d_0_1041 rfl rfl ?_
  refine wp_iload_n (pc := 1042) (i := 3) d_0_1042 rfl rfl ?_
  refine wp_icN (pc := 1043) (m := 1) d_0_1043 (by decide) ?_
  refine wp_iaddN (pc := 1044) d_0_1044 ?_
  refine wp_sld (pc := 1045) d_0_1045 rfl (vp_in_nI (show i + 1 < L by omega) (by omega)) ?_
  refine wl_c1 (pc := 1046) d_0_1046 lk_0_129 (by decide) rfl (Nat.le_of_ble_eq_true rfl) (a := 1) rfl rfl (c_gcount hF hC hO ht) (fun I2 J2 hc oc => ?_)
  refine wp_aload_n (pc := 1049) (i := 2) d_0_1049 rfl rfl ?_
  refine wp_aload_n (pc := 1050) (i := 0) d_0_1050 rfl rfl ?_
  refine wp_iload_n (pc := 1051) (i := 3) d_0_1051 rfl rfl ?_
  refine wp_icN (pc := 1052) (m := 1) d_0_1052 (by decide) ?_
  refine wp_iaddN (pc := 1053) d_0_1053 ?_
  refine wp_sld (pc := 1054) d_0_1054 rfl (vp_in_nI (show i + 1 < L by omega) (by omega)) ?_
  refine wl_m1 (pc := 1055) d_0_1055 lk_0_132 (by decide) rfl (Nat.le_of_ble_eq_true rfl) (a := 173) rfl rfl (m_gcount hF (MR.fr (s0 := (tx, tl, ρ, n, σ, rg, nx, na, γ, gn, sl, sf, sd)) hM oc) hO ht) (fun I3 J3 hm om => ?_)
  refine wp_icmp_eq (pc := 1058) (tgt := 1063) d_0_1058 (by decide) (fun _ => ?_) (fun h => absurd rfl h)
  exact hk _ I3 J3 (OKS.mono hO (Nat.le_succ t)) (CR.fr hc om) hm
