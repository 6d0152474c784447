theorem wr_pJ {scr : Option (Nat × (Nat → Int32))} {y : Nat} {Po : RT → Prop} {pc : Nat} {L : LL} {st : List VV} {K : KT} {I : IT} {J : JT} {F : FT} {a i ci q n : Nat} {x : Int64} (hd : decode (mB y) pc = .ok (.putfield i, 3)) (hf : gg_FL (mN y).cls i ci q) (hk : K[a]? = some (ci, n)) (hq : fty ci q = 1) (hfin : ((vwCl.getD ci ("", fun _ => ("", "", "", false), 0)).2.1 q).2.2.2 = false) (k : ∀ J2 : JT, J2 a q = x → (∀ a2, a2 ≠ a → J2 a2 = J a2) → Wp scr y Po (pc + 3) L st K I J2 F) : Wp scr y Po pc L (vL x :: vR a :: st) K I J F :=
  wp_putL hd hf hk hq hfin (k _ (by rw [up_eq]; exact pk_uLs) (fun a2 h => up_ne h))
theorem u2l (X : UInt64) : X.toInt64 = lN X.toNat := by
  apply Int64.toBitVec_inj.mp
  apply BitVec.eq_of_toNat_eq
  show X.toBitVec.toNat = (BitVec.ofNat 64 X.toNat).toNat
  rw [BitVec.toNat_ofNat, Nat.mod_eq_of_lt (UInt64.toNat_lt X)]
  rfl
theorem sh64 : ∀ k, k < 64 → ((nI k).toInt64.toUInt64 &&& Int64.toUInt64 63) = UInt64.ofNat k := by decide +kernel
theorem shr64 (v : Int64) {k : Nat} (hk : k < 64) : (v.toUInt64 >>> ((nI k).toInt64.toUInt64 &&& Int64.toUInt64 63)).toInt64 = lN (v.toUInt64.toNat / 2 ^ k) := by
  rw [sh64 k hk, u2l, UInt64.toNat_shiftRight, UInt64.toNat_ofNat', Nat.mod_eq_of_lt (show k < 2 ^ 64 by omega), Nat.mod_eq_of_lt hk, Nat.shiftRight_eq_div_pow]
/-- a byte of a long number, the m-th from the lowest -/
def byN (v : Int64) (m : Nat) : Nat := v.toUInt64.toNat / 2 ^ (8 * m) % 256
theorem nI_mod (a : Nat) : nI a = nI (a % 2 ^ 32) := by
  apply Int32.toBitVec_inj.mp
  apply BitVec.eq_of_toNat_eq
  show (BitVec.ofNat 32 a).toNat = (BitVec.ofNat 32 (a % 2 ^ 32)).toNat
  rw [BitVec.toNat_ofNat, BitVec.toNat_ofNat, Nat.mod_mod]
theorem byc (v : Int64) {m : Nat} (hm : m < 8) : ((v.toUInt64 >>> ((nI (8 * m)).toInt64.toUInt64 &&& Int64.toUInt64 63)).toInt64).toInt32 &&& nI 255 = nI (byN v m) := by
  rw [shr64 v (show 8 * m < 64 by omega), lN_i, nI_mod, pk_andN (Nat.mod_lt _ (by decide)) 8 (by decide)]
  unfold byN
  rw [show (2 : Nat) ^ 8 = 256 from rfl, Nat.mod_mod_of_dvd _ (by decide)]
theorem byN_lt (v : Int64) (m : Nat) : byN v m < 256 := Nat.mod_lt _ (by decide)
def apN (tx : Nat → Nat) (tl k : Nat) (v : Int64) : Nat → Nat := fun j => if j < tl then tx j else byN v (k - 1 - (j - tl))
set_option maxRecDepth 4000 in
theorem append_loop {I0 : IT} {J : JT} {F : FT} {tx : Nat → Nat} {tl k : Nat} {v : Int64} {x1 : Int32} (hF : Fok F) (hk8 : k ≤ 8) (h40 : tl + k ≤ 40) : ∀ (c : Nat) (I : IT), c ≤ k → I 2 1 = nI (tl + (k - c)) → (∀ j, j < tl + (k - c) → I 3 j = nI (apN tx tl k v j)) → (∀ a, a ≠ 2 → a ≠ 3 → I a = I0 a) → Wp none 59 (fun R => ∃ I2, R = (none, KK, I2, J, F) ∧ I2 2 1 = nI (tl + k) ∧ (∀ j, j < tl + k → I2 3 j = nI (apN tx tl k v j)) ∧ ∀ a, a ≠ 2 → a ≠ 3 → I2 a = I0 a) 5 [some (vR 2), some (vI x1), some (vL v), none, some (vI (nI c + (-1)))] [] KK I J F := by
  intro c
  induction c with
  | zero =>
    intro I hck hl hin hoff
    refine wp_iload (pc := 5) d_59_5 rfl ?_
    refine wp_if_lt (pc := 7) (tgt := 32) d_59_7 (by decide) (fun _ => ?_) (fun h => absurd (show nI 0 + (-1) < 0 by decide) h)
    exact wp_vret (pc := 32) d_59_32 rfl ⟨_, rfl, hl, hin, hoff⟩
  | succ c ih =>
    intro I hck hl hin hoff
    rw [pk_m1]
    refine wp_iload (pc := 5) d_59_5 rfl ?_
    refine wp_ifN_lt (pc := 7) (tgt := 32) d_59_7 (by decide) (by omega) ?_
    refine wp_aload_n (pc := 10) (i := 0) d_59_10 rfl rfl ?_
    refine wp_lload_n (pc := 11) (i := 2) d_59_11 rfl rfl ?_
    refine wp_bpN (pc := 12) (m := 8) d_59_12 (by decide) ?_
    refine wp_iload (pc := 14) d_59_14 rfl ?_
    refine wp_imulN (pc := 16) d_59_16 ?_
    refine wp_lushr (pc := 17) d_59_17 ?_
    refine wp_l2i (pc := 18) d_59_18 ?_
    refine wp_spN (pc := 19) (m := 255) d_59_19 (by decide) ?_
    refine wp_iand (pc := 22) d_59_22 ?_
    rw [byc v (show c < 8 by omega)]
    refine wp_callV1v (pc := 23) d_59_23 lk_7_19 (by decide) rfl (Nat.le_of_ble_eq_true rfl) rfl rfl (c_appendByte hF hl (by omega)) (fun Iq23 hq23 => ?_)
    refine wp_iinc (pc := 26) d_59_26 rfl (show nI c + (-1) = nI c + (-1) from rfl) rfl ?_
    refine wp_goto (pc := 29) (tgt := 5) d_59_29 (by decide) ?_
    refine ih Iq23 (by omega) (by rw [hq23.1, show tl + (k - (c + 1)) + 1 = tl + (k - c) by omega]) (fun j hj => ?_) (fun a h2 h3 => (hq23.2.2.2 a h2 h3).trans (hoff a h2 h3))
    by_cases e : j = tl + (k - (c + 1))
    · rw [e, hq23.2.1]
      unfold apN
      rw [if_neg (by omega), show k - 1 - (tl + (k - (c + 1)) - tl) = c by omega]
    · rw [hq23.2.2.1 j e]; exact hin j (by omega)
theorem sub_m1 (a : Nat) : nI a - nI 1 = nI a + (-1) := by rw [Int32.sub_eq_add_neg]; rfl
set_option maxRecDepth 4000 in
theorem c_append {I : IT} {J : JT} {F : FT} {tx : Nat → Nat} {tl k : Nat} {v : Int64} (hF : Fok F) (hk8 : k ≤ 8) (h40 : tl + k ≤ 40) (hCT : cTx I tx tl) : Sp 59 [vR 2, vI (nI k), vL v] KK I J F (fun R => ∃ I2, R = (none, KK, I2, J, F) ∧ I2 2 1 = nI (tl + k) ∧ (∀ j, j < tl + k → I2 3 j = nI (apN tx tl k v j)) ∧ ∀ a, a ≠ 2 → a ≠ 3 → I2 a = I a) := by
  refine Sp.mk2 (Nat.le_of_ble_eq_true rfl) (L2 := [_, _, _, _, _]) rfl ?_
  refine wp_iload_n (pc := 0) (i := 1) d_59_0 rfl rfl ?_
  refine wp_icN (pc := 1) (m := 1) d_59_1 (by decide) ?_
  refine wp_isub (pc := 2) d_59_2 ?_
  rw [sub_m1]
  refine wq_istore (pc := 3) (L2 := [_, _, _, _, _]) d_59_3 (Nat.le_of_ble_eq_true rfl) rfl rfl ?_
  exact append_loop hF hk8 h40 k I (Nat.le_refl k) (by rw [Nat.sub_self]; exact hCT.1) (fun j hj => by rw [Nat.sub_self] at hj; unfold apN; rw [if_pos (by omega)]; exact hCT.2 j (by omega)) (fun _ _ _ => rfl)
def q_write (tx : Nat → Nat) (tl : Nat) (ρ : SN) (n : Nat) (σ : SN) (rg : Nat → SN) (nx na : Nat) (γ : SN) (gn : Nat) (sl : Nat → SN) (sf : Nat → Bool) (sd : Int64) (x : Int32) (v : Int64) : Int32 × SS := if inB x (nI 1) (nI 8) = true then (if x.toNatClampNeg + tl ≤ 40 then (nI (tl + x.toNatClampNeg), (apN tx tl x.toNatClampNeg v, (tl + x.toNatClampNeg), ρ, n, σ, rg, nx, na, γ, gn, sl, sf, sd)) else (-4, (tx, tl, ρ, n, σ, rg, nx, na, γ, gn, sl, sf, sd))) else (-2, (tx, tl, ρ, n, σ, rg, nx, na, γ, gn, sl, sf, sd))
set_option maxRecDepth 4000 in
theorem c_gwrite {I : IT} {J : JT} {F : FT} {t : Nat} {tx : Nat → Nat} {tl : Nat} {ρ : SN} {n : Nat} {σ : SN} {rg : Nat → SN} {nx na : Nat} {γ : SN} {gn : Nat} {sl : Nat → SN} {sf : Nat → Bool} {sd : Int64} (hF : Fok F) (hC : CR I J tx tl ρ n σ rg nx na γ gn sl sf sd) (hO : OKS t tx tl ρ n σ rg nx na γ gn sl sf) (ht : t + 100 ≤ 1000) {x : Int32} {v : Int64} : Sp 86 [vR 1, vI x, vL v] KK I J F (PQ (q_write tx tl ρ n σ rg nx na γ gn sl sf sd x v) I J F) := by
  have hC0 := hC
  obtain ⟨hCT, hR, hA, hCA, hG, hCS, hsd⟩ := hC
  obtain ⟨ht40, hx256, hρ, hok, hrg, hnx, hna, hgo, hsl, hz, hzr, hzs, hn6⟩ := hO
  refine Sp.mk2 (Nat.le_of_ble_eq_true rfl) (L2 := [_, _, _, _]) rfl ?_
  refine wp_iload_n (pc := 0) (i := 1) d_86_0 rfl rfl ?_
  refine wp_icN (pc := 1) (m := 1) d_86_1 (by decide) ?_
  refine wp_icmp_lt (pc := 2) (tgt := 11) d_86_2 (by decide) (fun zq2 => ?_) (fun zq2 => ?_)
  · refine wp_bipush (pc := 11) (v := (-2)) d_86_11 (by decide) ?_
    exact wp_iret (pc := 13) d_86_13 (Or.inl rfl) (PQ.mk (by unfold q_write; rw [if_neg (nT (show inB x (nI 1) (nI 8) = false by unfold inB; exact decide_eq_false (fun h => Int32.not_le.mpr zq2 (Int32.le_iff_toInt_le.mpr h.1))))]) hC0 ⟨fun _ _ => rfl, rfl⟩)
  · refine wp_iload_n (pc := 5) (i := 1) d_86_5 rfl rfl ?_
    refine wp_bpN (pc := 6) (m := 8) d_86_6 (by decide) ?_
    refine wp_icmp_le (pc := 8) (tgt := 14) d_86_8 (by decide) (fun zq8 => ?_) (fun zq8 => ?_)
    · have hin : inB x (nI 1) (nI 8) = true := by unfold inB; exact decide_eq_true ⟨Int32.le_iff_toInt_le.mp (Int32.not_lt.mp zq2), Int32.le_iff_toInt_le.mp zq8⟩
      obtain ⟨jk, h0jk, h1jk, hxjk⟩ := inB_t hin (by decide) (by decide)
      subst hxjk
      have hcjk : (nI jk).toNatClampNeg = jk := nI_clamp (by omega)
      refine wp_aload_n (pc := 14) (i := 0) d_86_14 rfl rfl ?_
      refine wp_gA (pc := 15) d_86_15 fl_9_10 rfl ft_8_0 (F_1_0 hF) ?_
      refine wp_iload_n (pc := 18) (i := 1) d_86_18 rfl rfl ?_
      refine wp_callV1p (pc := 19) d_86_19 lk_9_73 (by decide) rfl (Nat.le_of_ble_eq_true rfl) rfl rfl (c_hasRoomFor hCT.1 ht40 h1jk) ?_
      refine wp_ifB_ne (pc := 22) (tgt := 28) d_86_22 (by decide) (fun zq22 => ?_) (fun zq22 => ?_)
      · have hw40 : jk + tl ≤ 40 := of_decide_eq_true zq22
        refine wp_aload_n (pc := 28) (i := 0) d_86_28 rfl rfl ?_
        refine wp_gA (pc := 29) d_86_29 fl_9_10 rfl ft_8_0 (F_1_0 hF) ?_
        refine wp_iload_n (pc := 32) (i := 1) d_86_32 rfl rfl ?_
        refine wp_lload_n (pc := 33) (i := 2) d_86_33 rfl rfl ?_
        refine wp_callV2v (pc := 34) d_86_34 lk_9_77 (by decide) rfl (Nat.le_of_ble_eq_true rfl) rfl rfl (c_append hF h1jk (by omega) hCT) (fun Iq34 hq34 => ?_)
        refine wp_aload_n (pc := 37) (i := 0) d_86_37 rfl rfl ?_
        refine wp_gA (pc := 38) d_86_38 fl_9_10 rfl ft_8_0 (F_1_0 hF) ?_
        refine wp_callV0p (pc := 41) d_86_41 lk_9_81 (by decide) rfl (Nat.le_of_ble_eq_true rfl) rfl rfl (c_Tlength (v := tl + jk) hq34.1) ?_
        have hoz : ∀ a, (a < 2 ∨ 3 < a) → Iq34 a = I a := fun a ha => hq34.2.2 a (by omega) (by omega)
        exact wp_iret (pc := 44) d_86_44 (Or.inl rfl) (PQ.mk (by unfold q_write; rw [if_pos hin, hcjk, if_pos hw40]) ⟨⟨hq34.1, hq34.2.1⟩, atR_keep hR (fun a _ _ => hoz a (by omega)), atWk hA (fun a _ _ => hoz a (by omega)), hCA.k (fun a _ _ => hoz a (by omega)), hG.k (fun a _ _ => hoz a (by omega)) (by rw [hoz 151 (by omega)]), hCS.k (fun a _ _ => hoz a (by omega)), hsd⟩ ⟨fun a _ => hoz a (by omega), rfl⟩)
      · refine wp_bipush (pc := 25) (v := (-4)) d_86_25 (by decide) ?_
        exact wp_iret (pc := 27) d_86_27 (Or.inl rfl) (PQ.mk (by unfold q_write; rw [if_pos hin, hcjk, if_neg (of_decide_eq_false zq22)]) hC0 ⟨fun _ _ => rfl, rfl⟩)
    · refine wp_bipush (pc := 11) (v := (-2)) d_86_11 (by decide) ?_
      exact wp_iret (pc := 13) d_86_13 (Or.inl rfl) (PQ.mk (by unfold q_write; rw [if_neg (nT (show inB x (nI 1) (nI 8) = false by unfold inB; exact decide_eq_false (fun h => zq8 (Int32.le_iff_toInt_le.mpr h.2))))]) hC0 ⟨fun _ _ => rfl, rfl⟩)
theorem gcN_s {k a b : Nat} : gcN (k + 1) a b = if b = 0 then a else gcN k b (a % b) := rfl
theorem gcN_gcd : ∀ k a b, b < 2 ^ k → gcN (2 * k + 1) a b = Nat.gcd a b
  | 0, a, b, h => by
    have : b = 0 := by have h1 : (2 : Nat) ^ 0 = 1 := rfl; omega
    rw [this, Nat.gcd_zero_right]; rfl
  | k + 1, a, b, h => by
    rw [show 2 * (k + 1) + 1 = (2 * k + 2) + 1 by omega, gcN_s]
    by_cases h0 : b = 0
    · rw [if_pos h0, h0, Nat.gcd_zero_right]
    rw [if_neg h0, show 2 * k + 2 = (2 * k + 1) + 1 by omega, gcN_s]
    have hab : Nat.gcd a b = Nat.gcd b (a % b) := by rw [Nat.gcd_comm a b, Nat.gcd_rec b a, Nat.gcd_comm]
    by_cases h1 : a % b = 0
    · rw [if_pos h1, hab, h1, Nat.gcd_zero_right]
    rw [if_neg h1]
    have h2 : a % b < b := Nat.mod_lt _ (by omega)
    have h3 : b % (a % b) < a % b := Nat.mod_lt _ (by omega)
    have h4 : b % (a % b) + (a % b) ≤ b := by
      have h5 := Nat.div_add_mod b (a % b)
      have h6 : 1 ≤ b / (a % b) := Nat.div_pos (by omega) (by omega)
      have h7 : (a % b) * 1 ≤ (a % b) * (b / (a % b)) := Nat.mul_le_mul_left _ h6
      omega
    have h8 : 2 ^ (k + 1) = 2 ^ k * 2 := Nat.pow_succ 2 k
    rw [gcN_gcd k (a % b) (b % (a % b)) (by omega), hab]
    rw [Nat.gcd_comm b (a % b), Nat.gcd_rec (a % b) b, Nat.gcd_comm]
theorem gcN200 {a b : Nat} (hb : b < 2 ^ 63) : gcN 200 a b = Nat.gcd a b := by
  rw [show (200 : Nat) = 199 + 1 from rfl, gcN_s]
  by_cases h0 : b = 0
  · rw [if_pos h0, h0, Nat.gcd_zero_right]
  rw [if_neg h0, show (199 : Nat) = 2 * 99 + 1 from rfl, gcN_gcd 99 b (a % b) (Nat.lt_trans (Nat.mod_lt _ (by omega)) (Nat.lt_trans hb (by decide)))]
  rw [Nat.gcd_comm a b, Nat.gcd_rec b a, Nat.gcd_comm]
theorem c_cdG {I : IT} {J : JT} {F : FT} {a b : Nat} (ha : a < 2 ^ 63) (hb : b < 2 ^ 63) : Sp 114 [vL (lN a), vL (lN b)] KK I J F (fun R => R = (some (vL (lN (Nat.gcd a b))), KK, I, J, F)) := by
  have h := c_commonDivisor (I := I) (J := J) (F := F) ha hb
  rw [gcN200 hb] at h
  exact h
theorem luN_le {ok : Nat → Bool} {x q : Nat} (hx : x ≤ 10) (hq : q ≤ 8) : ∀ m2, m2 ≤ 2 ^ q → luN ok x q m2 ≤ m2 * 10 ^ q
  | 0, _ => by rw [Nat.zero_mul]; exact Nat.le_refl 0
  | m2 + 1, h => by
    have h1 := luN_le (ok := ok) hx hq m2 (by omega)
    have h2 : x ^ pcn m2 * (10 - x) ^ (q - pcn m2) ≤ 10 ^ q := by
      have h3 := pcn_n8 q hq m2 (by omega)
      refine Nat.le_trans (Nat.mul_le_mul (Nat.pow_le_pow_left hx _) (Nat.pow_le_pow_left (show 10 - x ≤ 10 by omega) _)) ?_
      rw [← Nat.pow_add, show pcn m2 + (q - pcn m2) = q by omega]
      exact Nat.le_refl _
    show luN ok x q m2 + (if ok m2 then x ^ pcn m2 * (10 - x) ^ (q - pcn m2) else 0) ≤ (m2 + 1) * 10 ^ q
    rw [Nat.succ_mul]
    by_cases h4 : ok m2 = true
    · rw [if_pos h4]; omega
    · rw [if_neg h4]; omega
theorem mx1 {g : Nat} (h : 1 ≤ g) (h2 : g < 2 ^ 63) : (if lN g < lN 1 then lN 1 else lN g) = lN g := by
  rw [if_neg (fun h3 => by have := (pk_lLT h2 (by decide)).mp h3; omega)]
/-- the weight of the ways by which it is enough -/
def lkA (ρ : SN) (n : Nat) (σ : SN) (j q rn x : Nat) : Nat := luN (fun P => enN ρ (clN ρ n (σ 4 7) rn σ q P q) j) x q (2 ^ q)
def lkV (A q : Nat) (p : Bool) : Int64 := if p = true then lN (A / Nat.gcd A (10 ^ q)) else lN (10 ^ q / Nat.gcd A (10 ^ q))
def a_luck (ρ : SN) (n : Nat) (σ : SN) (x y r z : Int32) (p : Bool) : Int64 := if inR x n = true then (if inB y (nI 0) (nI 8) = true then (if inB r (nI 0) (nI 9) = true then (if inB z (nI 0) (nI 10) = true then lkV (lkA ρ n σ x.toNatClampNeg y.toNatClampNeg r.toNatClampNeg z.toNatClampNeg) y.toNatClampNeg p else -2) else -2) else -2) else -1
theorem c_luckA {I0 : IT} {J : JT} {F : FT} {n rf rn q x t : Nat} {ρ σ : SN} (hF : Fok F) (hρ : ∀ k j, ρ k j ≤ 9) (hrn : rn ≤ 9) (hok : okN t σ) (ht : t + 8 ≤ 1000) (hq8 : q ≤ 8) (hx10 : x ≤ 10) (hrf : rf < n) (hA : atW I0 18 σ) (hR : atR I0 12 ρ n) : Sp 29 [vR 92, vI (nI rf), vI (nI q), vI (nI rn), vI (nI x)] KK I0 J F (fun R => ∃ I2, R = (some (vL (lN (lkA ρ n σ rf q rn x))), KK, I2, J, F) ∧ offP I0 I2) := c_luckOf hF hρ hrn hok ht hq8 hx10 hrf hA hR
set_option maxRecDepth 4000 in
theorem c_gluck {I : IT} {J : JT} {F : FT} {t : Nat} {tx : Nat → Nat} {tl : Nat} {ρ : SN} {n : Nat} {σ : SN} {rg : Nat → SN} {nx na : Nat} {γ : SN} {gn : Nat} {sl : Nat → SN} {sf : Nat → Bool} {sd : Int64} (hF : Fok F) (hC : CR I J tx tl ρ n σ rg nx na γ gn sl sf sd) (hO : OKS t tx tl ρ n σ rg nx na γ gn sl sf) (ht : t + 100 ≤ 1000) {x y r z : Int32} {p : Bool} : Sp 112 [vR 1, vI x, vI y, vI r, vI z, vI (b2 p)] KK I J F (PQL (a_luck ρ n σ x y r z p, (tx, tl, ρ, n, σ, rg, nx, na, γ, gn, sl, sf, sd)) I J F) := by
  have hC0 := hC
  obtain ⟨hCT, hR, hA, hCA, hG, hCS, hsd⟩ := hC
  obtain ⟨ht40, hx256, hρ, hok, hrg, hnx, hna, hgo, hsl, hz, hzr, hzs, hn6⟩ := hO
  refine Sp.mk2 (Nat.le_of_ble_eq_true rfl) (L2 := [_, _, _, _, _, _, _, _, _, _, _, _]) rfl ?_
  refine wp_aload_n (pc := 0) (i := 0) d_112_0 rfl rfl ?_
  refine wp_gA (pc := 1) d_112_1 fl_9_26 rfl ft_8_2 (F_1_2 hF) ?_
  refine wp_iload_n (pc := 4) (i := 1) d_112_4 rfl rfl ?_
  refine wp_callV1p (pc := 5) d_112_5 lk_9_112 (by decide) rfl (Nat.le_of_ble_eq_true rfl) (kR isR12) rfl (c_has isR12 hR x) ?_
  refine wp_ifB_ne (pc := 8) (tgt := 15) d_112_8 (by decide) (fun zq8 => ?_) (fun zq8 => ?_)
  · obtain ⟨jr, hjr, hxjr⟩ := inR_t zq8 (by omega)
    subst hxjr
    have hcjr : (nI jr).toNatClampNeg = jr := nI_clamp (by omega)
    refine wp_iload_n (pc := 15) (i := 2) d_112_15 rfl rfl ?_
    refine wp_icN (pc := 16) (m := 0) d_112_16 (by decide) ?_
    refine wp_bpN (pc := 17) (m := 8) d_112_17 (by decide) ?_
    refine wp_callS3p (pc := 19) d_112_19 lk_9_168 (by decide) rfl (Nat.le_of_ble_eq_true rfl) (c_isWithin y (nI 0) (nI 8)) ?_
    refine wp_ifB_eq (pc := 22) (tgt := 43) d_112_22 (by decide) (fun zq22 => ?_) (fun zq22 => ?_)
    · refine wp_ldc2 (pc := 43) d_112_43 cs_9_241 ?_
      exact wp_lret (pc := 46) d_112_46 rfl (PQL.q (by unfold a_luck; rw [if_pos zq8, if_neg (nT zq22)]) hC0 ⟨fun _ _ => rfl, rfl⟩)
    · obtain ⟨jq, h0jq, h1jq, hxjq⟩ := inB_t zq22 (by decide) (by decide)
      subst hxjq
      have hcjq : (nI jq).toNatClampNeg = jq := nI_clamp (by omega)
      refine wp_iload_n (pc := 25) (i := 3) d_112_25 rfl rfl ?_
      refine wp_callS1p (pc := 26) d_112_26 lk_9_157 (by decide) rfl (Nat.le_of_ble_eq_true rfl) (c_isRain r) ?_
      refine wp_ifB_eq (pc := 29) (tgt := 43) d_112_29 (by decide) (fun zq29 => ?_) (fun zq29 => ?_)
      · refine wp_ldc2 (pc := 43) d_112_43 cs_9_241 ?_
        exact wp_lret (pc := 46) d_112_46 rfl (PQL.q (by unfold a_luck; rw [if_pos zq8, if_pos zq22, if_neg (nT zq29)]) hC0 ⟨fun _ _ => rfl, rfl⟩)
      · obtain ⟨rn, h0rn, h1rn, hxrn⟩ := inB_t zq29 (by decide) (by decide)
        subst hxrn
        have hcrn : (nI rn).toNatClampNeg = rn := nI_clamp (by omega)
        refine wp_iload (pc := 32) d_112_32 rfl ?_
        refine wp_icN (pc := 34) (m := 0) d_112_34 (by decide) ?_
        refine wp_bpN (pc := 35) (m := 10) d_112_35 (by decide) ?_
        refine wp_callS3p (pc := 37) d_112_37 lk_9_168 (by decide) rfl (Nat.le_of_ble_eq_true rfl) (c_isWithin z (nI 0) (nI 10)) ?_
        refine wp_ifB_ne (pc := 40) (tgt := 47) d_112_40 (by decide) (fun zq40 => ?_) (fun zq40 => ?_)
        · obtain ⟨xx, h0xx, h1xx, hxxx⟩ := inB_t zq40 (by decide) (by decide)
          subst hxxx
          have hcxx : (nI xx).toNatClampNeg = xx := nI_clamp (by omega)
          have h28 : 2 ^ jq ≤ 2 ^ 8 := Nat.pow_le_pow_right (by decide) h1jq
          have h108 : 10 ^ jq ≤ 10 ^ 8 := Nat.pow_le_pow_right (by decide) h1jq
          have h100 : 0 < 10 ^ jq := Nat.pow_pos (by decide)
          have hA63 : (lkA ρ n σ jr jq rn xx) < 2 ^ 63 := Nat.lt_of_le_of_lt (Nat.le_trans (luN_le h1xx h1jq (2 ^ jq) (Nat.le_refl _)) (Nat.mul_le_mul h28 h108)) (by decide)
          have hB63 : 10 ^ jq < 2 ^ 63 := Nat.lt_of_le_of_lt h108 (by decide)
          have hG0 : 0 < (Nat.gcd (lkA ρ n σ jr jq rn xx) (10 ^ jq)) := Nat.gcd_pos_of_pos_right _ h100
          have hG63 : (Nat.gcd (lkA ρ n σ jr jq rn xx) (10 ^ jq)) < 2 ^ 63 := Nat.lt_of_le_of_lt (Nat.gcd_le_right _ h100) hB63
          refine wp_aload_n (pc := 47) (i := 0) d_112_47 rfl rfl ?_
          refine wp_gA (pc := 48) d_112_48 fl_9_49 rfl ft_8_5 (F_1_5 hF) ?_
          refine wp_iload_n (pc := 51) (i := 1) d_112_51 rfl rfl ?_
          refine wp_iload_n (pc := 52) (i := 2) d_112_52 rfl rfl ?_
          refine wp_iload_n (pc := 53) (i := 3) d_112_53 rfl rfl ?_
          refine wp_iload (pc := 54) d_112_54 rfl ?_
          refine wp_callV4e (pc := 56) d_112_56 lk_9_243 (by decide) rfl (Nat.le_of_ble_eq_true rfl) rfl rfl (c_luckA hF hρ (by omega) hok (by omega) h1jq h1xx hjr hA hR) (fun Iq56 hq56 => ?_)
          refine wq_lstore (pc := 59) (L2 := [_, _, _, _, _, _, _, _, _, _, _, _]) d_112_59 (Nat.le_of_ble_eq_true rfl) rfl rfl ?_
          refine wr_ldc2M (pc := 61) (m := 10) d_112_61 cs_9_247 (by decide) ?_
          refine wp_iload_n (pc := 64) (i := 2) d_112_64 rfl rfl ?_
          refine wp_callS2p (pc := 65) d_112_65 lk_9_249 (by decide) rfl (Nat.le_of_ble_eq_true rfl) (c_power (b := 10) (ee := jq) (by omega)) ?_
          refine wq_lstore (pc := 68) (L2 := [_, _, _, _, _, _, _, _, _, _, _, _]) d_112_68 (Nat.le_of_ble_eq_true rfl) rfl rfl ?_
          refine wp_lconst (pc := 70) (v := lN 1) d_112_70 (by decide) ?_
          refine wp_lload (pc := 71) d_112_71 rfl ?_
          refine wp_lload (pc := 73) d_112_73 rfl ?_
          refine wp_callS2p (pc := 75) d_112_75 lk_9_253 (by decide) rfl (Nat.le_of_ble_eq_true rfl) (c_cdG (a := (lkA ρ n σ jr jq rn xx)) (b := 10 ^ jq) hA63 hB63) ?_
          refine wp_mlmax (pc := 78) d_112_78 mm_9_257 (Nat.le_of_ble_eq_true rfl) ?_
          rw [mx1 hG0 hG63]
          refine wq_lstore (pc := 81) (L2 := [_, _, _, _, _, _, _, _, _, _, _, _]) d_112_81 (Nat.le_of_ble_eq_true rfl) rfl rfl ?_
          refine wp_iload (pc := 83) d_112_83 rfl ?_
          refine wp_ifB_eq (pc := 85) (tgt := 96) d_112_85 (by decide) (fun zq85 => ?_) (fun zq85 => ?_)
          · refine wp_lload (pc := 96) d_112_96 rfl ?_
            refine wp_lload (pc := 98) d_112_98 rfl ?_
            refine wp_ldiv (pc := 100) d_112_100 (ne0L hG63 (Nat.pos_iff_ne_zero.mp hG0)) ?_
            rw [pk_lDiv hB63 hG0 hG63]
            exact wp_lret (pc := 101) d_112_101 rfl (PQL.q (by unfold a_luck; rw [if_pos zq8, if_pos zq22, if_pos zq29, if_pos zq40, hcjr, hcjq, hcrn, hcxx]; unfold lkV; rw [if_neg (nT zq85)]) (hC0.k (SCR.P hq56)) (SCR.P hq56).O)
          · refine wp_lload (pc := 88) d_112_88 rfl ?_
            refine wp_lload (pc := 90) d_112_90 rfl ?_
            refine wp_ldiv (pc := 92) d_112_92 (ne0L hG63 (Nat.pos_iff_ne_zero.mp hG0)) ?_
            rw [pk_lDiv hA63 hG0 hG63]
            refine wp_goto (pc := 93) (tgt := 101) d_112_93 (by decide) ?_
            exact wp_lret (pc := 101) d_112_101 rfl (PQL.q (by unfold a_luck; rw [if_pos zq8, if_pos zq22, if_pos zq29, if_pos zq40, hcjr, hcjq, hcrn, hcxx]; unfold lkV; rw [if_pos zq85]) (hC0.k (SCR.P hq56)) (SCR.P hq56).O)
        · refine wp_ldc2 (pc := 43) d_112_43 cs_9_241 ?_
          exact wp_lret (pc := 46) d_112_46 rfl (PQL.q (by unfold a_luck; rw [if_pos zq8, if_pos zq22, if_pos zq29, if_neg (nT zq40)]) hC0 ⟨fun _ _ => rfl, rfl⟩)
  · refine wp_ldc2 (pc := 11) d_112_11 cs_9_239 ?_
    exact wp_lret (pc := 14) d_112_14 rfl (PQL.q (by unfold a_luck; rw [if_neg (nT zq8)]) hC0 ⟨fun _ _ => rfl, rfl⟩)
def q_seed (tx : Nat → Nat) (tl : Nat) (ρ : SN) (n : Nat) (σ : SN) (rg : Nat → SN) (nx na : Nat) (γ : SN) (gn : Nat) (sl : Nat → SN) (sf : Nat → Bool) (sd : Int64) (v : Int64) : Int64 × SS := (sd, (tx, tl, ρ, n, σ, rg, nx, na, γ, gn, sl, sf, v))
set_option maxRecDepth 4000 in
theorem c_gseed {I : IT} {J : JT} {F : FT} {t : Nat} {tx : Nat → Nat} {tl : Nat} {ρ : SN} {n : Nat} {σ : SN} {rg : Nat → SN} {nx na : Nat} {γ : SN} {gn : Nat} {sl : Nat → SN} {sf : Nat → Bool} {sd : Int64} (hF : Fok F) (hC : CR I J tx tl ρ n σ rg nx na γ gn sl sf sd) (hO : OKS t tx tl ρ n σ rg nx na γ gn sl sf) (ht : t + 100 ≤ 1000) {v : Int64} : Sp 115 [vR 1, vL v] KK I J F (PQL (q_seed tx tl ρ n σ rg nx na γ gn sl sf sd v) I J F) := by
  have hC0 := hC
  obtain ⟨hCT, hR, hA, hCA, hG, hCS, hsd⟩ := hC
  obtain ⟨ht40, hx256, hρ, hok, hrg, hnx, hna, hgo, hsl, hz, hzr, hzs, hn6⟩ := hO
  refine Sp.mk2 (Nat.le_of_ble_eq_true rfl) (L2 := [_, _, _, _, _]) rfl ?_
  refine wp_aload_n (pc := 0) (i := 0) d_115_0 rfl rfl ?_
  refine wp_gL (pc := 1) d_115_1 fl_9_69 rfl ft_8_8 hsd ?_
  refine wq_lstore_n (pc := 4) (L2 := [_, _, _, _, _]) (i := 3) d_115_4 rfl (Nat.le_of_ble_eq_true rfl) rfl rfl ?_
  refine wp_aload_n (pc := 5) (i := 0) d_115_5 rfl rfl ?_
  refine wp_lload_n (pc := 6) (i := 1) d_115_6 rfl rfl ?_
  refine wr_pJ (pc := 7) d_115_7 fl_9_69 rfl ft_8_8 rfl (fun Jq7 vq7 jq7 => ?_)
  refine wp_lload_n (pc := 10) (i := 3) d_115_10 rfl rfl ?_
  exact wp_lret (pc := 11) d_115_11 rfl (PQL.mk rfl ⟨hCT, hR, hA, hCA, hG, hCS, vq7⟩ ⟨fun _ _ => rfl, jq7 173 (by decide)⟩)
def sdS (s0 : Int64) : Nat → Int64
  | 0 => s0
  | k + 1 => sdS s0 k * 6364136223846793005 + 1442695040888963407
/-- the rain that a seed tells -/
def rnS (s0 : Int64) : Nat := s0.toUInt64.toNat / 2 ^ 33 % 10
def smS (ρ : SN) (n dm : Nat) (s0 : Int64) (σ : SN) : Nat → SN
  | 0 => σ
  | k + 1 => passN ρ n dm (rnS (sdS s0 (k + 1))) (smS ρ n dm s0 σ k)
theorem rnS9 (s0 : Int64) : rnS s0 ≤ 9 := by have : rnS s0 < 10 := Nat.mod_lt _ (by decide); omega
theorem sm_ok {ρ σ : SN} {n dm t : Nat} {s0 : Int64} (hn : n ≤ 6) (hρ : ∀ k j, ρ k j ≤ 9) (h : okN t σ) : ∀ k, okN (t + k) (smS ρ n dm s0 σ k)
  | 0 => h
  | k + 1 => pass_ok hn (rnS9 _) hρ (sm_ok hn hρ h k)
theorem sm_mono {ρ σ : SN} {n dm j : Nat} {s0 : Int64} (hj : j < n) : ∀ k, σ 2 j ≤ smS ρ n dm s0 σ k 2 j
  | 0 => Nat.le_refl _
  | k + 1 => by
    have h := sm_mono (ρ := ρ) (σ := σ) (dm := dm) (s0 := s0) hj k
    show σ 2 j ≤ passN ρ n dm (rnS (sdS s0 (k + 1))) (smS ρ n dm s0 σ k) 2 j
    rw [pass2 hj]
    omega
theorem u64_lt (s0 : Int64) : s0.toUInt64.toNat / 2 ^ 33 < 2 ^ 31 := by
  have := UInt64.toNat_lt s0.toUInt64
  omega
def q_summer (tx : Nat → Nat) (tl : Nat) (ρ : SN) (n : Nat) (σ : SN) (rg : Nat → SN) (nx na : Nat) (γ : SN) (gn : Nat) (sl : Nat → SN) (sf : Nat → Bool) (sd : Int64) (x y : Int32) : Int32 × SS := if inR x n = true then (if inB y (nI 1) (nI 40) = true then (nI (smS ρ n (σ 4 7) sd σ y.toNatClampNeg 2 x.toNatClampNeg - σ 2 x.toNatClampNeg), (tx, tl, ρ, n, σ, rg, nx, na, γ, gn, sl, sf, sdS sd y.toNatClampNeg)) else (-2, (tx, tl, ρ, n, σ, rg, nx, na, γ, gn, sl, sf, sd))) else (-1, (tx, tl, ρ, n, σ, rg, nx, na, γ, gn, sl, sf, sd))
set_option maxRecDepth 4000 in
theorem summer_step {I0 : IT} {J0 : JT} {F : FT} {t jr jm : Nat} {tx : Nat → Nat} {tl : Nat} {ρ : SN} {n : Nat} {σ : SN} {rg : Nat → SN} {nx na : Nat} {γ : SN} {gn : Nat} {sl : Nat → SN} {sf : Nat → Bool} {sd : Int64} (hF : Fok F) (hC : CR I0 J0 tx tl ρ n σ rg nx na γ gn sl sf sd) (hO : OKS t tx tl ρ n σ rg nx na γ gn sl sf) (ht : t + 100 ≤ 1000) (hjr : jr < n) (hjm : jm ≤ 40) (hin1 : inR (nI jr) n = true) (hin2 : inB (nI jm) (nI 1) (nI 40) = true) (hcjr : (nI jr).toNatClampNeg = jr) (hcjm : (nI jm).toNatClampNeg = jm) (i : Nat) (hi0 : i ≤ jm) (I : IT) (J : JT) (hT : atW I 93 (smS ρ n (σ 4 7) sd σ i)) (hoff : offW 93 I0 I) (hsd2 : J 1 8 = sdS sd i) (hJ : ∀ a, a ≠ 1 → J a = J0 a)
    (ih0 : ∀ i', i < jm → i' = i + 1 → ∀ (I : IT) (J : JT), (atW I 93 (smS ρ n (σ 4 7) sd σ i')) → (offW 93 I0 I) → (J 1 8 = sdS sd i') → (∀ a, a ≠ 1 → J a = J0 a) → Wp none 116 (PQ (q_summer tx tl ρ n σ rg nx na γ gn sl sf sd (nI jr) (nI jm)) I0 J0 F) 46 [some (vR 1), some (vI (nI jr)), some (vI (nI jm)), some (vR 93), some (vI (nI i'))] [] KK I J F) : Wp none 116 (PQ (q_summer tx tl ρ n σ rg nx na γ gn sl sf sd (nI jr) (nI jm)) I0 J0 F) 46 [some (vR 1), some (vI (nI jr)), some (vI (nI jm)), some (vR 93), some (vI (nI i))] [] KK I J F := by
  obtain ⟨hCT, hR, hA, hCA, hG, hCS, hsd⟩ := hC
  obtain ⟨ht40, hx256, hρ, hok, hrg, hnx, hna, hgo, hsl, hz, hzr, hzs, hn6⟩ := hO
  refine wp_iload (pc := 46) d_116_46 rfl ?_
  refine wp_iload_n (pc := 48) (i := 2) d_116_48 rfl rfl ?_
  refine wp_icmpN_ge (pc := 49) (tgt := 102) d_116_49 (by decide) (by omega) (by omega) (fun zq49 => ?_) (fun zq49 => ?_)
  · have him : i = jm := by omega
    subst him
    refine wp_aload_n (pc := 102) (i := 3) d_116_102 rfl rfl ?_
    refine wp_iload_n (pc := 103) (i := 1) d_116_103 rfl rfl ?_
    refine wp_callV1p (pc := 104) d_116_104 lk_9_122 (by decide) rfl (Nat.le_of_ble_eq_true rfl) (kW isW93) rfl (c_gotBy hF isW93 (by omega) (hT.1 2 (by decide) jr (by omega))) ?_
    refine wp_aload_n (pc := 107) (i := 0) d_116_107 rfl rfl ?_
    refine wp_gA (pc := 108) d_116_108 fl_9_33 rfl ft_8_3 (F_1_3 hF) ?_
    refine wp_iload_n (pc := 111) (i := 1) d_116_111 rfl rfl ?_
    refine wp_callV1p (pc := 112) d_116_112 lk_9_122 (by decide) rfl (Nat.le_of_ble_eq_true rfl) (kW isW18) rfl (c_gotBy hF isW18 (by omega) ((atWk hA (fun a _ _ => hoff a (by omega))).1 2 (by decide) jr (by omega))) ?_
    refine wp_isubN (pc := 115) d_116_115 (sm_mono hjr i) ?_
    have hsc := SCR.W hoff
    exact wp_iret (pc := 116) d_116_116 (Or.inl rfl) (PQ.mk (by unfold q_summer; rw [if_pos hin1, if_pos hin2, hcjr, hcjm]) ⟨hCT.k (fun a _ _ => hsc.1 a (by omega)), atR_keep hR (fun a _ _ => hsc.1 a (by omega)), atWk hA (fun a _ _ => hsc.1 a (by omega)), hCA.k (fun a _ _ => hsc.1 a (by omega)), hG.k (fun a _ _ => hsc.1 a (by omega)) hsc.2, hCS.k (fun a _ _ => hsc.1 a (by omega)), hsd2⟩ ⟨fun a _ => hoff a (by omega), hJ 173 (by decide)⟩)
  · refine wp_aload_n (pc := 52) (i := 0) d_116_52 rfl rfl ?_
    refine wp_aload_n (pc := 53) (i := 0) d_116_53 rfl rfl ?_
    refine wp_gL (pc := 54) d_116_54 fl_9_69 rfl ft_8_8 hsd2 ?_
    refine wp_ldc2 (pc := 57) d_116_57 cs_9_262 ?_
    refine wp_lmul (pc := 60) d_116_60 ?_
    refine wp_ldc2 (pc := 61) d_116_61 cs_9_264 ?_
    refine wp_ladd (pc := 64) d_116_64 ?_
    refine wr_pJ (pc := 65) d_116_65 fl_9_69 rfl ft_8_8 rfl (fun Jq65 vq65 jq65 => ?_)
    refine wp_aload_n (pc := 68) (i := 3) d_116_68 rfl rfl ?_
    refine wp_aload_n (pc := 69) (i := 0) d_116_69 rfl rfl ?_
    refine wp_gA (pc := 70) d_116_70 fl_9_26 rfl ft_8_2 (F_1_2 hF) ?_
    refine wp_aload_n (pc := 73) (i := 0) d_116_73 rfl rfl ?_
    refine wp_gA (pc := 74) d_116_74 fl_9_33 rfl ft_8_3 (F_1_3 hF) ?_
    refine wp_callV0p (pc := 77) d_116_77 lk_9_132 (by decide) rfl (Nat.le_of_ble_eq_true rfl) (kW isW18) rfl (c_damBits isW18 ((atWk hA (fun a _ _ => hoff a (by omega))).2 7 (by decide) (by decide))) ?_
    refine wp_aload_n (pc := 80) (i := 0) d_116_80 rfl rfl ?_
    refine wp_gL (pc := 81) d_116_81 fl_9_69 rfl ft_8_8 vq65 ?_
    refine wp_bpN (pc := 84) (m := 33) d_116_84 (by decide) ?_
    refine wp_lushr (pc := 86) d_116_86 ?_
    rw [shr64 _ (by decide)]
    refine wr_ldc2M (pc := 87) (m := 10) d_116_87 cs_9_247 (by decide) ?_
    refine wp_lrem (pc := 90) d_116_90 (by decide) ?_
    rw [pk_lRem (Nat.lt_trans (u64_lt _) (by decide)) (by decide) (by decide)]
    refine wr_l2iM (pc := 91) d_116_91 ?_
    refine wp_callV3e (pc := 92) d_116_92 lk_9_164 (by decide) rfl (Nat.le_of_ble_eq_true rfl) (kW isW93) rfl (c_pass hF isW93 isR12 hρ hok.2.2.2.2.2 (rnS9 _) (ok29 (sm_ok hn6 hρ hok i) (by omega) hn6) hT (atR_keep hR (fun a _ _ => hoff a (by omega)))) (fun Iq92 hq92 => ?_)
    refine wp_pop (pc := 95) d_116_95 rfl ?_
    refine wq_iincN (pc := 96) (L2 := [_, _, _, _, _]) d_116_96 rfl (b := 1) (by decide) rfl rfl ?_
    refine wp_goto (pc := 99) (tgt := 46) d_116_99 (by decide) ?_
    exact ih0 (i + 1) zq49 rfl _ _ hq92.1 (hoff.tr hq92.2) vq65 (fun a ha => (jq65 a ha).trans (hJ a ha))
theorem summer_loop {I0 : IT} {J0 : JT} {F : FT} {t jr jm : Nat} {tx : Nat → Nat} {tl : Nat} {ρ : SN} {n : Nat} {σ : SN} {rg : Nat → SN} {nx na : Nat} {γ : SN} {gn : Nat} {sl : Nat → SN} {sf : Nat → Bool} {sd : Int64} (hF : Fok F) (hC : CR I0 J0 tx tl ρ n σ rg nx na γ gn sl sf sd) (hO : OKS t tx tl ρ n σ rg nx na γ gn sl sf) (ht : t + 100 ≤ 1000) (hjr : jr < n) (hjm : jm ≤ 40) (hin1 : inR (nI jr) n = true) (hin2 : inB (nI jm) (nI 1) (nI 40) = true) (hcjr : (nI jr).toNatClampNeg = jr) (hcjm : (nI jm).toNatClampNeg = jm) : ∀ (d i : Nat), i + d = jm → ∀ (I : IT) (J : JT), (atW I 93 (smS ρ n (σ 4 7) sd σ i)) → (offW 93 I0 I) → (J 1 8 = sdS sd i) → (∀ a, a ≠ 1 → J a = J0 a) → Wp none 116 (PQ (q_summer tx tl ρ n σ rg nx na γ gn sl sf sd (nI jr) (nI jm)) I0 J0 F) 46 [some (vR 1), some (vI (nI jr)), some (vI (nI jm)), some (vR 93), some (vI (nI i))] [] KK I J F := by
  intro d
  induction d with
  | zero =>
    intro i hid I J hT hoff hsd2 hJ
    exact summer_step hF hC hO ht hjr hjm hin1 hin2 hcjr hcjm i (by omega) I J hT hoff hsd2 hJ (fun i' hlt => absurd hlt (by omega))
  | succ d ih =>
    intro i hid I J hT hoff hsd2 hJ
    exact summer_step hF hC hO ht hjr hjm hin1 hin2 hcjr hcjm i (by omega) I J hT hoff hsd2 hJ (fun i' hlt he => ih i' (by omega))

set_option maxRecDepth 4000 in
theorem c_gsummer {I : IT} {J : JT} {F : FT} {t : Nat} {tx : Nat → Nat} {tl : Nat} {ρ : SN} {n : Nat} {σ : SN} {rg : Nat → SN} {nx na : Nat} {γ : SN} {gn : Nat} {sl : Nat → SN} {sf : Nat → Bool} {sd : Int64} (hF : Fok F) (hC : CR I J tx tl ρ n σ rg nx na γ gn sl sf sd) (hO : OKS t tx tl ρ n σ rg nx na γ gn sl sf) (ht : t + 100 ≤ 1000) {x y : Int32} : Sp 116 [vR 1, vI x, vI y] KK I J F (PQ (q_summer tx tl ρ n σ rg nx na γ gn sl sf sd x y) I J F) := by
  have hC0 := hC
  have hO0 := hO
  obtain ⟨hCT, hR, hA, hCA, hG, hCS, hsd⟩ := hC
  obtain ⟨ht40, hx256, hρ, hok, hrg, hnx, hna, hgo, hsl, hz, hzr, hzs, hn6⟩ := hO
  refine Sp.mk2 (Nat.le_of_ble_eq_true rfl) (L2 := [_, _, _, _, _]) rfl ?_
  refine wp_aload_n (pc := 0) (i := 0) d_116_0 rfl rfl ?_
  refine wp_gA (pc := 1) d_116_1 fl_9_26 rfl ft_8_2 (F_1_2 hF) ?_
  refine wp_iload_n (pc := 4) (i := 1) d_116_4 rfl rfl ?_
  refine wp_callV1p (pc := 5) d_116_5 lk_9_112 (by decide) rfl (Nat.le_of_ble_eq_true rfl) (kR isR12) rfl (c_has isR12 hR x) ?_
  refine wp_ifB_ne (pc := 8) (tgt := 13) d_116_8 (by decide) (fun zq8 => ?_) (fun zq8 => ?_)
  · obtain ⟨jr, hjr, hxjr⟩ := inR_t zq8 (by omega)
    subst hxjr
    have hcjr : (nI jr).toNatClampNeg = jr := nI_clamp (by omega)
    refine wp_iload_n (pc := 13) (i := 2) d_116_13 rfl rfl ?_
    refine wp_icN (pc := 14) (m := 1) d_116_14 (by decide) ?_
    refine wp_bpN (pc := 15) (m := 40) d_116_15 (by decide) ?_
    refine wp_callS3p (pc := 17) d_116_17 lk_9_168 (by decide) rfl (Nat.le_of_ble_eq_true rfl) (c_isWithin y (nI 1) (nI 40)) ?_
    refine wp_ifB_ne (pc := 20) (tgt := 26) d_116_20 (by decide) (fun zq20 => ?_) (fun zq20 => ?_)
    · obtain ⟨jm, h0jm, h1jm, hxjm⟩ := inB_t zq20 (by decide) (by decide)
      subst hxjm
      have hcjm : (nI jm).toNatClampNeg = jm := nI_clamp (by omega)
      refine wp_aload_n (pc := 26) (i := 0) d_116_26 rfl rfl ?_
      refine wp_gA (pc := 27) d_116_27 fl_9_49 rfl ft_8_5 (F_1_5 hF) ?_
      refine wp_icN (pc := 30) (m := 0) d_116_30 (by decide) ?_
      refine wp_icN (pc := 31) (m := 0) d_116_31 (by decide) ?_
      refine wp_aload_n (pc := 32) (i := 0) d_116_32 rfl rfl ?_
      refine wp_gA (pc := 33) d_116_33 fl_9_33 rfl ft_8_3 (F_1_3 hF) ?_
      refine wp_callV0p (pc := 36) d_116_36 lk_9_132 (by decide) rfl (Nat.le_of_ble_eq_true rfl) (kW isW18) rfl (c_damBits isW18 (hA.2 7 (by decide) (by decide))) ?_
      refine wp_callV3e (pc := 39) d_116_39 lk_9_183 (by decide) rfl (Nat.le_of_ble_eq_true rfl) rfl rfl (c_behind (q := 0) (rn := 0) (dm := (σ 4 7)) hF hρ hok.2.2.2.2.2 (by omega) hok (by omega) hA hR) (fun Iq39 hq39 => ?_)
      have hT := hq39.1
      refine wq_astore_n (pc := 42) (L2 := [_, _, _, _, _]) (i := 3) d_116_42 rfl (Nat.le_of_ble_eq_true rfl) rfl rfl ?_
      refine wp_icN (pc := 43) (m := 0) d_116_43 (by decide) ?_
      refine wq_istore (pc := 44) (L2 := [_, _, _, _, _]) d_116_44 (Nat.le_of_ble_eq_true rfl) rfl rfl ?_
      exact summer_loop hF hC0 hO0 ht hjr h1jm zq8 zq20 hcjr hcjm jm 0 (by omega) _ _ hq39.1 hq39.2 hsd (fun _ _ => rfl)
    · refine wp_bipush (pc := 23) (v := (-2)) d_116_23 (by decide) ?_
      exact wp_iret (pc := 25) d_116_25 (Or.inl rfl) (PQ.mk (by unfold q_summer; rw [if_pos zq8, if_neg (nT zq20)]) hC0 ⟨fun _ _ => rfl, rfl⟩)
  · refine wp_iconst (pc := 11) (v := (-1)) d_116_11 (by decide) ?_
    exact wp_iret (pc := 12) d_116_12 (Or.inl rfl) (PQ.mk (by unfold q_summer; rw [if_neg (nT zq8)]) hC0 ⟨fun _ _ => rfl, rfl⟩)
