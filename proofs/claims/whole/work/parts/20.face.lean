/-- all that is held from call to call -/
abbrev SS : Type := (Nat → Nat) × Nat × SN × Nat × SN × (Nat → SN) × Nat × Nat × SN × Nat × (Nat → SN) × (Nat → Bool) × Int64
def cTx (I : IT) (tx : Nat → Nat) (tl : Nat) : Prop := I 2 1 = nI tl ∧ ∀ j, j < tl → I 3 j = nI (tx j)
def cAc (I : IT) (rg : Nat → SN) (nx na : Nat) : Prop := I 23 1 = nI nx ∧ I 23 2 = nI na ∧ ∀ i, i < 12 → atW I (24 + 8 + 5 * i) (rg i)
def cSl (I : IT) (sl : Nat → SN) (sf : Nat → Bool) : Prop := (∀ i, i < 2 → atW I (155 + 8 + 5 * i) (sl i)) ∧ ∀ i, i < 2 → I 162 i = b2 (sf i)
abbrev CR (I : IT) (J : JT) (tx : Nat → Nat) (tl : Nat) (ρ : SN) (n : Nat) (σ : SN) (rg : Nat → SN) (nx na : Nat) (γ : SN) (gn : Nat) (sl : Nat → SN) (sf : Nat → Bool) (sd : Int64) : Prop := cTx I tx tl ∧ atR I 12 ρ n ∧ atW I 18 σ ∧ cAc I rg nx na ∧ atG I γ gn ∧ cSl I sl sf ∧ J 1 8 = sd
abbrev CRt (I : IT) (J : JT) (s0 : SS) : Prop := CR I J s0.1 s0.2.1 s0.2.2.1 s0.2.2.2.1 s0.2.2.2.2.1 s0.2.2.2.2.2.1 s0.2.2.2.2.2.2.1 s0.2.2.2.2.2.2.2.1 s0.2.2.2.2.2.2.2.2.1 s0.2.2.2.2.2.2.2.2.2.1 s0.2.2.2.2.2.2.2.2.2.2.1 s0.2.2.2.2.2.2.2.2.2.2.2.1 s0.2.2.2.2.2.2.2.2.2.2.2.2
def zb (n : Nat) (σ : SN) : Prop := ∀ j, n ≤ j → j < 6 → σ 0 j = 0
/-- what is held is sound, t calls on -/
abbrev OKS (t : Nat) (tx : Nat → Nat) (tl : Nat) (ρ : SN) (n : Nat) (σ : SN) (rg : Nat → SN) (nx na : Nat) (γ : SN) (gn : Nat) (sl : Nat → SN) (sf : Nat → Bool) : Prop := tl ≤ 40 ∧ (∀ j, tx j < 256) ∧ (∀ k j, ρ k j ≤ 9) ∧ okN t σ ∧ (∀ i, okN t (rg i)) ∧ nx < 12 ∧ na ≤ 12 ∧ gOk γ gn ∧ (∀ i, okN t (sl i)) ∧ zb n σ ∧ (∀ k, k < na → zb n (rg ((nx + 11 - k) % 12))) ∧ (∀ i, sf i = true → zb n (sl i)) ∧ n ≤ 6
def OC (I : IT) (J : JT) (I2 : IT) (J2 : JT) : Prop := (∀ a, 172 < a → I2 a = I a) ∧ J2 173 = J 173
def PQ (q : Int32 × SS) (I : IT) (J : JT) (F : FT) : RT → Prop := fun R => ∃ I2 J2, R = (some (vI q.1), KK, I2, J2, F) ∧ CRt I2 J2 q.2 ∧ OC I J I2 J2
def PQL (q : Int64 × SS) (I : IT) (J : JT) (F : FT) : RT → Prop := fun R => ∃ I2 J2, R = (some (vL q.1), KK, I2, J2, F) ∧ CRt I2 J2 q.2 ∧ OC I J I2 J2
theorem PQ.mk {q : Int32 × SS} {v : Int32} {s0 : SS} {I I2 : IT} {J J2 : JT} {F : FT} (hq : q = (v, s0)) (hC : CRt I2 J2 s0) (hO : OC I J I2 J2) : PQ q I J F (some (vI v), KK, I2, J2, F) := ⟨I2, J2, by rw [hq], by rw [hq]; exact hC, hO⟩
theorem PQL.mk {q : Int64 × SS} {v : Int64} {s0 : SS} {I I2 : IT} {J J2 : JT} {F : FT} (hq : q = (v, s0)) (hC : CRt I2 J2 s0) (hO : OC I J I2 J2) : PQL q I J F (some (vL v), KK, I2, J2, F) := ⟨I2, J2, by rw [hq], by rw [hq]; exact hC, hO⟩
theorem PQ.q {x v : Int32} {s0 : SS} {I I2 : IT} {J J2 : JT} {F : FT} (hq : x = v) (hC : CRt I2 J2 s0) (hO : OC I J I2 J2) : PQ (x, s0) I J F (some (vI v), KK, I2, J2, F) := ⟨I2, J2, by rw [hq], hC, hO⟩
theorem PQL.q {x v : Int64} {s0 : SS} {I I2 : IT} {J J2 : JT} {F : FT} (hq : x = v) (hC : CRt I2 J2 s0) (hO : OC I J I2 J2) : PQL (x, s0) I J F (some (vL v), KK, I2, J2, F) := ⟨I2, J2, by rw [hq], hC, hO⟩
theorem cTx.k {I I2 : IT} {tx : Nat → Nat} {tl : Nat} (h : cTx I tx tl) (k : ∀ a, 2 ≤ a → a ≤ 3 → I2 a = I a) : cTx I2 tx tl := ⟨by rw [k 2 (by omega) (by omega)]; exact h.1, fun j hj => by rw [k 3 (by omega) (by omega)]; exact h.2 j hj⟩
theorem atWk {I I2 : IT} {w : Nat} {σ : SN} (h : atW I w σ) (k : ∀ a, w ≤ a → a ≤ w + 4 → I2 a = I a) : atW I2 w σ := ⟨fun k2 hk j hj => by rw [k _ (by omega) (by omega)]; exact h.1 k2 hk j hj, fun q h1 h2 => by rw [k _ (by omega) (by omega)]; exact h.2 q h1 h2⟩
theorem cAc.k {I I2 : IT} {rg : Nat → SN} {nx na : Nat} (h : cAc I rg nx na) (k : ∀ a, 23 ≤ a → a ≤ 91 → I2 a = I a) : cAc I2 rg nx na := ⟨by rw [k 23 (by omega) (by omega)]; exact h.1, by rw [k 23 (by omega) (by omega)]; exact h.2.1, fun i hi => atWk (h.2.2 i hi) (fun a h1 h2 => k a (by omega) (by omega))⟩
theorem atG.k {I I2 : IT} {γ : SN} {gn : Nat} (h : atG I γ gn) (k : ∀ a, 152 ≤ a → a ≤ 154 → I2 a = I a) (k3 : I2 151 3 = I 151 3) : atG I2 γ gn := ⟨h.1, k3.trans h.2.1, fun k2 hk j hj => by rw [k _ (by omega) (by omega)]; exact h.2.2 k2 hk j hj⟩
theorem cSl.k {I I2 : IT} {sl : Nat → SN} {sf : Nat → Bool} (h : cSl I sl sf) (k : ∀ a, 162 ≤ a → a ≤ 172 → I2 a = I a) : cSl I2 sl sf := ⟨fun i hi => atWk (h.1 i hi) (fun a h1 h2 => k a (by omega) (by omega)), fun i hi => by rw [k 162 (by omega) (by omega)]; exact h.2 i hi⟩
/-- scratch alone is otherwise -/
def SCR (I I2 : IT) : Prop := (∀ a, (a < 4 ∨ (11 < a ∧ a < 92) ∨ 151 < a) → I2 a = I a) ∧ I2 151 3 = I 151 3
theorem CR.k {I I2 : IT} {J : JT} {tx : Nat → Nat} {tl : Nat} {ρ : SN} {n : Nat} {σ : SN} {rg : Nat → SN} {nx na : Nat} {γ : SN} {gn : Nat} {sl : Nat → SN} {sf : Nat → Bool} {sd : Int64} (h : CR I J tx tl ρ n σ rg nx na γ gn sl sf sd) (k : SCR I I2) : CR I2 J tx tl ρ n σ rg nx na γ gn sl sf sd := ⟨h.1.k (fun a _ _ => k.1 a (by omega)), atR_keep h.2.1 (fun a _ _ => k.1 a (by omega)), atWk h.2.2.1 (fun a _ _ => k.1 a (by omega)), h.2.2.2.1.k (fun a _ _ => k.1 a (by omega)), h.2.2.2.2.1.k (fun a _ _ => k.1 a (by omega)) k.2, h.2.2.2.2.2.1.k (fun a _ _ => k.1 a (by omega)), h.2.2.2.2.2.2⟩
theorem SCR.rf {I : IT} : SCR I I := ⟨fun _ _ => rfl, rfl⟩
theorem SCR.O {I I2 : IT} {J : JT} (k : SCR I I2) : OC I J I2 J := ⟨fun a ha => k.1 a (by omega), rfl⟩
theorem SCR.W {I I2 : IT} (k : offW 93 I I2) : SCR I I2 := ⟨fun a ha => k a (by omega), by rw [k 151 (by omega)]⟩
theorem SCR.P {I I2 : IT} (k : offP I I2) : SCR I I2 := ⟨fun a ha => k a (by omega) (by omega), by rw [k 151 (by omega) (by omega)]⟩
theorem SCR.D {I I2 : IT} (k : offD I I2) : SCR I I2 := ⟨fun a ha => k a (by omega), by rw [k 151 (by omega)]⟩
theorem SCR.tr {I I2 I3 : IT} (h : SCR I I2) (k : SCR I2 I3) : SCR I I3 := ⟨fun a ha => (k.1 a ha).trans (h.1 a ha), k.2.trans h.2⟩
theorem OC.of {I I2 : IT} {J : JT} (k : ∀ a, 172 < a → I2 a = I a) : OC I J I2 J := ⟨k, rfl⟩
theorem nT {p : Bool} (h : p = false) : ¬ p = true := fun h2 => by rw [h] at h2; cases h2
theorem inB_t {x : Int32} {lo hi : Nat} (h : inB x (nI lo) (nI hi) = true) (hl : lo < 2 ^ 31) (hh : hi < 2 ^ 31) : ∃ g, lo ≤ g ∧ g ≤ hi ∧ x = nI g := by
  unfold inB at h
  have h2 := of_decide_eq_true h
  rw [nI_toInt hl, nI_toInt hh] at h2
  obtain ⟨g, hg, e⟩ := inR_t (x := x) (n := hi + 1) (by unfold inR; exact decide_eq_true ⟨by omega, by omega⟩) (by omega)
  refine ⟨g, ?_, by omega, e⟩
  rw [e, nI_toInt (by omega)] at h2
  omega
theorem b2_inj {p p2 : Bool} : b2 p = b2 p2 ↔ p = p2 := by cases p <;> cases p2 <;> decide
set_option maxRecDepth 4000 in
theorem c_isRain {I : IT} {J : JT} {F : FT} (x : Int32) : Sp 96 [vI x] KK I J F (fun R => R = (some (vI (b2 (inB x (nI 0) (nI 9)))), KK, I, J, F)) := by
  refine Sp.mk2 (Nat.le_of_ble_eq_true rfl) (L2 := [_]) rfl ?_
  refine wp_iload_n (pc := 0) (i := 0) d_96_0 rfl rfl ?_
  refine wp_icN (pc := 1) (m := 0) d_96_1 (by decide) ?_
  refine wp_bpN (pc := 2) (m := 9) d_96_2 (by decide) ?_
  refine wp_callS3p (pc := 4) d_96_4 lk_9_168 (by decide) rfl (Nat.le_of_ble_eq_true rfl) (c_isWithin x (nI 0) (nI 9)) ?_
  exact wp_iret (pc := 7) d_96_7 (Or.inr ⟨rfl, b2_01 _⟩) rfl
def q_wipe (tx : Nat → Nat) (tl : Nat) (ρ : SN) (n : Nat) (σ : SN) (rg : Nat → SN) (nx na : Nat) (γ : SN) (gn : Nat) (sl : Nat → SN) (sf : Nat → Bool) (sd : Int64) : Int32 × SS := (nI tl, (tx, 0, ρ, n, σ, rg, nx, na, γ, gn, sl, sf, sd))
set_option maxRecDepth 4000 in
theorem c_gwipe {I : IT} {J : JT} {F : FT} {t : Nat} {tx : Nat → Nat} {tl : Nat} {ρ : SN} {n : Nat} {σ : SN} {rg : Nat → SN} {nx na : Nat} {γ : SN} {gn : Nat} {sl : Nat → SN} {sf : Nat → Bool} {sd : Int64} (hF : Fok F) (hC : CR I J tx tl ρ n σ rg nx na γ gn sl sf sd) (hO : OKS t tx tl ρ n σ rg nx na γ gn sl sf) (ht : t + 100 ≤ 1000) : Sp 87 [vR 1] KK I J F (PQ (q_wipe tx tl ρ n σ rg nx na γ gn sl sf sd) I J F) := by
  have hC0 := hC
  obtain ⟨hCT, hR, hA, hCA, hG, hCS, hsd⟩ := hC
  obtain ⟨ht40, hx256, hρ, hok, hrg, hnx, hna, hgo, hsl, hz, hzr, hzs, hn6⟩ := hO
  refine Sp.mk2 (Nat.le_of_ble_eq_true rfl) (L2 := [_, _]) rfl ?_
  refine wp_aload_n (pc := 0) (i := 0) d_87_0 rfl rfl ?_
  refine wp_gA (pc := 1) d_87_1 fl_9_10 rfl ft_8_0 (F_1_0 hF) ?_
  refine wp_callV0p (pc := 4) d_87_4 lk_9_81 (by decide) rfl (Nat.le_of_ble_eq_true rfl) rfl rfl (c_Tlength (v := tl) hCT.1) ?_
  refine wq_istore_n (pc := 7) (L2 := [_, _]) (i := 1) d_87_7 rfl (Nat.le_of_ble_eq_true rfl) rfl rfl ?_
  refine wp_aload_n (pc := 8) (i := 0) d_87_8 rfl rfl ?_
  refine wp_gA (pc := 9) d_87_9 fl_9_10 rfl ft_8_0 (F_1_0 hF) ?_
  refine wp_callV0v (pc := 12) d_87_12 lk_9_85 (by decide) rfl (Nat.le_of_ble_eq_true rfl) rfl rfl (c_Tclear) (fun Iq12 hq12 => ?_)
  refine wp_iload_n (pc := 15) (i := 1) d_87_15 rfl rfl ?_
  exact wp_iret (pc := 16) d_87_16 (Or.inl rfl) (PQ.mk (by unfold q_wipe; rfl) ⟨⟨hq12.at, fun j hj => absurd hj (Nat.not_lt_zero j)⟩, atR_keep hR (fun a _ _ => hq12.2 a (by omega)), atWk hA (fun a _ _ => hq12.2 a (by omega)), hCA.k (fun a _ _ => hq12.2 a (by omega)), hG.k (fun a _ _ => hq12.2 a (by omega)) (by rw [hq12.2 151 (by omega)]), hCS.k (fun a _ _ => hq12.2 a (by omega)), hsd⟩ ⟨fun a _ => hq12.2 a (by omega), rfl⟩)
set_option maxRecDepth 4000 in
theorem c_gfault {I : IT} {J : JT} {F : FT} {t : Nat} {tx : Nat → Nat} {tl : Nat} {ρ : SN} {n : Nat} {σ : SN} {rg : Nat → SN} {nx na : Nat} {γ : SN} {gn : Nat} {sl : Nat → SN} {sf : Nat → Bool} {sd : Int64} (hF : Fok F) (hC : CR I J tx tl ρ n σ rg nx na γ gn sl sf sd) (hO : OKS t tx tl ρ n σ rg nx na γ gn sl sf) (ht : t + 100 ≤ 1000) : Sp 88 [vR 1] KK I J F (PQ ((fltN tx tl).1, (tx, tl, ρ, n, σ, rg, nx, na, γ, gn, sl, sf, sd)) I J F) := by
  have hC0 := hC
  obtain ⟨hCT, hR, hA, hCA, hG, hCS, hsd⟩ := hC
  obtain ⟨ht40, hx256, hρ, hok, hrg, hnx, hna, hgo, hsl, hz, hzr, hzs, hn6⟩ := hO
  refine Sp.mk2 (Nat.le_of_ble_eq_true rfl) (L2 := [_]) rfl ?_
  refine wp_aload_n (pc := 0) (i := 0) d_88_0 rfl rfl ?_
  refine wp_gA (pc := 1) d_88_1 fl_9_19 rfl ft_8_1 (F_1_1 hF) ?_
  refine wp_aload_n (pc := 4) (i := 0) d_88_4 rfl rfl ?_
  refine wp_gA (pc := 5) d_88_5 fl_9_10 rfl ft_8_0 (F_1_0 hF) ?_
  refine wp_callV1e (pc := 8) d_88_8 lk_9_88 (by decide) rfl (Nat.le_of_ble_eq_true rfl) rfl rfl (c_faultIn hF ht40 hx256 hCT.1 hCT.2) (fun Iq8 hq8 => ?_)
  exact wp_iret (pc := 11) d_88_11 (Or.inl rfl) (PQ.q rfl (hC0.k (SCR.D hq8.1)) (SCR.D hq8.1).O)
theorem fin_cases (tx : Nat → Nat) {tl : Nat} (h40 : tl ≤ 40) : ∀ d pl mz, pl + d ≤ 40 → ((finN tx tl d pl mz).1 = -9 ∧ ∃ mz2, (finN tx tl d pl mz).2 = some mz2) ∨ ((finN tx tl d pl mz).1 ≠ -9 ∧ (finN tx tl d pl mz).2 = none) := by
  have n9 : ∀ p, p ≤ 40 → nI p ≠ -9 := by decide
  intro d
  induction d with
  | zero =>
    intro pl mz _
    unfold finN
    by_cases e : 0 < tl ∧ mz.2.2.1 = 0
    · rw [if_pos e]; exact Or.inl ⟨rfl, mz, rfl⟩
    · rw [if_neg e]; exact Or.inr ⟨n9 _ h40, rfl⟩
  | succ d ih =>
    intro pl mz hpd
    rcases hcs : stepM pl (tx pl) mz with _ | mz2
    · rw [fin_none hcs]; exact Or.inr ⟨n9 _ (by omega), rfl⟩
    · rw [fin_some hcs]; exact ih (pl + 1) mz2 (by omega)
def qs_street (tx : Nat → Nat) (tl : Nat) (ρ : SN) (n : Nat) (σ : SN) (rg : Nat → SN) (nx na : Nat) (γ : SN) (gn : Nat) (sl : Nat → SN) (sf : Nat → Bool) (sd : Int64) : Option PS → Int32 × SS
  | none => (-3, (tx, tl, ρ, n, σ, rg, nx, na, γ, gn, sl, sf, sd))
  | some mz => (nI mz.1, (tx, tl, mz.2.1, mz.1, beginN mz.2.1 mz.1, rg, nx, 0, γ, gn, sl, fun _ => false, sd))
def q_street (tx : Nat → Nat) (tl : Nat) (ρ : SN) (n : Nat) (σ : SN) (rg : Nat → SN) (nx na : Nat) (γ : SN) (gn : Nat) (sl : Nat → SN) (sf : Nat → Bool) (sd : Int64) : Int32 × SS := qs_street tx tl ρ n σ rg nx na γ gn sl sf sd (fltN tx tl).2
set_option maxRecDepth 4000 in
theorem c_gstreet {I : IT} {J : JT} {F : FT} {t : Nat} {tx : Nat → Nat} {tl : Nat} {ρ : SN} {n : Nat} {σ : SN} {rg : Nat → SN} {nx na : Nat} {γ : SN} {gn : Nat} {sl : Nat → SN} {sf : Nat → Bool} {sd : Int64} (hF : Fok F) (hC : CR I J tx tl ρ n σ rg nx na γ gn sl sf sd) (hO : OKS t tx tl ρ n σ rg nx na γ gn sl sf) (ht : t + 100 ≤ 1000) : Sp 90 [vR 1] KK I J F (PQ (q_street tx tl ρ n σ rg nx na γ gn sl sf sd) I J F) := by
  have hC0 := hC
  obtain ⟨hCT, hR, hA, hCA, hG, hCS, hsd⟩ := hC
  obtain ⟨ht40, hx256, hρ, hok, hrg, hnx, hna, hgo, hsl, hz, hzr, hzs, hn6⟩ := hO
  refine Sp.mk2 (Nat.le_of_ble_eq_true rfl) (L2 := [_]) rfl ?_
  refine wp_aload_n (pc := 0) (i := 0) d_90_0 rfl rfl ?_
  refine wp_gA (pc := 1) d_90_1 fl_9_19 rfl ft_8_1 (F_1_1 hF) ?_
  refine wp_aload_n (pc := 4) (i := 0) d_90_4 rfl rfl ?_
  refine wp_gA (pc := 5) d_90_5 fl_9_10 rfl ft_8_0 (F_1_0 hF) ?_
  refine wp_callV1e (pc := 8) d_90_8 lk_9_88 (by decide) rfl (Nat.le_of_ble_eq_true rfl) rfl rfl (c_faultIn hF ht40 hx256 hCT.1 hCT.2) (fun Iq8 hq8 => ?_)
  refine wp_bipush (pc := 11) (v := (-9)) d_90_11 (by decide) ?_
  refine wp_icmp_eq (pc := 13) (tgt := 19) d_90_13 (by decide) (fun zq13 => ?_) (fun zq13 => ?_)
  · obtain ⟨mz, hmz⟩ : ∃ mz, (fltN tx tl).2 = some mz := by
      rcases fin_cases tx ht40 tl 0 PS0 (by omega) with h | h
      · exact h.2
      · exact absurd zq13 h.1
    have hm5 := hq8.2 mz hmz
    have hof8 := hq8.1
    refine wp_aload_n (pc := 19) (i := 0) d_90_19 rfl rfl ?_
    refine wp_gA (pc := 20) d_90_20 fl_9_26 rfl ft_8_2 (F_1_2 hF) ?_
    refine wp_aload_n (pc := 23) (i := 0) d_90_23 rfl rfl ?_
    refine wp_gA (pc := 24) d_90_24 fl_9_19 rfl ft_8_1 (F_1_1 hF) ?_
    refine wp_callV0p (pc := 27) d_90_27 lk_9_92 (by decide) rfl (Nat.le_of_ble_eq_true rfl) rfl rfl (c_told hF) ?_
    refine wp_callV1v (pc := 30) d_90_30 lk_9_96 (by decide) rfl (Nat.le_of_ble_eq_true rfl) (kR isR12) rfl (c_Rbecome hF hm5.1.1) (fun Iq30 hq30 => ?_)
    have hR30 : atR Iq30 12 mz.2.1 mz.1 := hq30.1
    refine wp_aload_n (pc := 33) (i := 0) d_90_33 rfl rfl ?_
    refine wp_gA (pc := 34) d_90_34 fl_9_33 rfl ft_8_3 (F_1_3 hF) ?_
    refine wp_aload_n (pc := 37) (i := 0) d_90_37 rfl rfl ?_
    refine wp_gA (pc := 38) d_90_38 fl_9_26 rfl ft_8_2 (F_1_2 hF) ?_
    refine wp_callV1v (pc := 41) d_90_41 lk_9_100 (by decide) rfl (Nat.le_of_ble_eq_true rfl) (kW isW18) rfl (c_beginOn hF isW18 isR12 hR30) (fun Iq41 hq41 => ?_)
    refine wp_aload_n (pc := 44) (i := 0) d_90_44 rfl rfl ?_
    refine wp_gA (pc := 45) d_90_45 fl_9_40 rfl ft_8_4 (F_1_4 hF) ?_
    refine wp_callV0v (pc := 48) d_90_48 lk_9_103 (by decide) rfl (Nat.le_of_ble_eq_true rfl) rfl rfl (c_forgetAll) (fun Iq48 hq48 => ?_)
    refine wp_aload_n (pc := 51) (i := 0) d_90_51 rfl rfl ?_
    refine wp_gA (pc := 52) d_90_52 fl_9_65 rfl ft_8_7 (F_1_7 hF) ?_
    refine wp_callV0v (pc := 55) d_90_55 lk_9_106 (by decide) rfl (Nat.le_of_ble_eq_true rfl) (kS (Or.inr (Or.inr ⟨rfl, rfl⟩))).1 rfl (c_empty hF (s := 155) (n := 2) (Or.inr (Or.inr ⟨rfl, rfl⟩))) (fun Iq55 hq55 => ?_)
    have hR62 : atR Iq55 12 mz.2.1 mz.1 := atR_keep hR30 (fun a _ _ => by rw [hq55.2 a (by omega), hq48.2 a (by omega), hq41.2 a (by omega)])
    refine wp_aload_n (pc := 58) (i := 0) d_90_58 rfl rfl ?_
    refine wp_gA (pc := 59) d_90_59 fl_9_26 rfl ft_8_2 (F_1_2 hF) ?_
    refine wp_callV0p (pc := 62) d_90_62 lk_9_109 (by decide) rfl (Nat.le_of_ble_eq_true rfl) (kR isR12) rfl (c_Rnumber isR12 hR62) ?_
    have hoff : ∀ a, (a < 4 ∨ 23 < a) → a ≠ 162 → Iq55 a = I a := fun a ha h162 => by rw [hq55.2 a h162, hq48.2 a (by omega), hq41.2 a (by omega), hq30.2 a (by omega), hof8 a (by omega)]
    refine wp_iret (pc := 65) d_90_65 (Or.inl rfl) (PQ.mk (by unfold q_street; rw [hmz]; rfl) ⟨?_, ?_, ?_, ⟨?_, ?_, ?_⟩, ?_, ⟨?_, ?_⟩, hsd⟩ ⟨fun a ha => hoff a (by omega) (by omega), rfl⟩)
    · exact hCT.k (fun a _ _ => hoff a (by omega) (by omega))
    · exact hR62
    · exact atWk hq41.1 (fun a _ _ => by rw [hq55.2 a (by omega), hq48.2 a (by omega)])
    · rw [hq55.2 23 (by omega), hq48.ne (by decide), hq41.2 23 (by omega), hq30.2 23 (by omega), hof8 23 (by omega)]; exact hCA.1
    · rw [hq55.2 23 (by omega)]; exact hq48.at
    · exact fun i hi => atWk (hCA.2.2 i hi) (fun a _ _ => hoff a (by omega) (by omega))
    · exact hG.k (fun a _ _ => hoff a (by omega) (by omega)) (by rw [hoff 151 (by omega) (by omega)])
    · exact fun i hi => atWk (hCS.1 i hi) (fun a _ _ => hoff a (by omega) (by omega))
    · exact fun i hi => hq55.1 i hi
  · refine wp_bipush (pc := 16) (v := (-3)) d_90_16 (by decide) ?_
    have hnn : (fltN tx tl).2 = none := by
      rcases fin_cases tx ht40 tl 0 PS0 (by omega) with h | h
      · exact absurd h.1 zq13
      · exact h.2
    exact wp_iret (pc := 18) d_90_18 (Or.inl rfl) (PQ.mk (by unfold q_street; rw [hnn]; rfl) (hC0.k (SCR.D hq8.1)) (SCR.D hq8.1).O)
def rfT (ρ : SN) (σ : SN) (j : Nat) : Nat → Int32
  | 0 => nI (σ 0 j)
  | 1 => nI (σ 1 j)
  | 2 => nI (σ 2 j)
  | 3 => nI (σ 3 j)
  | 4 => b2 (enN ρ σ j)
  | 5 => b2 ((σ 4 7).testBit j)
  | 6 => nI (ρ 0 j)
  | 7 => nI (ρ 1 j)
  | 8 => nI (ρ 2 j)
  | 9 => nI (ρ 3 j)
  | _ => -2
def a_roof (ρ : SN) (n : Nat) (σ : SN) (x y : Int32) : Int32 := if inR x n = true then (if inR y 10 = true then rfT ρ σ x.toNatClampNeg y.toNatClampNeg else -2) else -1
theorem inR_f {x : Int32} {n : Nat} (h : inR x n = false) (hn : n < 2 ^ 31) : x.toInt < 0 ∨ (n : Int) - 1 < x.toInt := by
  unfold inR at h
  have := of_decide_eq_false h
  omega
theorem lt10 {j : Nat} (h : j < 10) : j = 0 ∨ j = 1 ∨ j = 2 ∨ j = 3 ∨ j = 4 ∨ j = 5 ∨ j = 6 ∨ j = 7 ∨ j = 8 ∨ j = 9 := by omega
set_option maxRecDepth 4000 in
theorem c_groof {I : IT} {J : JT} {F : FT} {t : Nat} {tx : Nat → Nat} {tl : Nat} {ρ : SN} {n : Nat} {σ : SN} {rg : Nat → SN} {nx na : Nat} {γ : SN} {gn : Nat} {sl : Nat → SN} {sf : Nat → Bool} {sd : Int64} (hF : Fok F) (hC : CR I J tx tl ρ n σ rg nx na γ gn sl sf sd) (hO : OKS t tx tl ρ n σ rg nx na γ gn sl sf) (ht : t + 100 ≤ 1000) {x y : Int32} : Sp 91 [vR 1, vI x, vI y] KK I J F (PQ (a_roof ρ n σ x y, (tx, tl, ρ, n, σ, rg, nx, na, γ, gn, sl, sf, sd)) I J F) := by
  have hC0 := hC
  obtain ⟨hCT, hR, hA, hCA, hG, hCS, hsd⟩ := hC
  obtain ⟨ht40, hx256, hρ, hok, hrg, hnx, hna, hgo, hsl, hz, hzr, hzs, hn6⟩ := hO
  refine Sp.mk2 (Nat.le_of_ble_eq_true rfl) (L2 := [_, _, _]) rfl ?_
  refine wp_aload_n (pc := 0) (i := 0) d_91_0 rfl rfl ?_
  refine wp_gA (pc := 1) d_91_1 fl_9_26 rfl ft_8_2 (F_1_2 hF) ?_
  refine wp_iload_n (pc := 4) (i := 1) d_91_4 rfl rfl ?_
  refine wp_callV1p (pc := 5) d_91_5 lk_9_112 (by decide) rfl (Nat.le_of_ble_eq_true rfl) (kR isR12) rfl (c_has isR12 hR x) ?_
  refine wp_ifB_ne (pc := 8) (tgt := 13) d_91_8 (by decide) (fun zq8 => ?_) (fun zq8 => ?_)
  · obtain ⟨jr, hjr, hxjr⟩ := inR_t zq8 (by omega)
    subst hxjr
    have hcjr : (nI jr).toNatClampNeg = jr := nI_clamp (by omega)
    refine wp_iload_n (pc := 13) (i := 2) d_91_13 rfl rfl ?_
    by_cases hz10 : inR y 10 = true
    · obtain ⟨jw, hjw, hxw⟩ := inR_t hz10 (by decide)
      subst hxw
      rcases lt10 hjw with rfl | rfl | rfl | rfl | rfl | rfl | rfl | rfl | rfl | rfl
      · refine wp_tabIn (pc := 14) (tgt := 68) d_91_14 (by decide) (by decide) rfl (by decide) ?_
        refine wp_aload_n (pc := 68) (i := 0) d_91_68 rfl rfl ?_
        refine wp_gA (pc := 69) d_91_69 fl_9_33 rfl ft_8_3 (F_1_3 hF) ?_
        refine wp_iload_n (pc := 72) (i := 1) d_91_72 rfl rfl ?_
        refine wp_callV1p (pc := 73) d_91_73 lk_9_115 (by decide) rfl (Nat.le_of_ble_eq_true rfl) (kW isW18) rfl (c_waterOn hF isW18 (by omega) (hA.1 0 (by decide) jr (by omega))) ?_
        exact wp_iret (pc := 76) d_91_76 (Or.inl rfl) (PQ.q (by unfold a_roof; rw [if_pos zq8, if_pos hz10, hcjr]; rfl) hC0 ⟨fun _ _ => rfl, rfl⟩)
      · refine wp_tabIn (pc := 14) (tgt := 77) d_91_14 (by decide) (by decide) rfl (by decide) ?_
        refine wp_aload_n (pc := 77) (i := 0) d_91_77 rfl rfl ?_
        refine wp_gA (pc := 78) d_91_78 fl_9_33 rfl ft_8_3 (F_1_3 hF) ?_
        refine wp_iload_n (pc := 81) (i := 1) d_91_81 rfl rfl ?_
        refine wp_callV1p (pc := 82) d_91_82 lk_9_119 (by decide) rfl (Nat.le_of_ble_eq_true rfl) (kW isW18) rfl (c_soapOn hF isW18 (by omega) (hA.1 1 (by decide) jr (by omega))) ?_
        exact wp_iret (pc := 85) d_91_85 (Or.inl rfl) (PQ.q (by unfold a_roof; rw [if_pos zq8, if_pos hz10, hcjr]; rfl) hC0 ⟨fun _ _ => rfl, rfl⟩)
      · refine wp_tabIn (pc := 14) (tgt := 86) d_91_14 (by decide) (by decide) rfl (by decide) ?_
        refine wp_aload_n (pc := 86) (i := 0) d_91_86 rfl rfl ?_
        refine wp_gA (pc := 87) d_91_87 fl_9_33 rfl ft_8_3 (F_1_3 hF) ?_
        refine wp_iload_n (pc := 90) (i := 1) d_91_90 rfl rfl ?_
        refine wp_callV1p (pc := 91) d_91_91 lk_9_122 (by decide) rfl (Nat.le_of_ble_eq_true rfl) (kW isW18) rfl (c_gotBy hF isW18 (by omega) (hA.1 2 (by decide) jr (by omega))) ?_
        exact wp_iret (pc := 94) d_91_94 (Or.inl rfl) (PQ.q (by unfold a_roof; rw [if_pos zq8, if_pos hz10, hcjr]; rfl) hC0 ⟨fun _ _ => rfl, rfl⟩)
      · refine wp_tabIn (pc := 14) (tgt := 95) d_91_14 (by decide) (by decide) rfl (by decide) ?_
        refine wp_aload_n (pc := 95) (i := 0) d_91_95 rfl rfl ?_
        refine wp_gA (pc := 96) d_91_96 fl_9_33 rfl ft_8_3 (F_1_3 hF) ?_
        refine wp_iload_n (pc := 99) (i := 1) d_91_99 rfl rfl ?_
        refine wp_callV1p (pc := 100) d_91_100 lk_9_125 (by decide) rfl (Nat.le_of_ble_eq_true rfl) (kW isW18) rfl (c_spoiltOn hF isW18 (by omega) (hA.1 3 (by decide) jr (by omega))) ?_
        exact wp_iret (pc := 103) d_91_103 (Or.inl rfl) (PQ.q (by unfold a_roof; rw [if_pos zq8, if_pos hz10, hcjr]; rfl) hC0 ⟨fun _ _ => rfl, rfl⟩)
      · refine wp_tabIn (pc := 14) (tgt := 104) d_91_14 (by decide) (by decide) rfl (by decide) ?_
        refine wp_aload_n (pc := 104) (i := 0) d_91_104 rfl rfl ?_
        refine wp_gA (pc := 105) d_91_105 fl_9_33 rfl ft_8_3 (F_1_3 hF) ?_
        refine wp_aload_n (pc := 108) (i := 0) d_91_108 rfl rfl ?_
        refine wp_gA (pc := 109) d_91_109 fl_9_26 rfl ft_8_2 (F_1_2 hF) ?_
        refine wp_iload_n (pc := 112) (i := 1) d_91_112 rfl rfl ?_
        refine wp_callV2p (pc := 113) d_91_113 lk_9_128 (by decide) rfl (Nat.le_of_ble_eq_true rfl) (kW isW18) rfl (c_isContent hF isW18 isR12 hA hR hjr (hρ 2 jr) (hok.g (by omega) jr (by omega))) ?_
        refine wp_ifB_eq (pc := 116) (tgt := 123) d_91_116 (by decide) (fun zq116 => ?_) (fun zq116 => ?_)
        · refine wp_icN (pc := 123) (m := 0) d_91_123 (by decide) ?_
          exact wp_iret (pc := 124) d_91_124 (Or.inl rfl) (PQ.q (by unfold a_roof; rw [if_pos zq8, if_pos hz10, hcjr]; show b2 (decide (ρ 2 jr ≤ σ 2 jr)) = _; rw [show decide (ρ 2 jr ≤ σ 2 jr) = false from zq116]; rfl) hC0 ⟨fun _ _ => rfl, rfl⟩)
        · refine wp_icN (pc := 119) (m := 1) d_91_119 (by decide) ?_
          refine wp_goto (pc := 120) (tgt := 124) d_91_120 (by decide) ?_
          exact wp_iret (pc := 124) d_91_124 (Or.inl rfl) (PQ.q (by unfold a_roof; rw [if_pos zq8, if_pos hz10, hcjr]; show b2 (decide (ρ 2 jr ≤ σ 2 jr)) = _; rw [show decide (ρ 2 jr ≤ σ 2 jr) = true from zq116]; rfl) hC0 ⟨fun _ _ => rfl, rfl⟩)
      · refine wp_tabIn (pc := 14) (tgt := 125) d_91_14 (by decide) (by decide) rfl (by decide) ?_
        refine wp_aload_n (pc := 125) (i := 0) d_91_125 rfl rfl ?_
        refine wp_gA (pc := 126) d_91_126 fl_9_33 rfl ft_8_3 (F_1_3 hF) ?_
        refine wp_callV0p (pc := 129) d_91_129 lk_9_132 (by decide) rfl (Nat.le_of_ble_eq_true rfl) (kW isW18) rfl (c_damBits isW18 (hA.2 7 (by decide) (by decide))) ?_
        refine wp_iload_n (pc := 132) (i := 1) d_91_132 rfl rfl ?_
        refine wp_callS2p (pc := 133) d_91_133 lk_9_135 (by decide) rfl (Nat.le_of_ble_eq_true rfl) (c_holds hok.2.2.2.2.2 (by omega)) ?_
        refine wp_ifB_eq (pc := 136) (tgt := 143) d_91_136 (by decide) (fun zq136 => ?_) (fun zq136 => ?_)
        · refine wp_icN (pc := 143) (m := 0) d_91_143 (by decide) ?_
          exact wp_iret (pc := 144) d_91_144 (Or.inl rfl) (PQ.q (by unfold a_roof; rw [if_pos zq8, if_pos hz10, hcjr]; show b2 ((σ 4 7).testBit jr) = _; rw [show (σ 4 7).testBit jr = false from zq136]; rfl) hC0 ⟨fun _ _ => rfl, rfl⟩)
        · refine wp_icN (pc := 139) (m := 1) d_91_139 (by decide) ?_
          refine wp_goto (pc := 140) (tgt := 144) d_91_140 (by decide) ?_
          exact wp_iret (pc := 144) d_91_144 (Or.inl rfl) (PQ.q (by unfold a_roof; rw [if_pos zq8, if_pos hz10, hcjr]; show b2 ((σ 4 7).testBit jr) = _; rw [show (σ 4 7).testBit jr = true from zq136]; rfl) hC0 ⟨fun _ _ => rfl, rfl⟩)
      · refine wp_tabIn (pc := 14) (tgt := 145) d_91_14 (by decide) (by decide) rfl (by decide) ?_
        refine wp_aload_n (pc := 145) (i := 0) d_91_145 rfl rfl ?_
        refine wp_gA (pc := 146) d_91_146 fl_9_26 rfl ft_8_2 (F_1_2 hF) ?_
        refine wp_iload_n (pc := 149) (i := 1) d_91_149 rfl rfl ?_
        refine wp_callV1p (pc := 150) d_91_150 lk_9_139 (by decide) rfl (Nat.le_of_ble_eq_true rfl) (kR isR12) rfl (c_soilOf hF isR12 hR hjr) ?_
        exact wp_iret (pc := 153) d_91_153 (Or.inl rfl) (PQ.q (by unfold a_roof; rw [if_pos zq8, if_pos hz10, hcjr]; rfl) hC0 ⟨fun _ _ => rfl, rfl⟩)
      · refine wp_tabIn (pc := 14) (tgt := 154) d_91_14 (by decide) (by decide) rfl (by decide) ?_
        refine wp_aload_n (pc := 154) (i := 0) d_91_154 rfl rfl ?_
        refine wp_gA (pc := 155) d_91_155 fl_9_26 rfl ft_8_2 (F_1_2 hF) ?_
        refine wp_iload_n (pc := 158) (i := 1) d_91_158 rfl rfl ?_
        refine wp_callV1p (pc := 159) d_91_159 lk_9_142 (by decide) rfl (Nat.le_of_ble_eq_true rfl) (kR isR12) rfl (c_gutterOf hF isR12 hR hjr) ?_
        exact wp_iret (pc := 162) d_91_162 (Or.inl rfl) (PQ.q (by unfold a_roof; rw [if_pos zq8, if_pos hz10, hcjr]; rfl) hC0 ⟨fun _ _ => rfl, rfl⟩)
      · refine wp_tabIn (pc := 14) (tgt := 163) d_91_14 (by decide) (by decide) rfl (by decide) ?_
        refine wp_aload_n (pc := 163) (i := 0) d_91_163 rfl rfl ?_
        refine wp_gA (pc := 164) d_91_164 fl_9_26 rfl ft_8_2 (F_1_2 hF) ?_
        refine wp_iload_n (pc := 167) (i := 1) d_91_167 rfl rfl ?_
        refine wp_callV1p (pc := 168) d_91_168 lk_9_145 (by decide) rfl (Nat.le_of_ble_eq_true rfl) (kR isR12) rfl (c_wantOf hF isR12 hR hjr) ?_
        exact wp_iret (pc := 171) d_91_171 (Or.inl rfl) (PQ.q (by unfold a_roof; rw [if_pos zq8, if_pos hz10, hcjr]; rfl) hC0 ⟨fun _ _ => rfl, rfl⟩)
      · refine wp_tabIn (pc := 14) (tgt := 172) d_91_14 (by decide) (by decide) rfl (by decide) ?_
        refine wp_aload_n (pc := 172) (i := 0) d_91_172 rfl rfl ?_
        refine wp_gA (pc := 173) d_91_173 fl_9_26 rfl ft_8_2 (F_1_2 hF) ?_
        refine wp_iload_n (pc := 176) (i := 1) d_91_176 rfl rfl ?_
        refine wp_callV1p (pc := 177) d_91_177 lk_9_148 (by decide) rfl (Nat.le_of_ble_eq_true rfl) (kR isR12) rfl (c_brimOf hF isR12 hR hjr) ?_
        exact wp_iret (pc := 180) d_91_180 (Or.inl rfl) (PQ.q (by unfold a_roof; rw [if_pos zq8, if_pos hz10, hcjr]; rfl) hC0 ⟨fun _ _ => rfl, rfl⟩)
    · have hz11 : inR y 10 = false := by rcases hcs : inR y 10 with _ | _; rfl; exact absurd hcs hz10
      refine wp_tabOut (pc := 14) (tgt := 181) d_91_14 (inR_f hz11 (by decide)) (by decide) ?_
      refine wp_bipush (pc := 181) (v := (-2)) d_91_181 (by decide) ?_
      exact wp_iret (pc := 183) d_91_183 (Or.inl rfl) (PQ.q (by unfold a_roof; rw [if_pos zq8, if_neg hz10]) hC0 ⟨fun _ _ => rfl, rfl⟩)
  · refine wp_iconst (pc := 11) (v := (-1)) d_91_11 (by decide) ?_
    exact wp_iret (pc := 12) d_91_12 (Or.inl rfl) (PQ.q (by unfold a_roof; rw [if_neg (nT zq8)]) hC0 ⟨fun _ _ => rfl, rfl⟩)
