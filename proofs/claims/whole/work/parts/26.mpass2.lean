theorem mW.cong {v : Nat → Int32} {f : Nat} {σ τ : SN} (h : mW v f σ) (e1 : ∀ k, k < 4 → ∀ j, j < 6 → σ k j = τ k j) (e4 : σ 4 4 = τ 4 4) (e5 : σ 4 5 = τ 4 5) : mW v f τ := ⟨fun k hk j hj => by rw [← e1 k hk j hj]; exact h.1 k hk j hj, by rw [← e4]; exact h.2.1, by rw [← e5]; exact h.2.2⟩
/-- the first i roofs have let go -/
def md2 (ρ : SN) (n dm rn : Nat) (σ : SN) (i : Nat) : SN := fun k j =>
  if k < 4 then (if j < n then (if k = 0 then waN ρ rn σ j - (if j < i then goN ρ dm rn σ j else 0) + (if j ≤ i then prv (goN ρ dm rn σ) j else 0) else if k = 1 then saN ρ rn σ j - (if j < i then s2N ρ dm rn σ j else 0) + (if j ≤ i then prv (s2N ρ dm rn σ) j else 0) else if k = 2 then σ 2 j + drN ρ rn σ j else σ 3 j + s1N ρ rn σ j) else σ k j)
  else if j = 4 then σ k 4 + (if i = n then prv (goN ρ dm rn σ) n else 0) else if j = 5 then σ k 5 + (if i = n then prv (s2N ρ dm rn σ) n else 0) else σ k j
theorem md2_a {ρ σ : SN} {n dm rn i j : Nat} (h : j < n) : md2 ρ n dm rn σ i 0 j = waN ρ rn σ j - (if j < i then goN ρ dm rn σ j else 0) + (if j ≤ i then prv (goN ρ dm rn σ) j else 0) := by unfold md2; rw [if_pos (by decide), if_pos h, if_pos rfl]
theorem md2_b {ρ σ : SN} {n dm rn i j : Nat} (h : j < n) : md2 ρ n dm rn σ i 1 j = saN ρ rn σ j - (if j < i then s2N ρ dm rn σ j else 0) + (if j ≤ i then prv (s2N ρ dm rn σ) j else 0) := by unfold md2; rw [if_pos (by decide), if_pos h, if_neg (by decide), if_pos rfl]
theorem md2_i {ρ σ : SN} {n dm rn i i2 k j : Nat} (hk : k < 4) (h : 2 ≤ k ∨ ¬ j < n) : md2 ρ n dm rn σ i k j = md2 ρ n dm rn σ i2 k j := by
  unfold md2
  rw [if_pos hk, if_pos hk]
  by_cases e : j < n
  · rw [if_pos e, if_pos e, if_neg (show ¬ k = 0 by omega), if_neg (show ¬ k = 1 by omega), if_neg (show ¬ k = 0 by omega), if_neg (show ¬ k = 1 by omega)]
  · rw [if_neg e, if_neg e]
theorem md2_44 {ρ σ : SN} {n dm rn i : Nat} : md2 ρ n dm rn σ i 4 4 = σ 4 4 + (if i = n then prv (goN ρ dm rn σ) n else 0) := by unfold md2; rw [if_neg (by decide), if_pos rfl]
theorem md2_45 {ρ σ : SN} {n dm rn i : Nat} : md2 ρ n dm rn σ i 4 5 = σ 4 5 + (if i = n then prv (s2N ρ dm rn σ) n else 0) := by unfold md2; rw [if_neg (by decide), if_neg (by decide), if_pos rfl]
theorem md2_o {ρ σ : SN} {n dm rn i k j : Nat} (hk : k < 4) (h1 : j ≠ i) (h2 : j ≠ i + 1) : md2 ρ n dm rn σ (i + 1) k j = md2 ρ n dm rn σ i k j := by
  by_cases e : 2 ≤ k ∨ ¬ j < n
  · exact md2_i hk e
  · have hk2 : k = 0 ∨ k = 1 := by omega
    have hj : j < n := by omega
    by_cases e3 : j < i
    · rcases hk2 with rfl | rfl
      · rw [md2_a hj, md2_a hj, if_pos e3, if_pos (show j < i + 1 by omega), if_pos (show j ≤ i by omega), if_pos (show j ≤ i + 1 by omega)]
      · rw [md2_b hj, md2_b hj, if_pos e3, if_pos (show j < i + 1 by omega), if_pos (show j ≤ i by omega), if_pos (show j ≤ i + 1 by omega)]
    · rcases hk2 with rfl | rfl
      · rw [md2_a hj, md2_a hj, if_neg e3, if_neg (show ¬ j < i + 1 by omega), if_neg (show ¬ j ≤ i by omega), if_neg (show ¬ j ≤ i + 1 by omega)]
      · rw [md2_b hj, md2_b hj, if_neg e3, if_neg (show ¬ j < i + 1 by omega), if_neg (show ¬ j ≤ i by omega), if_neg (show ¬ j ≤ i + 1 by omega)]
theorem md2_start {v : Nat → Int32} {ρ σ : SN} {n dm rn f : Nat} (h : mW v f (md1 ρ rn σ n)) : mW v f (md2 ρ n dm rn σ 0) := by
  have p0 : ∀ (g : Nat → Nat) (j : Nat), (if j ≤ 0 then prv g j else 0) = 0 := fun g j => by
    by_cases e : j ≤ 0
    · rw [if_pos e, show j = 0 by omega]; rfl
    · rw [if_neg e]
  refine h.cong (fun k hk j hj => ?_) ?_ ?_
  · by_cases e : j < n
    · rcases lt4 hk with rfl | rfl | rfl | rfl
      · rw [md2_a e, p0, if_neg (by omega)]; unfold md1; rw [if_pos ⟨e, hk⟩]; rfl
      · rw [md2_b e, p0, if_neg (by omega)]; unfold md1; rw [if_pos ⟨e, hk⟩]; rfl
      · unfold md1 md2; rw [if_pos ⟨e, hk⟩, if_pos hk, if_pos e]; rfl
      · unfold md1 md2; rw [if_pos ⟨e, hk⟩, if_pos hk, if_pos e]; rfl
    · rw [md1_ge e]; unfold md2; rw [if_pos hk, if_neg e]
  · rw [md1_4, md2_44]
    by_cases e : 0 = n
    · rw [if_pos e, ← e]; rfl
    · rw [if_neg e]; rfl
  · rw [md1_4, md2_45]
    by_cases e : 0 = n
    · rw [if_pos e, ← e]; rfl
    · rw [if_neg e]; rfl
theorem md2_end {v : Nat → Int32} {ρ σ : SN} {n dm rn f : Nat} (h : mW v f (md2 ρ n dm rn σ n)) : mW v f (passN ρ n dm rn σ) := by
  refine h.cong (fun k hk j hj => ?_) ?_ ?_
  · by_cases e : j < n
    · rcases lt4 hk with rfl | rfl | rfl | rfl
      · rw [md2_a e, if_pos e, if_pos (by omega), pass0 e]
      · rw [md2_b e, if_pos e, if_pos (by omega), pass1 e]
      · simp [passN, md2, e]
      · simp [passN, md2, e]
    · rw [passO hk e]; unfold md2; rw [if_pos hk, if_neg e]
  · rw [md2_44, if_pos rfl, pass44]
  · rw [md2_45, if_pos rfl, pass45]
theorem md2_cur {ρ σ : SN} {n dm rn i : Nat} (h : i < n) : md2 ρ n dm rn σ i 0 i = waN ρ rn σ i + prv (goN ρ dm rn σ) i ∧ md2 ρ n dm rn σ i 1 i = saN ρ rn σ i + prv (s2N ρ dm rn σ) i ∧ md2 ρ n dm rn σ i 4 4 = σ 4 4 ∧ md2 ρ n dm rn σ i 4 5 = σ 4 5 := by
  refine ⟨?_, ?_, ?_, ?_⟩
  · rw [md2_a h, if_neg (by omega), if_pos (by omega)]; rfl
  · rw [md2_b h, if_neg (by omega), if_pos (by omega)]; rfl
  · rw [md2_44, if_neg (by omega)]; rfl
  · rw [md2_45, if_neg (by omega)]; rfl
theorem md2_nxt {ρ σ : SN} {n dm rn i : Nat} (h : i + 1 < n) : md2 ρ n dm rn σ i 0 (i + 1) = waN ρ rn σ (i + 1) ∧ md2 ρ n dm rn σ i 1 (i + 1) = saN ρ rn σ (i + 1) := by
  refine ⟨?_, ?_⟩
  · rw [md2_a h, if_neg (by omega), if_neg (by omega)]; rfl
  · rw [md2_b h, if_neg (by omega), if_neg (by omega)]; rfl
theorem md2_mid {v v2 : Nat → Int32} {ρ σ : SN} {n dm rn i f : Nat} (hn6 : n ≤ 6) (hi : i + 1 < n) (h : mW v f (md2 ρ n dm rn σ i)) (e0 : v2 (f + i) = nI (waN ρ rn σ i + prv (goN ρ dm rn σ) i - goN ρ dm rn σ i)) (e1 : v2 (f + 6 + i) = nI (saN ρ rn σ i + prv (s2N ρ dm rn σ) i - s2N ρ dm rn σ i)) (e2 : v2 (f + i + 1) = nI (waN ρ rn σ (i + 1) + goN ρ dm rn σ i)) (e3 : v2 (f + i + 1 + 6) = nI (saN ρ rn σ (i + 1) + s2N ρ dm rn σ i))
    (eo : ∀ q, q ≠ f + i → q ≠ f + 6 + i → q ≠ f + i + 1 → q ≠ f + i + 1 + 6 → v2 q = v q) : mW v2 f (md2 ρ n dm rn σ (i + 1)) := by
  have hg := go_le ρ dm rn σ i
  have hs := s2_le ρ dm rn σ i
  refine ⟨fun k hk j hj => ?_, ?_, ?_⟩
  · by_cases ek : 2 ≤ k
    · rw [eo _ (by omega) (by omega) (by omega) (by omega), h.1 k hk j hj, md2_i (i2 := i + 1) hk (Or.inl ek)]
    · by_cases ej : j = i
      · subst ej
        have hk2 : k = 0 ∨ k = 1 := by omega
        rcases hk2 with rfl | rfl
        · rw [md2_a (by omega), if_pos (by omega), if_pos (by omega)]; exact e0.trans (congrArg nI (by omega))
        · rw [md2_b (by omega), if_pos (by omega), if_pos (by omega)]; exact e1.trans (congrArg nI (by omega))
      · by_cases ej2 : j = i + 1
        · subst ej2
          have hk2 : k = 0 ∨ k = 1 := by omega
          rcases hk2 with rfl | rfl
          · rw [md2_a hi, if_neg (by omega), if_pos (by omega), prv_s]; exact e2
          · rw [md2_b hi, if_neg (by omega), if_pos (by omega), prv_s]; exact (congrArg v2 (by omega)).trans e3
        · rw [eo _ (by omega) (by omega) (by omega) (by omega), h.1 k hk j hj, md2_o hk ej ej2]
  · rw [eo _ (by omega) (by omega) (by omega) (by omega), h.2.1, md2_44, md2_44, if_neg (by omega), if_neg (by omega)]
  · rw [eo _ (by omega) (by omega) (by omega) (by omega), h.2.2, md2_45, md2_45, if_neg (by omega), if_neg (by omega)]
theorem md2_last {v v2 : Nat → Int32} {ρ σ : SN} {n dm rn i f : Nat} (hn6 : n ≤ 6) (hi : i + 1 = n) (h : mW v f (md2 ρ n dm rn σ i)) (e0 : v2 (f + i) = nI (waN ρ rn σ i + prv (goN ρ dm rn σ) i - goN ρ dm rn σ i)) (e1 : v2 (f + 6 + i) = nI (saN ρ rn σ i + prv (s2N ρ dm rn σ) i - s2N ρ dm rn σ i)) (e2 : v2 (f + 24) = nI (σ 4 4 + goN ρ dm rn σ i)) (e3 : v2 (f + 25) = nI (σ 4 5 + s2N ρ dm rn σ i))
    (eo : ∀ q, q ≠ f + i → q ≠ f + 6 + i → q ≠ f + 24 → q ≠ f + 25 → v2 q = v q) : mW v2 f (md2 ρ n dm rn σ (i + 1)) := by
  have hg := go_le ρ dm rn σ i
  have hs := s2_le ρ dm rn σ i
  refine ⟨fun k hk j hj => ?_, ?_, ?_⟩
  · by_cases ek : 2 ≤ k
    · rw [eo _ (by omega) (by omega) (by omega) (by omega), h.1 k hk j hj, md2_i (i2 := i + 1) hk (Or.inl ek)]
    · by_cases ej : j = i
      · subst ej
        have hk2 : k = 0 ∨ k = 1 := by omega
        rcases hk2 with rfl | rfl
        · rw [md2_a (by omega), if_pos (by omega), if_pos (by omega)]; exact e0.trans (congrArg nI (by omega))
        · rw [md2_b (by omega), if_pos (by omega), if_pos (by omega)]; exact e1.trans (congrArg nI (by omega))
      · by_cases ej2 : j = i + 1
        · rw [eo _ (by omega) (by omega) (by omega) (by omega), h.1 k hk j hj, md2_i (i2 := i + 1) hk (Or.inr (by omega))]
        · rw [eo _ (by omega) (by omega) (by omega) (by omega), h.1 k hk j hj, md2_o hk ej ej2]
  · rw [md2_44, if_pos hi, e2, ← hi, prv_s]
  · rw [md2_45, if_pos hi, e3, ← hi, prv_s]
set_option maxRecDepth 4000 in
theorem mp1_step {Po : RT → Prop} {I0 : IT} {J : JT} {F : FT} {f n dm rn : Nat} {ρ σ : SN} (hF : Fok F) (hRo0 : mRo I0 ρ n) (hρ : ∀ k j, ρ k j ≤ 9) (hf : f ≤ 30) (hdm : dm < 64) (hrn : rn ≤ 9) (hb : ∀ j, j < 6 → σ 0 j < 2 ^ 16 ∧ σ 1 j < 2 ^ 14) (hz : ∀ j, j < 6 → σ 0 j = 0 → σ 1 j = 0) (hk : ∀ (I : IT) (i : Nat) (x5 : Option VV) (x6 : Option VV) (x7 : Option VV) (x8 : Option VV) (x9 : Option VV) (x10 : Option VV), i = n → mW (I 177) f (md1 ρ rn σ n) → (∀ j, j < n → I 180 j = nI (goN ρ dm rn σ j)) → (∀ j, j < n → I 181 j = nI (s2N ρ dm rn σ j)) → (∀ q, (q < f ∨ f + 26 ≤ q) → I 177 q = I0 177 q) → (∀ a, a ≠ 177 → a ≠ 180 → a ≠ 181 → I a = I0 a) → Wp none 135 Po 297 [some (vR 173), some (vI (nI f)), some (vI (nI rn)), some (vI (nI dm)), some (vI (nI i)), x5, x6, x7, x8, x9, x10] [] KK I J F) (i : Nat) (hi0 : i ≤ n) (I : IT) (x5 : Option VV) (x6 : Option VV) (x7 : Option VV) (x8 : Option VV) (x9 : Option VV) (x10 : Option VV) (hW : mW (I 177) f (md1 ρ rn σ i)) (hfl : ∀ j, j < i → I 180 j = nI (goN ρ dm rn σ j)) (hsu : ∀ j, j < i → I 181 j = nI (s2N ρ dm rn σ j)) (ho7 : ∀ q, (q < f ∨ f + 26 ≤ q) → I 177 q = I0 177 q) (hoa : ∀ a, a ≠ 177 → a ≠ 180 → a ≠ 181 → I a = I0 a)
    (ih0 : ∀ i', i < n → i' = i + 1 → ∀ (I : IT) (x5 : Option VV) (x6 : Option VV) (x7 : Option VV) (x8 : Option VV) (x9 : Option VV) (x10 : Option VV), (mW (I 177) f (md1 ρ rn σ i')) → (∀ j, j < i' → I 180 j = nI (goN ρ dm rn σ j)) → (∀ j, j < i' → I 181 j = nI (s2N ρ dm rn σ j)) → (∀ q, (q < f ∨ f + 26 ≤ q) → I 177 q = I0 177 q) → (∀ a, a ≠ 177 → a ≠ 180 → a ≠ 181 → I a = I0 a) → Wp none 135 Po 3 [some (vR 173), some (vI (nI f)), some (vI (nI rn)), some (vI (nI dm)), some (vI (nI i')), x5, x6, x7, x8, x9, x10] [] KK I J F) : Wp none 135 Po 3 [some (vR 173), some (vI (nI f)), some (vI (nI rn)), some (vI (nI dm)), some (vI (nI i)), x5, x6, x7, x8, x9, x10] [] KK I J F := by
  have hn6 := hRo0.1
  have hRo : mRo I ρ n := hRo0.k (by rw [hoa 173 (by decide) (by decide) (by decide)]) (hoa 176 (by decide) (by decide) (by decide))
  refine wp_iload (pc := 3) d_135_3 rfl ?_
  refine wp_aload_n (pc := 5) (i := 0) d_135_5 rfl rfl ?_
  refine wp_gI (pc := 6) d_135_6 fl_10_53 rfl ft_9_5 (hRo.2.1) ?_
  refine wp_icmpN_ge (pc := 9) (tgt := 297) d_135_9 (by decide) (by omega) (by omega) (fun zq9 => ?_) (fun zq9 => ?_)
  · have hin : i = n := by omega
    exact hk I i x5 x6 x7 x8 x9 x10 hin (by rw [hin] at hW; exact hW) (fun j hj => hfl j (by omega)) (fun j hj => hsu j (by omega)) ho7 hoa
  · have h0 : I 177 (f + i) = nI (σ 0 i) := by rw [show f + i = f + 6 * 0 + i by omega, hW.1 0 (by decide) i (by omega), md1_ge (Nat.lt_irrefl i)]
    have h1 : I 177 (f + i + 6) = nI (σ 1 i) := by rw [show f + i + 6 = f + 6 * 1 + i by omega, hW.1 1 (by decide) i (by omega), md1_ge (Nat.lt_irrefl i)]
    have h2 : I 177 (f + i + 12) = nI (σ 2 i) := by rw [show f + i + 12 = f + 6 * 2 + i by omega, hW.1 2 (by decide) i (by omega), md1_ge (Nat.lt_irrefl i)]
    have h3 : I 177 (f + i + 18) = nI (σ 3 i) := by rw [show f + i + 18 = f + 6 * 3 + i by omega, hW.1 3 (by decide) i (by omega), md1_ge (Nat.lt_irrefl i)]
    refine mp12 hF hRo hρ zq9 hf hdm hrn (hb i (by omega)).1 (hb i (by omega)).2 (hz i (by omega)) h0 h1 h2 h3 (fun I2 x5 x6 x7 x8 x9 x10 hh => ?_)
    obtain ⟨g0, g1, g2, g3, g4, g5, g6, g7, g8, g9⟩ := hh
    refine ih0 (i + 1) zq9 rfl I2 x5 x6 x7 x8 x9 x10 (md1_step (by omega) hW g0 g1 g2 g3 g4) (fun j hj => ?_) (fun j hj => ?_) (fun q hq => (g4 q (by omega) (by omega) (by omega) (by omega)).trans (ho7 q hq)) (fun a a1 a2 a3 => (g9 a a1 a2 a3).trans (hoa a a1 a2 a3))
    · by_cases e : j = i
      · rw [e]; exact g5
      · rw [g6 j e]; exact hfl j (by omega)
    · by_cases e : j = i
      · rw [e]; exact g7
      · rw [g8 j e]; exact hsu j (by omega)
theorem mp1_loop {Po : RT → Prop} {I0 : IT} {J : JT} {F : FT} {f n dm rn : Nat} {ρ σ : SN} (hF : Fok F) (hRo0 : mRo I0 ρ n) (hρ : ∀ k j, ρ k j ≤ 9) (hf : f ≤ 30) (hdm : dm < 64) (hrn : rn ≤ 9) (hb : ∀ j, j < 6 → σ 0 j < 2 ^ 16 ∧ σ 1 j < 2 ^ 14) (hz : ∀ j, j < 6 → σ 0 j = 0 → σ 1 j = 0) (hk : ∀ (I : IT) (i : Nat) (x5 : Option VV) (x6 : Option VV) (x7 : Option VV) (x8 : Option VV) (x9 : Option VV) (x10 : Option VV), i = n → mW (I 177) f (md1 ρ rn σ n) → (∀ j, j < n → I 180 j = nI (goN ρ dm rn σ j)) → (∀ j, j < n → I 181 j = nI (s2N ρ dm rn σ j)) → (∀ q, (q < f ∨ f + 26 ≤ q) → I 177 q = I0 177 q) → (∀ a, a ≠ 177 → a ≠ 180 → a ≠ 181 → I a = I0 a) → Wp none 135 Po 297 [some (vR 173), some (vI (nI f)), some (vI (nI rn)), some (vI (nI dm)), some (vI (nI i)), x5, x6, x7, x8, x9, x10] [] KK I J F) : ∀ (d i : Nat), i + d = n → ∀ (I : IT) (x5 : Option VV) (x6 : Option VV) (x7 : Option VV) (x8 : Option VV) (x9 : Option VV) (x10 : Option VV), (mW (I 177) f (md1 ρ rn σ i)) → (∀ j, j < i → I 180 j = nI (goN ρ dm rn σ j)) → (∀ j, j < i → I 181 j = nI (s2N ρ dm rn σ j)) → (∀ q, (q < f ∨ f + 26 ≤ q) → I 177 q = I0 177 q) → (∀ a, a ≠ 177 → a ≠ 180 → a ≠ 181 → I a = I0 a) → Wp none 135 Po 3 [some (vR 173), some (vI (nI f)), some (vI (nI rn)), some (vI (nI dm)), some (vI (nI i)), x5, x6, x7, x8, x9, x10] [] KK I J F := by
  intro d
  induction d with
  | zero =>
    intro i hid I x5 x6 x7 x8 x9 x10 hW hfl hsu ho7 hoa
    exact mp1_step hF hRo0 hρ hf hdm hrn hb hz hk i (by omega) I x5 x6 x7 x8 x9 x10 hW hfl hsu ho7 hoa (fun i' hlt => absurd hlt (by omega))
  | succ d ih =>
    intro i hid I x5 x6 x7 x8 x9 x10 hW hfl hsu ho7 hoa
    exact mp1_step hF hRo0 hρ hf hdm hrn hb hz hk i (by omega) I x5 x6 x7 x8 x9 x10 hW hfl hsu ho7 hoa (fun i' hlt he => ih i' (by omega))

set_option maxRecDepth 4000 in
theorem mp2_step {I0 : IT} {J : JT} {F : FT} {f n dm rn : Nat} {ρ σ : SN} (hF : Fok F) (hRo0 : mRo I0 ρ n) (hρ : ∀ k j, ρ k j ≤ 9) (hf : f ≤ 30) (hdm : dm < 64) (hrn : rn ≤ 9) (hb : ∀ j, j < 6 → σ 0 j < 2 ^ 16 ∧ σ 1 j < 2 ^ 14) (hz : ∀ j, j < 6 → σ 0 j = 0 → σ 1 j = 0) (i : Nat) (hi0 : i ≤ n) (I : IT) (x5 : Option VV) (x6 : Option VV) (x7 : Option VV) (x8 : Option VV) (x9 : Option VV) (x10 : Option VV) (hW : mW (I 177) f (md2 ρ n dm rn σ i)) (hfl : ∀ j, j < n → I 180 j = nI (goN ρ dm rn σ j)) (hsu : ∀ j, j < n → I 181 j = nI (s2N ρ dm rn σ j)) (ho7 : ∀ q, (q < f ∨ f + 26 ≤ q) → I 177 q = I0 177 q) (hoa : ∀ a, a ≠ 177 → a ≠ 180 → a ≠ 181 → I a = I0 a)
    (ih0 : ∀ i', i < n → i' = i + 1 → ∀ (I : IT) (x5 : Option VV) (x6 : Option VV) (x7 : Option VV) (x8 : Option VV) (x9 : Option VV) (x10 : Option VV), (mW (I 177) f (md2 ρ n dm rn σ i')) → (∀ j, j < n → I 180 j = nI (goN ρ dm rn σ j)) → (∀ j, j < n → I 181 j = nI (s2N ρ dm rn σ j)) → (∀ q, (q < f ∨ f + 26 ≤ q) → I 177 q = I0 177 q) → (∀ a, a ≠ 177 → a ≠ 180 → a ≠ 181 → I a = I0 a) → Wp none 135 (fun R => ∃ I2, R = (some (vI (nI (prv (goN ρ dm rn σ) n))), KK, I2, J, F) ∧ mW (I2 177) f (passN ρ n dm rn σ) ∧ (∀ q, (q < f ∨ f + 26 ≤ q) → I2 177 q = I0 177 q) ∧ ∀ a, a ≠ 177 → a ≠ 180 → a ≠ 181 → I2 a = I0 a) 300 [some (vR 173), some (vI (nI f)), some (vI (nI rn)), some (vI (nI dm)), some (vI (nI i')), x5, x6, x7, x8, x9, x10] [] KK I J F) : Wp none 135 (fun R => ∃ I2, R = (some (vI (nI (prv (goN ρ dm rn σ) n))), KK, I2, J, F) ∧ mW (I2 177) f (passN ρ n dm rn σ) ∧ (∀ q, (q < f ∨ f + 26 ≤ q) → I2 177 q = I0 177 q) ∧ ∀ a, a ≠ 177 → a ≠ 180 → a ≠ 181 → I2 a = I0 a) 300 [some (vR 173), some (vI (nI f)), some (vI (nI rn)), some (vI (nI dm)), some (vI (nI i)), x5, x6, x7, x8, x9, x10] [] KK I J F := by
  have hn6 := hRo0.1
  have hRo : mRo I ρ n := hRo0.k (by rw [hoa 173 (by decide) (by decide) (by decide)]) (hoa 176 (by decide) (by decide) (by decide))
  refine wp_iload (pc := 300) d_135_300 rfl ?_
  refine wp_aload_n (pc := 302) (i := 0) d_135_302 rfl rfl ?_
  refine wp_gI (pc := 303) d_135_303 fl_10_53 rfl ft_9_5 hRo.2.1 ?_
  refine wp_icmpN_ge (pc := 306) (tgt := 437) d_135_306 (by decide) (by omega) (by omega) (fun zq306 => ?_) (fun zq306 => ?_)
  · refine wp_aload_n (pc := 437) (i := 0) d_135_437 rfl rfl ?_
    refine wp_gI (pc := 438) d_135_438 fl_10_53 rfl ft_9_5 hRo.2.1 ?_
    refine wp_ifN_ne (pc := 441) (tgt := 448) d_135_441 (by decide) (by omega) (fun zq441 => ?_) (fun zq441 => ?_)
    · refine wp_aload_n (pc := 448) (i := 0) d_135_448 rfl rfl ?_
      refine wp_gA (pc := 449) d_135_449 fl_10_28 rfl ft_9_15 (F_173_15 hF) ?_
      refine wp_aload_n (pc := 452) (i := 0) d_135_452 rfl rfl ?_
      refine wp_gI (pc := 453) d_135_453 fl_10_53 rfl ft_9_5 hRo.2.1 ?_
      refine wp_icN (pc := 456) (m := 1) d_135_456 (by decide) ?_
      refine wp_isubN (pc := 457) d_135_457 (by omega) ?_
      refine wp_aL (pc := 458) (j := (n - 1)) d_135_458 rfl rfl (by omega) (by decide) ((hfl _ (by omega)).trans (congrArg nI (show goN ρ dm rn σ (n - 1) = prv (goN ρ dm rn σ) n by unfold prv; rw [if_neg zq441]))) ?_
      exact wp_iret (pc := 459) d_135_459 (Or.inl rfl) ⟨_, rfl, (md2_end (by rw [show i = n by omega] at hW; exact hW)), ho7, hoa⟩
    · refine wp_icN (pc := 444) (m := 0) d_135_444 (by decide) ?_
      refine wp_goto (pc := 445) (tgt := 459) d_135_445 (by decide) ?_
      exact wp_iret (pc := 459) d_135_459 (Or.inl rfl) ⟨_, by rw [zq441]; rfl, (md2_end (by rw [show i = n by omega] at hW; exact hW)), ho7, hoa⟩
  · have hgo := go_le ρ dm rn σ i
    have hs2 := s2_le ρ dm rn σ i
    have g0 : I 177 (f + i) = nI (waN ρ rn σ i + prv (goN ρ dm rn σ) i) := by rw [← (md2_cur zq306).1]; exact hW.1 0 (by decide) i (by omega)
    have g1 : I 177 (f + 6 + i) = nI (saN ρ rn σ i + prv (s2N ρ dm rn σ) i) := by rw [← (md2_cur zq306).2.1]; exact hW.1 1 (by decide) i (by omega)
    have n0 : i + 1 < n → I 177 (f + i + 1) = nI (waN ρ rn σ (i + 1)) := fun h => by rw [← (md2_nxt h).1]; exact hW.1 0 (by decide) (i + 1) (by omega)
    have n1 : i + 1 < n → I 177 (f + i + 1 + 6) = nI (saN ρ rn σ (i + 1)) := fun h => by rw [← (md2_nxt h).2, show f + i + 1 + 6 = f + 6 * 1 + (i + 1) by omega]; exact hW.1 1 (by decide) (i + 1) (by omega)
    refine wp_aload_n (pc := 309) (i := 0) d_135_309 rfl rfl ?_
    refine wp_gA (pc := 310) d_135_310 fl_10_19 rfl ft_9_4 (F_173_4 hF) ?_
    refine wp_iload_n (pc := 313) (i := 1) d_135_313 rfl rfl ?_
    refine wp_iload (pc := 314) d_135_314 rfl ?_
    refine wp_iaddN (pc := 316) d_135_316 ?_
    refine wp_dup2a (pc := 317) d_135_317 rfl rfl ?_
    refine wp_aL (pc := 318) (j := (f + i)) d_135_318 rfl rfl (by omega) (by decide) g0 ?_
    refine wp_aload_n (pc := 319) (i := 0) d_135_319 rfl rfl ?_
    refine wp_gA (pc := 320) d_135_320 fl_10_28 rfl ft_9_15 (F_173_15 hF) ?_
    refine wp_iload (pc := 323) d_135_323 rfl ?_
    refine wp_aL (pc := 325) (j := i) d_135_325 rfl rfl (by omega) (by decide) (hfl i zq306) ?_
    refine wp_isubN (pc := 326) d_135_326 (by omega) ?_
    refine wp_aS (pc := 327) (j := (f + i)) d_135_327 rfl rfl (by omega) (by decide) (fun Iq327 uq327 => ?_)
    refine wp_aload_n (pc := 328) (i := 0) d_135_328 rfl rfl ?_
    refine wp_gA (pc := 329) d_135_329 fl_10_19 rfl ft_9_4 (F_173_4 hF) ?_
    refine wp_iload_n (pc := 332) (i := 1) d_135_332 rfl rfl ?_
    refine wp_bpN (pc := 333) (m := 6) d_135_333 (by decide) ?_
    refine wp_iaddN (pc := 335) d_135_335 ?_
    refine wp_iload (pc := 336) d_135_336 rfl ?_
    refine wp_iaddN (pc := 338) d_135_338 ?_
    refine wp_dup2a (pc := 339) d_135_339 rfl rfl ?_
    refine wp_aL (pc := 340) (j := ((f + 6) + i)) d_135_340 rfl rfl (by omega) (by decide) ((uq327.ne (by omega)).trans g1) ?_
    refine wp_aload_n (pc := 341) (i := 0) d_135_341 rfl rfl ?_
    refine wp_gA (pc := 342) d_135_342 fl_10_31 rfl ft_9_16 (F_173_16 hF) ?_
    refine wp_iload (pc := 345) d_135_345 rfl ?_
    refine wp_aL (pc := 347) (j := i) d_135_347 rfl rfl (by omega) (by decide) ((uq327.off (by decide)).trans (hsu i zq306)) ?_
    refine wp_isubN (pc := 348) d_135_348 (by omega) ?_
    refine wp_aS (pc := 349) (j := ((f + 6) + i)) d_135_349 rfl rfl (by omega) (by decide) (fun Iq349 uq349 => ?_)
    refine wp_iload (pc := 350) d_135_350 rfl ?_
    refine wp_aload_n (pc := 352) (i := 0) d_135_352 rfl rfl ?_
    refine wp_gI (pc := 353) d_135_353 fl_10_53 rfl ft_9_5 ((congrFun (show Iq349 173 = I 173 by rw [uq349.2 173 (by decide), uq327.2 173 (by decide)]) 5).trans hRo.2.1) ?_
    refine wp_icN (pc := 356) (m := 1) d_135_356 (by decide) ?_
    refine wp_isubN (pc := 357) d_135_357 (by omega) ?_
    refine wp_icmpN_ne (pc := 358) (tgt := 368) d_135_358 (by decide) (by omega) (by omega) (fun zq358 => ?_) (fun zq358 => ?_)
    · refine wp_iload_n (pc := 368) (i := 1) d_135_368 rfl rfl ?_
      refine wp_iload (pc := 369) d_135_369 rfl ?_
      refine wp_iaddN (pc := 371) d_135_371 ?_
      refine wp_icN (pc := 372) (m := 1) d_135_372 (by decide) ?_
      refine wp_iaddN (pc := 373) d_135_373 ?_
      refine wq_istore (pc := 374) (L2 := [_, _, _, _, _, _, _, _, _, _, _]) d_135_374 (Nat.le_of_ble_eq_true rfl) rfl rfl ?_
      refine wp_aload_n (pc := 376) (i := 0) d_135_376 rfl rfl ?_
      refine wp_gA (pc := 377) d_135_377 fl_10_19 rfl ft_9_4 (F_173_4 hF) ?_
      refine wp_iload (pc := 380) d_135_380 rfl ?_
      refine wp_dup2a (pc := 382) d_135_382 rfl rfl ?_
      refine wp_aL (pc := 383) (j := ((f + i) + 1)) d_135_383 rfl rfl (by omega) (by decide) ((uq349.ne (by omega)).trans ((uq327.ne (by omega)).trans (n0 (by omega)))) ?_
      refine wp_aload_n (pc := 384) (i := 0) d_135_384 rfl rfl ?_
      refine wp_gA (pc := 385) d_135_385 fl_10_28 rfl ft_9_15 (F_173_15 hF) ?_
      refine wp_iload (pc := 388) d_135_388 rfl ?_
      refine wp_aL (pc := 390) (j := i) d_135_390 rfl rfl (by omega) (by decide) ((uq349.off (by decide)).trans ((uq327.off (by decide)).trans (hfl i zq306))) ?_
      refine wp_iaddN (pc := 391) d_135_391 ?_
      refine wp_aS (pc := 392) (j := ((f + i) + 1)) d_135_392 rfl rfl (by omega) (by decide) (fun Iq392 uq392 => ?_)
      refine wp_aload_n (pc := 393) (i := 0) d_135_393 rfl rfl ?_
      refine wp_gA (pc := 394) d_135_394 fl_10_19 rfl ft_9_4 (F_173_4 hF) ?_
      refine wp_iload (pc := 397) d_135_397 rfl ?_
      refine wp_aload_n (pc := 399) (i := 0) d_135_399 rfl rfl ?_
      refine wp_gI (pc := 400) d_135_400 fl_10_53 rfl ft_9_5 ((congrFun (show Iq392 173 = I 173 by rw [uq392.2 173 (by decide), uq349.2 173 (by decide), uq327.2 173 (by decide)]) 5).trans hRo.2.1) ?_
      refine wp_icN (pc := 403) (m := 1) d_135_403 (by decide) ?_
      refine wp_isubN (pc := 404) d_135_404 (by omega) ?_
      refine wp_icmpN_ne (pc := 405) (tgt := 415) d_135_405 (by decide) (by omega) (by omega) (fun zq405 => ?_) (fun zq405 => ?_)
      · refine wp_iload (pc := 415) d_135_415 rfl ?_
        refine wp_bpN (pc := 417) (m := 6) d_135_417 (by decide) ?_
        refine wp_iaddN (pc := 419) d_135_419 ?_
        refine wp_dup2a (pc := 420) d_135_420 rfl rfl ?_
        refine wp_aL (pc := 421) (j := (((f + i) + 1) + 6)) d_135_421 rfl rfl (by omega) (by decide) ((uq392.ne (by omega)).trans ((uq349.ne (by omega)).trans ((uq327.ne (by omega)).trans (n1 (by omega))))) ?_
        refine wp_aload_n (pc := 422) (i := 0) d_135_422 rfl rfl ?_
        refine wp_gA (pc := 423) d_135_423 fl_10_31 rfl ft_9_16 (F_173_16 hF) ?_
        refine wp_iload (pc := 426) d_135_426 rfl ?_
        refine wp_aL (pc := 428) (j := i) d_135_428 rfl rfl (by omega) (by decide) ((uq392.off (by decide)).trans ((uq349.off (by decide)).trans ((uq327.off (by decide)).trans (hsu i zq306)))) ?_
        refine wp_iaddN (pc := 429) d_135_429 ?_
        refine wp_aS (pc := 430) (j := (((f + i) + 1) + 6)) d_135_430 rfl rfl (by omega) (by decide) (fun Iq430 uq430 => ?_)
        refine wq_iincN (pc := 431) (L2 := [_, _, _, _, _, _, _, _, _, _, _]) d_135_431 rfl (b := 1) (by decide) rfl rfl ?_
        refine wp_goto (pc := 434) (tgt := 300) d_135_434 (by decide) ?_
        refine ih0 (i + 1) zq306 rfl Iq430 _ _ _ _ _ _ (md2_mid hRo0.1 (by omega) hW ?_ ?_ ?_ ?_ (fun q h1 h2 h3 h4 => by rw [uq430.ne h4, uq392.ne h3, uq349.ne h2, uq327.ne h1])) (fun j hj => ?_) (fun j hj => ?_) (fun q hq => ?_) (fun a a1 a2 a3 => ?_)
        · exact (uq430.ne (by omega)).trans ((uq392.ne (by omega)).trans ((uq349.ne (by omega)).trans uq327.at))
        · exact (uq430.ne (by omega)).trans ((uq392.ne (by omega)).trans uq349.at)
        · exact (uq430.ne (by omega)).trans uq392.at
        · exact uq430.at
        · rw [uq430.off (by decide), uq392.off (by decide), uq349.off (by decide), uq327.off (by decide)]; exact hfl j hj
        · rw [uq430.off (by decide), uq392.off (by decide), uq349.off (by decide), uq327.off (by decide)]; exact hsu j hj
        · rw [uq430.ne (by omega), uq392.ne (by omega), uq349.ne (by omega), uq327.ne (by omega)]; exact ho7 q hq
        · rw [uq430.2 a a1, uq392.2 a a1, uq349.2 a a1, uq327.2 a a1]; exact hoa a a1 a2 a3
      · exact absurd zq405 zq358
    · refine wp_iload_n (pc := 361) (i := 1) d_135_361 rfl rfl ?_
      refine wp_bpN (pc := 362) (m := 24) d_135_362 (by decide) ?_
      refine wp_iaddN (pc := 364) d_135_364 ?_
      refine wp_goto (pc := 365) (tgt := 374) d_135_365 (by decide) ?_
      refine wq_istore (pc := 374) (L2 := [_, _, _, _, _, _, _, _, _, _, _]) d_135_374 (Nat.le_of_ble_eq_true rfl) rfl rfl ?_
      refine wp_aload_n (pc := 376) (i := 0) d_135_376 rfl rfl ?_
      refine wp_gA (pc := 377) d_135_377 fl_10_19 rfl ft_9_4 (F_173_4 hF) ?_
      refine wp_iload (pc := 380) d_135_380 rfl ?_
      refine wp_dup2a (pc := 382) d_135_382 rfl rfl ?_
      refine wp_aL (pc := 383) (j := (f + 24)) d_135_383 rfl rfl (by omega) (by decide) ((uq349.ne (by omega)).trans ((uq327.ne (by omega)).trans (hW.2.1.trans (congrArg nI (md2_cur zq306).2.2.1)))) ?_
      refine wp_aload_n (pc := 384) (i := 0) d_135_384 rfl rfl ?_
      refine wp_gA (pc := 385) d_135_385 fl_10_28 rfl ft_9_15 (F_173_15 hF) ?_
      refine wp_iload (pc := 388) d_135_388 rfl ?_
      refine wp_aL (pc := 390) (j := i) d_135_390 rfl rfl (by omega) (by decide) ((uq349.off (by decide)).trans ((uq327.off (by decide)).trans (hfl i zq306))) ?_
      refine wp_iaddN (pc := 391) d_135_391 ?_
      refine wp_aS (pc := 392) (j := (f + 24)) d_135_392 rfl rfl (by omega) (by decide) (fun Iq392 uq392 => ?_)
      refine wp_aload_n (pc := 393) (i := 0) d_135_393 rfl rfl ?_
      refine wp_gA (pc := 394) d_135_394 fl_10_19 rfl ft_9_4 (F_173_4 hF) ?_
      refine wp_iload (pc := 397) d_135_397 rfl ?_
      refine wp_aload_n (pc := 399) (i := 0) d_135_399 rfl rfl ?_
      refine wp_gI (pc := 400) d_135_400 fl_10_53 rfl ft_9_5 ((congrFun (show Iq392 173 = I 173 by rw [uq392.2 173 (by decide), uq349.2 173 (by decide), uq327.2 173 (by decide)]) 5).trans hRo.2.1) ?_
      refine wp_icN (pc := 403) (m := 1) d_135_403 (by decide) ?_
      refine wp_isubN (pc := 404) d_135_404 (by omega) ?_
      refine wp_icmpN_ne (pc := 405) (tgt := 415) d_135_405 (by decide) (by omega) (by omega) (fun zq405 => ?_) (fun zq405 => ?_)
      · exact absurd zq358 zq405
      · refine wp_iload_n (pc := 408) (i := 1) d_135_408 rfl rfl ?_
        refine wp_bpN (pc := 409) (m := 25) d_135_409 (by decide) ?_
        refine wp_iaddN (pc := 411) d_135_411 ?_
        refine wp_goto (pc := 412) (tgt := 420) d_135_412 (by decide) ?_
        refine wp_dup2a (pc := 420) d_135_420 rfl rfl ?_
        refine wp_aL (pc := 421) (j := (f + 25)) d_135_421 rfl rfl (by omega) (by decide) ((uq392.ne (by omega)).trans ((uq349.ne (by omega)).trans ((uq327.ne (by omega)).trans (hW.2.2.trans (congrArg nI (md2_cur zq306).2.2.2))))) ?_
        refine wp_aload_n (pc := 422) (i := 0) d_135_422 rfl rfl ?_
        refine wp_gA (pc := 423) d_135_423 fl_10_31 rfl ft_9_16 (F_173_16 hF) ?_
        refine wp_iload (pc := 426) d_135_426 rfl ?_
        refine wp_aL (pc := 428) (j := i) d_135_428 rfl rfl (by omega) (by decide) ((uq392.off (by decide)).trans ((uq349.off (by decide)).trans ((uq327.off (by decide)).trans (hsu i zq306)))) ?_
        refine wp_iaddN (pc := 429) d_135_429 ?_
        refine wp_aS (pc := 430) (j := (f + 25)) d_135_430 rfl rfl (by omega) (by decide) (fun Iq430 uq430 => ?_)
        refine wq_iincN (pc := 431) (L2 := [_, _, _, _, _, _, _, _, _, _, _]) d_135_431 rfl (b := 1) (by decide) rfl rfl ?_
        refine wp_goto (pc := 434) (tgt := 300) d_135_434 (by decide) ?_
        refine ih0 (i + 1) zq306 rfl Iq430 _ _ _ _ _ _ (md2_last hRo0.1 (by omega) hW ?_ ?_ ?_ ?_ (fun q h1 h2 h3 h4 => by rw [uq430.ne h4, uq392.ne h3, uq349.ne h2, uq327.ne h1])) (fun j hj => ?_) (fun j hj => ?_) (fun q hq => ?_) (fun a a1 a2 a3 => ?_)
        · exact (uq430.ne (by omega)).trans ((uq392.ne (by omega)).trans ((uq349.ne (by omega)).trans uq327.at))
        · exact (uq430.ne (by omega)).trans ((uq392.ne (by omega)).trans uq349.at)
        · exact (uq430.ne (by omega)).trans uq392.at
        · exact uq430.at
        · rw [uq430.off (by decide), uq392.off (by decide), uq349.off (by decide), uq327.off (by decide)]; exact hfl j hj
        · rw [uq430.off (by decide), uq392.off (by decide), uq349.off (by decide), uq327.off (by decide)]; exact hsu j hj
        · rw [uq430.ne (by omega), uq392.ne (by omega), uq349.ne (by omega), uq327.ne (by omega)]; exact ho7 q hq
        · rw [uq430.2 a a1, uq392.2 a a1, uq349.2 a a1, uq327.2 a a1]; exact hoa a a1 a2 a3
theorem mp2_loop {I0 : IT} {J : JT} {F : FT} {f n dm rn : Nat} {ρ σ : SN} (hF : Fok F) (hRo0 : mRo I0 ρ n) (hρ : ∀ k j, ρ k j ≤ 9) (hf : f ≤ 30) (hdm : dm < 64) (hrn : rn ≤ 9) (hb : ∀ j, j < 6 → σ 0 j < 2 ^ 16 ∧ σ 1 j < 2 ^ 14) (hz : ∀ j, j < 6 → σ 0 j = 0 → σ 1 j = 0) : ∀ (d i : Nat), i + d = n → ∀ (I : IT) (x5 : Option VV) (x6 : Option VV) (x7 : Option VV) (x8 : Option VV) (x9 : Option VV) (x10 : Option VV), (mW (I 177) f (md2 ρ n dm rn σ i)) → (∀ j, j < n → I 180 j = nI (goN ρ dm rn σ j)) → (∀ j, j < n → I 181 j = nI (s2N ρ dm rn σ j)) → (∀ q, (q < f ∨ f + 26 ≤ q) → I 177 q = I0 177 q) → (∀ a, a ≠ 177 → a ≠ 180 → a ≠ 181 → I a = I0 a) → Wp none 135 (fun R => ∃ I2, R = (some (vI (nI (prv (goN ρ dm rn σ) n))), KK, I2, J, F) ∧ mW (I2 177) f (passN ρ n dm rn σ) ∧ (∀ q, (q < f ∨ f + 26 ≤ q) → I2 177 q = I0 177 q) ∧ ∀ a, a ≠ 177 → a ≠ 180 → a ≠ 181 → I2 a = I0 a) 300 [some (vR 173), some (vI (nI f)), some (vI (nI rn)), some (vI (nI dm)), some (vI (nI i)), x5, x6, x7, x8, x9, x10] [] KK I J F := by
  intro d
  induction d with
  | zero =>
    intro i hid I x5 x6 x7 x8 x9 x10 hW hfl hsu ho7 hoa
    exact mp2_step hF hRo0 hρ hf hdm hrn hb hz i (by omega) I x5 x6 x7 x8 x9 x10 hW hfl hsu ho7 hoa (fun i' hlt => absurd hlt (by omega))
  | succ d ih =>
    intro i hid I x5 x6 x7 x8 x9 x10 hW hfl hsu ho7 hoa
    exact mp2_step hF hRo0 hρ hf hdm hrn hb hz i (by omega) I x5 x6 x7 x8 x9 x10 hW hfl hsu ho7 hoa (fun i' hlt he => ih i' (by omega))

set_option maxRecDepth 4000 in
theorem m_pass0 {I0 : IT} {J : JT} {F : FT} {f n dm rn : Nat} {ρ σ : SN} (hF : Fok F) (hRo0 : mRo I0 ρ n) (hρ : ∀ k j, ρ k j ≤ 9) (hf : f ≤ 30) (hdm : dm < 64) (hrn : rn ≤ 9) (hb : ∀ j, j < 6 → σ 0 j < 2 ^ 16 ∧ σ 1 j < 2 ^ 14) (hz : ∀ j, j < 6 → σ 0 j = 0 → σ 1 j = 0) (hW0 : mW (I0 177) f σ) : Sp 135 [vR 173, vI (nI f), vI (nI rn), vI (nI dm)] KK I0 J F (fun R => ∃ I2, R = (some (vI (nI (prv (goN ρ dm rn σ) n))), KK, I2, J, F) ∧ mW (I2 177) f (passN ρ n dm rn σ) ∧ (∀ q, (q < f ∨ f + 26 ≤ q) → I2 177 q = I0 177 q) ∧ ∀ a, a ≠ 177 → a ≠ 180 → a ≠ 181 → I2 a = I0 a) := by
  refine Sp.mk2 (Nat.le_of_ble_eq_true rfl) (L2 := [_, _, _, _, _, _, _, _, _, _, _]) rfl ?_
  refine wp_icN (pc := 0) (m := 0) d_135_0 (by decide) ?_
  refine wq_istore (pc := 1) (L2 := [_, _, _, _, _, _, _, _, _, _, _]) d_135_1 (Nat.le_of_ble_eq_true rfl) rfl rfl ?_
  refine mp1_loop (I0 := I0) hF hRo0 hρ hf hdm hrn hb hz (fun I i x5 x6 x7 x8 x9 x10 hin hW hfl hsu ho7 hoa => ?_) n 0 (by omega) I0 _ _ _ _ _ _ (hW0.cong (fun k hk j hj => (md1_ge (Nat.not_lt_zero j)).symm) md1_4.symm md1_4.symm) (fun j hj => absurd hj (Nat.not_lt_zero j)) (fun j hj => absurd hj (Nat.not_lt_zero j)) (fun _ _ => rfl) (fun _ _ _ _ => rfl)
  refine wp_icN (pc := 297) (m := 0) d_135_297 (by decide) ?_
  refine wq_istore (pc := 298) (L2 := [_, _, _, _, _, _, _, _, _, _, _]) d_135_298 (Nat.le_of_ble_eq_true rfl) rfl rfl ?_
  exact mp2_loop (I0 := I0) hF hRo0 hρ hf hdm hrn hb hz n 0 (by omega) I _ _ _ _ _ _ (md2_start hW) hfl hsu ho7 hoa
theorem okN.m {t : Nat} {σ : SN} (h : okN t σ) (ht : t ≤ 1000) : ∀ j, j < 6 → σ 0 j < 2 ^ 16 ∧ σ 1 j < 2 ^ 14 := by
  intro j hj
  have h0 := le_sum6 (f := σ 0) hj
  have h1 := le_sum6 (f := σ 1) hj
  obtain ⟨a, b, -⟩ := h
  omega
theorem m_pass {I0 : IT} {J : JT} {F : FT} {f n dm rn t : Nat} {ρ σ : SN} (hF : Fok F) (hRo0 : mRo I0 ρ n) (hρ : ∀ k j, ρ k j ≤ 9) (hf : f ≤ 30) (hdm : dm < 64) (hrn : rn ≤ 9) (hok : okN t σ) (ht : t ≤ 1000) (hW0 : mW (I0 177) f σ) : Sp 135 [vR 173, vI (nI f), vI (nI rn), vI (nI dm)] KK I0 J F (fun R => ∃ I2, R = (some (vI (nI (prv (goN ρ dm rn σ) n))), KK, I2, J, F) ∧ mW (I2 177) f (passN ρ n dm rn σ) ∧ (∀ q, (q < f ∨ f + 26 ≤ q) → I2 177 q = I0 177 q) ∧ ∀ a, a ≠ 177 → a ≠ 180 → a ≠ 181 → I2 a = I0 a) := m_pass0 hF hRo0 hρ hf hdm hrn (hok.m ht) hok.2.2.2.2.1 hW0
