/-- what is held, as one, is sound -/
def OKt (t : Nat) (s0 : SS) : Prop := OKS t s0.1 s0.2.1 s0.2.2.1 s0.2.2.2.1 s0.2.2.2.2.1 s0.2.2.2.2.2.1 s0.2.2.2.2.2.2.1 s0.2.2.2.2.2.2.2.1 s0.2.2.2.2.2.2.2.2.1 s0.2.2.2.2.2.2.2.2.2.1 s0.2.2.2.2.2.2.2.2.2.2.1 s0.2.2.2.2.2.2.2.2.2.2.2.1
theorem zb_pass {ρ σ : SN} {n dm rn : Nat} (h : zb n σ) : zb n (passN ρ n dm rn σ) := fun j h1 h2 => by rw [passO (by decide) (by omega)]; exact h j h1 h2
theorem zb_s2 {σ : SN} {n k j v : Nat} (h : zb n σ) (hk : k ≠ 0) : zb n (s2 σ k j v) := fun i h1 h2 => by rw [s2_nk (fun e => hk e.symm)]; exact h i h1 h2
theorem ok_s47 {t v : Nat} {σ : SN} (h : okN t σ) (hv : v < 64) : okN t (s2 σ 4 7 v) := by
  obtain ⟨a, b, c, d, e, f⟩ := h
  have h0 : ∀ j, s2 σ 4 7 v 0 j = σ 0 j := fun j => s2_nk (by decide)
  have h1 : ∀ j, s2 σ 4 7 v 1 j = σ 1 j := fun j => s2_nk (by decide)
  have h2 : ∀ j, s2 σ 4 7 v 2 j = σ 2 j := fun j => s2_nk (by decide)
  refine ⟨?_, ?_, fun j hj => by rw [h2]; exact c j hj, ?_, fun j hj => by rw [h0, h1]; exact e j hj, by rw [s2_eq]; exact hv⟩
  · rw [show s2 σ 4 7 v 0 = σ 0 from funext h0, s2_nj (by decide)]; exact a
  · rw [show s2 σ 4 7 v 1 = σ 1 from funext h1, s2_nj (by decide)]; exact b
  · rw [s2_nj (by decide)]; exact d
theorem sum_s2 {σ : SN} {k j v : Nat} (hj : j < 6) : sumN (s2 σ k j v k) 6 + σ k j = sumN (σ k) 6 + v := by
  rw [sum6, sum6]
  have h : ∀ i, s2 σ k j v k i = if i = j then v else σ k i := fun i => by
    by_cases e : i = j
    · rw [if_pos e, e]; exact s2_eq
    · rw [if_neg e]; exact s2_nj e
  rw [h, h, h, h, h, h]
  have : j = 0 ∨ j = 1 ∨ j = 2 ∨ j = 3 ∨ j = 4 ∨ j = 5 := by omega
  rcases this with rfl | rfl | rfl | rfl | rfl | rfl <;> simp <;> omega
theorem ok_tk {t j g : Nat} {σ : SN} (h : okN t σ) (hj : j < 6) (hg : g ≤ σ 0 j) : okN t (tkN σ j g) := by
  obtain ⟨a, b, c, d, e, f⟩ := h
  unfold tkN
  have n0 : ∀ i, s2 (s2 σ 0 j (σ 0 j - g)) 1 j (σ 1 j - alg (σ 1 j) g (σ 0 j)) 0 i = s2 σ 0 j (σ 0 j - g) 0 i := fun i => s2_nk (by decide)
  have n1 : s2 σ 0 j (σ 0 j - g) 1 j = σ 1 j := s2_nk (by decide)
  have n4 : ∀ i, s2 (s2 σ 0 j (σ 0 j - g)) 1 j (σ 1 j - alg (σ 1 j) g (σ 0 j)) 4 i = σ 4 i := fun i => by rw [s2_nk (by decide), s2_nk (by decide)]
  have n2 : ∀ i, s2 (s2 σ 0 j (σ 0 j - g)) 1 j (σ 1 j - alg (σ 1 j) g (σ 0 j)) 2 i = σ 2 i := fun i => by rw [s2_nk (by decide), s2_nk (by decide)]
  have q0 := sum_s2 (σ := σ) (k := 0) (v := σ 0 j - g) hj
  have q1 := sum_s2 (σ := s2 σ 0 j (σ 0 j - g)) (k := 1) (v := σ 1 j - alg (σ 1 j) g (σ 0 j)) hj
  have q2 : sumN (s2 σ 0 j (σ 0 j - g) 1) 6 = sumN (σ 1) 6 := by rw [show s2 σ 0 j (σ 0 j - g) 1 = σ 1 from funext fun i => s2_nk (by decide)]
  refine ⟨?_, ?_, fun i hi => by rw [n2]; exact c i hi, by rw [n4]; exact d, fun i hi h0 => ?_, by rw [n4]; exact f⟩
  · rw [show s2 (s2 σ 0 j (σ 0 j - g)) 1 j (σ 1 j - alg (σ 1 j) g (σ 0 j)) 0 = s2 σ 0 j (σ 0 j - g) 0 from funext n0, n4]
    omega
  · rw [n4]
    rw [n1, q2] at q1
    omega
  · rw [n0] at h0
    by_cases e2 : i = j
    · subst e2
      rw [s2_eq] at h0
      rw [s2_eq, show alg (σ 1 i) g (σ 0 i) = σ 1 i from if_pos (Or.inl (by omega))]
      omega
    · rw [s2_nj e2] at h0
      rw [s2_nj e2, s2_nj e2]
      exact e i hi h0
theorem zb_tk {n j g : Nat} {σ : SN} (h : zb n σ) (hj : j < n) : zb n (tkN σ j g) := fun i h1 h2 => by
  unfold tkN
  rw [s2_nk (by decide), s2_nj (by omega)]
  exact h i h1 h2
theorem okx_soap {t j y : Nat} {σ : SN} (h : okN t σ) (hj : j < 6) (hy : y ≤ 9) (h0 : 1 ≤ σ 0 j) : okN (t + 1) (s2 σ 1 j (σ 1 j + y)) := by
  obtain ⟨a, b, c, d, e, f⟩ := h
  have n0 : ∀ i, s2 σ 1 j (σ 1 j + y) 0 i = σ 0 i := fun i => s2_nk (by decide)
  have n2 : ∀ i, s2 σ 1 j (σ 1 j + y) 2 i = σ 2 i := fun i => s2_nk (by decide)
  have n4 : ∀ i, s2 σ 1 j (σ 1 j + y) 4 i = σ 4 i := fun i => s2_nk (by decide)
  have q1 := sum_s2 (σ := σ) (k := 1) (v := σ 1 j + y) hj
  refine ⟨?_, ?_, fun i hi => by rw [n2]; have := c i hi; omega, by rw [n4]; omega, fun i hi hz => ?_, by rw [n4]; exact f⟩
  · rw [show s2 σ 1 j (σ 1 j + y) 0 = σ 0 from funext n0, n4]; omega
  · rw [n4]; omega
  · rw [n0] at hz
    rw [s2_nj (fun e2 => by subst e2; omega)]
    exact e i hi hz
theorem ok_begin {t n : Nat} {ρ : SN} (hρ : ∀ k j, ρ k j ≤ 9) (hn : n ≤ 6) : okN t (beginN ρ n) := by
  have h0 : ∀ j, beginN ρ n 0 j ≤ 9 := fun j => by
    unfold beginN
    rw [if_pos rfl]
    split
    · exact hρ 4 j
    · exact Nat.zero_le 9
  have hk : ∀ k j, k ≠ 0 → beginN ρ n k j = 0 := fun k j h => if_neg h
  refine ⟨?_, ?_, fun j _ => by rw [hk 2 j (by decide)]; exact Nat.zero_le _, by rw [hk 4 6 (by decide)]; exact Nat.zero_le _, fun j _ _ => hk 1 j (by decide), by rw [hk 4 7 (by decide)]; decide⟩
  · rw [sum6, hk 4 4 (by decide)]
    have := h0 0; have := h0 1; have := h0 2; have := h0 3; have := h0 4; have := h0 5
    omega
  · rw [sum6, hk 4 5 (by decide), hk 1 0 (by decide), hk 1 1 (by decide), hk 1 2 (by decide), hk 1 3 (by decide), hk 1 4 (by decide), hk 1 5 (by decide)]
    exact Nat.zero_le _
theorem zb_begin {n : Nat} {ρ : SN} : zb n (beginN ρ n) := fun j h1 _ => by
  unfold beginN
  rw [if_pos rfl, if_neg (by omega)]
theorem OKS.mono {t t2 : Nat} {tx : Nat → Nat} {tl : Nat} {ρ : SN} {n : Nat} {σ : SN} {rg : Nat → SN} {nx na : Nat} {γ : SN} {gn : Nat} {sl : Nat → SN} {sf : Nat → Bool} (h : OKS t tx tl ρ n σ rg nx na γ gn sl sf) (ht : t ≤ t2) : OKS t2 tx tl ρ n σ rg nx na γ gn sl sf := by
  obtain ⟨ht40, hx256, hρ, hok, hrg, hnx, hna, hgo, hsl, hz, hzr, hzs, hn6⟩ := h
  exact ⟨ht40, hx256, hρ, hok.mono ht, fun i => (hrg i).mono ht, hnx, hna, hgo, fun i => (hsl i).mono ht, hz, hzr, hzs, hn6⟩
/-- a thing is done: what was there before is remembered -/
theorem OKS.act {t : Nat} {tx : Nat → Nat} {tl : Nat} {ρ : SN} {n : Nat} {σ σ2 : SN} {rg : Nat → SN} {nx na : Nat} {γ : SN} {gn : Nat} {sl : Nat → SN} {sf : Nat → Bool} (h : OKS t tx tl ρ n σ rg nx na γ gn sl sf) (h1 : okN (t + 1) σ2) (h2 : zb n σ2) : OKS (t + 1) tx tl ρ n σ2 (upf rg nx σ) ((nx + 1) % 12) (min (na + 1) 12) γ gn sl sf := by
  obtain ⟨ht40, hx256, hρ, hok, hrg, hnx, hna, hgo, hsl, hz, hzr, hzs, hn6⟩ := h
  refine ⟨ht40, hx256, hρ, h1, fun i => ?_, by omega, by omega, hgo, fun i => (hsl i).mono (by omega), h2, fun k hk => ?_, hzs, hn6⟩
  · unfold upf
    by_cases e : i = nx
    · rw [if_pos e]; exact hok.mono (by omega)
    · rw [if_neg e]; exact (hrg i).mono (by omega)
  · unfold upf
    by_cases e : k = 0
    · rw [if_pos (by omega)]; exact hz
    · rw [if_neg (by omega), show ((nx + 1) % 12 + 11 - k) % 12 = (nx + 11 - (k - 1)) % 12 by omega]
      exact hzr (k - 1) (by omega)
theorem ok_wipe {t : Nat} {tx : Nat → Nat} {tl : Nat} {ρ : SN} {n : Nat} {σ : SN} {rg : Nat → SN} {nx na : Nat} {γ : SN} {gn : Nat} {sl : Nat → SN} {sf : Nat → Bool} {sd : Int64} (hO : OKS t tx tl ρ n σ rg nx na γ gn sl sf) : OKt (t + 1) (q_wipe tx tl ρ n σ rg nx na γ gn sl sf sd).2 := by
  obtain ⟨ht40, hx256, hρ, hok, hrg, hnx, hna, hgo, hsl, hz, hzr, hzs, hn6⟩ := id hO
  exact ⟨Nat.zero_le 40, hx256, hρ, hok.mono (Nat.le_succ t), fun i => (hrg i).mono (Nat.le_succ t), hnx, hna, hgo, fun i => (hsl i).mono (Nat.le_succ t), hz, hzr, hzs, hn6⟩
theorem ok_write {t : Nat} {tx : Nat → Nat} {tl : Nat} {ρ : SN} {n : Nat} {σ : SN} {rg : Nat → SN} {nx na : Nat} {γ : SN} {gn : Nat} {sl : Nat → SN} {sf : Nat → Bool} {sd : Int64} (hO : OKS t tx tl ρ n σ rg nx na γ gn sl sf) {x : Int32} {v : Int64} : OKt (t + 1) (q_write tx tl ρ n σ rg nx na γ gn sl sf sd x v).2 := by
  obtain ⟨ht40, hx256, hρ, hok, hrg, hnx, hna, hgo, hsl, hz, hzr, hzs, hn6⟩ := id hO
  unfold q_write
  by_cases h1 : inB x (nI 1) (nI 8) = true
  · rw [if_pos h1]
    by_cases h2 : x.toNatClampNeg + tl ≤ 40
    · rw [if_pos h2]
      refine ⟨show tl + x.toNatClampNeg ≤ 40 by omega, fun j => ?_, hρ, hok.mono (Nat.le_succ t), fun i => (hrg i).mono (Nat.le_succ t), hnx, hna, hgo, fun i => (hsl i).mono (Nat.le_succ t), hz, hzr, hzs, hn6⟩
      show apN tx tl x.toNatClampNeg v j < 256
      unfold apN
      split
      · exact hx256 j
      · exact Nat.mod_lt _ (by decide)
    · rw [if_neg h2]; exact hO.mono (Nat.le_succ t)
  · rw [if_neg h1]; exact hO.mono (Nat.le_succ t)
theorem ok_street {t : Nat} {tx : Nat → Nat} {tl : Nat} {ρ : SN} {n : Nat} {σ : SN} {rg : Nat → SN} {nx na : Nat} {γ : SN} {gn : Nat} {sl : Nat → SN} {sf : Nat → Bool} {sd : Int64} (hO : OKS t tx tl ρ n σ rg nx na γ gn sl sf) : OKt (t + 1) (q_street tx tl ρ n σ rg nx na γ gn sl sf sd).2 := by
  obtain ⟨ht40, hx256, hρ, hok, hrg, hnx, hna, hgo, hsl, hz, hzr, hzs, hn6⟩ := id hO
  unfold q_street
  rcases hfl : (fltN tx tl).2 with _ | mz
  · exact hO.mono (Nat.le_succ t)
  · have hm : okM mz := fin_ok hx256 tl 0 PS0 okM_0 hfl
    exact ⟨ht40, hx256, hm.2.1, ok_begin hm.2.1 hm.1, fun i => (hrg i).mono (Nat.le_succ t), hnx, Nat.zero_le 12, hgo, fun i => (hsl i).mono (Nat.le_succ t), zb_begin, fun k hk => absurd hk (Nat.not_lt_zero k), fun i h => absurd h Bool.false_ne_true, hm.1⟩
theorem ok_dam {t : Nat} {tx : Nat → Nat} {tl : Nat} {ρ : SN} {n : Nat} {σ : SN} {rg : Nat → SN} {nx na : Nat} {γ : SN} {gn : Nat} {sl : Nat → SN} {sf : Nat → Bool} {sd : Int64} (hO : OKS t tx tl ρ n σ rg nx na γ gn sl sf) {x : Int32} {p : Bool} : OKt (t + 1) (q_dam tx tl ρ n σ rg nx na γ gn sl sf sd x p).2 := by
  obtain ⟨ht40, hx256, hρ, hok, hrg, hnx, hna, hgo, hsl, hz, hzr, hzs, hn6⟩ := id hO
  unfold q_dam
  by_cases h1 : inR x n = true
  · rw [if_pos h1]
    by_cases h2 : (σ 4 7).testBit x.toNatClampNeg = p
    · rw [if_pos h2]; exact hO.mono (Nat.le_succ t)
    · rw [if_neg h2]
      obtain ⟨jx, hjx, hxx⟩ := inR_t h1 (by omega)
      subst hxx
      have hc : (nI jx).toNatClampNeg = jx := nI_clamp (by omega)
      rw [hc]
      have hp : 2 ^ jx < 2 ^ 6 := Nat.pow_lt_pow_right (by decide) (by omega)
      exact ⟨ht40, hx256, hρ, (ok_s47 hok (Nat.xor_lt_two_pow (n := 6) hok.2.2.2.2.2 hp)).mono (Nat.le_succ t), fun i => (hrg i).mono (Nat.le_succ t), hnx, hna, hgo, fun i => (hsl i).mono (Nat.le_succ t), zb_s2 hz (by decide), hzr, hzs, hn6⟩
  · rw [if_neg h1]; exact hO.mono (Nat.le_succ t)
theorem ok_quarter {t : Nat} {tx : Nat → Nat} {tl : Nat} {ρ : SN} {n : Nat} {σ : SN} {rg : Nat → SN} {nx na : Nat} {γ : SN} {gn : Nat} {sl : Nat → SN} {sf : Nat → Bool} {sd : Int64} (hO : OKS t tx tl ρ n σ rg nx na γ gn sl sf) {x : Int32} : OKt (t + 1) (q_quarter tx tl ρ n σ rg nx na γ gn sl sf sd x).2 := by
  obtain ⟨ht40, hx256, hρ, hok, hrg, hnx, hna, hgo, hsl, hz, hzr, hzs, hn6⟩ := id hO
  unfold q_quarter
  by_cases h1 : inB x (nI 0) (nI 9) = true
  · rw [if_pos h1]
    obtain ⟨g, h0, h9, hxx⟩ := inB_t h1 (by decide) (by decide)
    subst hxx
    have hc : (nI g).toNatClampNeg = g := nI_clamp (by omega)
    rw [hc]
    exact OKS.act hO (pass_ok hn6 h9 hρ hok) (zb_pass hz)
  · rw [if_neg h1]; exact hO.mono (Nat.le_succ t)
theorem ok_pail {t : Nat} {tx : Nat → Nat} {tl : Nat} {ρ : SN} {n : Nat} {σ : SN} {rg : Nat → SN} {nx na : Nat} {γ : SN} {gn : Nat} {sl : Nat → SN} {sf : Nat → Bool} {sd : Int64} (hO : OKS t tx tl ρ n σ rg nx na γ gn sl sf) {x y : Int32} : OKt (t + 1) (q_pail tx tl ρ n σ rg nx na γ gn sl sf sd x y).2 := by
  obtain ⟨ht40, hx256, hρ, hok, hrg, hnx, hna, hgo, hsl, hz, hzr, hzs, hn6⟩ := id hO
  unfold q_pail
  by_cases h1 : inR x n = true
  · rw [if_pos h1]
    by_cases h2 : inB y (nI 1) (nI 9) = true
    · rw [if_pos h2]
      by_cases h3 : σ 0 x.toNatClampNeg < y.toNatClampNeg
      · rw [if_pos h3]; exact hO.mono (Nat.le_succ t)
      · rw [if_neg h3]
        obtain ⟨jx, hjx, hxx⟩ := inR_t h1 (by omega)
        subst hxx
        have hc : (nI jx).toNatClampNeg = jx := nI_clamp (by omega)
        rw [hc] at h3 ⊢
        exact OKS.act hO ((ok_tk hok (by omega) (by omega)).mono (Nat.le_succ t)) (zb_tk hz hjx)
    · rw [if_neg h2]; exact hO.mono (Nat.le_succ t)
  · rw [if_neg h1]; exact hO.mono (Nat.le_succ t)
theorem ok_soap {t : Nat} {tx : Nat → Nat} {tl : Nat} {ρ : SN} {n : Nat} {σ : SN} {rg : Nat → SN} {nx na : Nat} {γ : SN} {gn : Nat} {sl : Nat → SN} {sf : Nat → Bool} {sd : Int64} (hO : OKS t tx tl ρ n σ rg nx na γ gn sl sf) {x y : Int32} : OKt (t + 1) (q_soap tx tl ρ n σ rg nx na γ gn sl sf sd x y).2 := by
  obtain ⟨ht40, hx256, hρ, hok, hrg, hnx, hna, hgo, hsl, hz, hzr, hzs, hn6⟩ := id hO
  unfold q_soap
  by_cases h1 : inR x n = true
  · rw [if_pos h1]
    by_cases h2 : inB y (nI 1) (nI 9) = true
    · rw [if_pos h2]
      by_cases h3 : σ 0 x.toNatClampNeg < 1
      · rw [if_pos h3]; exact hO.mono (Nat.le_succ t)
      · rw [if_neg h3]
        by_cases h4 : 99 - y.toNatClampNeg < σ 1 x.toNatClampNeg
        · rw [if_pos h4]; exact hO.mono (Nat.le_succ t)
        · rw [if_neg h4]
          obtain ⟨jx, hjx, hxx⟩ := inR_t h1 (by omega)
          subst hxx
          obtain ⟨g, h0, h9, hyy⟩ := inB_t h2 (by decide) (by decide)
          subst hyy
          have hc : (nI jx).toNatClampNeg = jx := nI_clamp (by omega)
          have hcg : (nI g).toNatClampNeg = g := nI_clamp (by omega)
          rw [hc] at h3 ⊢
          rw [hcg]
          exact OKS.act hO (okx_soap hok (by omega) h9 (by omega)) (zb_s2 hz (by decide))
    · rw [if_neg h2]; exact hO.mono (Nat.le_succ t)
  · rw [if_neg h1]; exact hO.mono (Nat.le_succ t)
theorem ok_undo {t : Nat} {tx : Nat → Nat} {tl : Nat} {ρ : SN} {n : Nat} {σ : SN} {rg : Nat → SN} {nx na : Nat} {γ : SN} {gn : Nat} {sl : Nat → SN} {sf : Nat → Bool} {sd : Int64} (hO : OKS t tx tl ρ n σ rg nx na γ gn sl sf) : OKt (t + 1) (q_undo tx tl ρ n σ rg nx na γ gn sl sf sd).2 := by
  obtain ⟨ht40, hx256, hρ, hok, hrg, hnx, hna, hgo, hsl, hz, hzr, hzs, hn6⟩ := id hO
  unfold q_undo
  by_cases h1 : na < 1
  · rw [if_pos h1]; exact hO.mono (Nat.le_succ t)
  · rw [if_neg h1]
    refine ⟨ht40, hx256, hρ, (ok_s47 (hrg _) hok.2.2.2.2.2).mono (Nat.le_succ t), fun i => (hrg i).mono (Nat.le_succ t), show (nx + 11) % 12 < 12 by omega, show na - 1 ≤ 12 by omega, hgo, fun i => (hsl i).mono (Nat.le_succ t), zb_s2 ?_ (by decide), fun k hk => ?_, hzs, hn6⟩
    · have := hzr 0 (by omega)
      rwa [Nat.sub_zero] at this
    · have hk2 : k < na - 1 := hk
      have := hzr (k + 1) (by omega)
      rwa [show (nx + 11 - (k + 1)) % 12 = ((nx + 11) % 12 + 11 - k) % 12 by omega] at this
theorem ok_gauge {t : Nat} {tx : Nat → Nat} {tl : Nat} {ρ : SN} {n : Nat} {σ : SN} {rg : Nat → SN} {nx na : Nat} {γ : SN} {gn : Nat} {sl : Nat → SN} {sf : Nat → Bool} {sd : Int64} (hO : OKS t tx tl ρ n σ rg nx na γ gn sl sf) {x y z : Int32} : OKt (t + 1) (q_gauge tx tl ρ n σ rg nx na γ gn sl sf sd x y z).2 := by
  obtain ⟨ht40, hx256, hρ, hok, hrg, hnx, hna, hgo, hsl, hz, hzr, hzs, hn6⟩ := id hO
  unfold q_gauge
  by_cases h1 : inB x (nI 1) (nI 6) = true
  · rw [if_pos h1]
    by_cases h2 : inB y (nI 0) (nI 9) = true
    · rw [if_pos h2]
      by_cases h3 : inB z (nI 0) (nI 999) = true
      · rw [if_pos h3]
        by_cases h4 : gn < 6
        · rw [if_pos h4]
          obtain ⟨a, a1, a2, ax⟩ := inB_t h1 (by decide) (by decide)
          obtain ⟨b, b1, b9, bx⟩ := inB_t h2 (by decide) (by decide)
          obtain ⟨c, c1, c9, cx⟩ := inB_t h3 (by decide) (by decide)
          subst ax; subst bx; subst cx
          rw [nI_clamp (show a < 2 ^ 31 by omega), nI_clamp (show b < 2 ^ 31 by omega), nI_clamp (show c < 2 ^ 31 by omega)]
          refine ⟨ht40, hx256, hρ, hok.mono (Nat.le_succ t), fun i => (hrg i).mono (Nat.le_succ t), hnx, hna, fun j hj => ?_, fun i => (hsl i).mono (Nat.le_succ t), hz, hzr, hzs, hn6⟩
          have hj2 : j < gn + 1 := hj
          show addG γ gn a b c 0 j ≤ 6 ∧ addG γ gn a b c 1 j ≤ 9 ∧ addG γ gn a b c 2 j ≤ 999
          unfold addG
          by_cases e : j = gn
          · rw [if_pos e, if_pos e, if_pos e]; exact ⟨a2, b9, c9⟩
          · rw [if_neg e, if_neg e, if_neg e]; exact hgo j (by omega)
        · rw [if_neg h4]; exact hO.mono (Nat.le_succ t)
      · rw [if_neg h3]; exact hO.mono (Nat.le_succ t)
    · rw [if_neg h2]; exact hO.mono (Nat.le_succ t)
  · rw [if_neg h1]; exact hO.mono (Nat.le_succ t)
theorem ok_ungauge {t : Nat} {tx : Nat → Nat} {tl : Nat} {ρ : SN} {n : Nat} {σ : SN} {rg : Nat → SN} {nx na : Nat} {γ : SN} {gn : Nat} {sl : Nat → SN} {sf : Nat → Bool} {sd : Int64} (hO : OKS t tx tl ρ n σ rg nx na γ gn sl sf) : OKt (t + 1) (q_ungauge tx tl ρ n σ rg nx na γ gn sl sf sd).2 := by
  obtain ⟨ht40, hx256, hρ, hok, hrg, hnx, hna, hgo, hsl, hz, hzr, hzs, hn6⟩ := id hO
  exact ⟨ht40, hx256, hρ, hok.mono (Nat.le_succ t), fun i => (hrg i).mono (Nat.le_succ t), hnx, hna, fun j hj => absurd hj (Nat.not_lt_zero j), fun i => (hsl i).mono (Nat.le_succ t), hz, hzr, hzs, hn6⟩
theorem ok_keep {t : Nat} {tx : Nat → Nat} {tl : Nat} {ρ : SN} {n : Nat} {σ : SN} {rg : Nat → SN} {nx na : Nat} {γ : SN} {gn : Nat} {sl : Nat → SN} {sf : Nat → Bool} {sd : Int64} (hO : OKS t tx tl ρ n σ rg nx na γ gn sl sf) {x : Int32} : OKt (t + 1) (q_keep tx tl ρ n σ rg nx na γ gn sl sf sd x).2 := by
  obtain ⟨ht40, hx256, hρ, hok, hrg, hnx, hna, hgo, hsl, hz, hzr, hzs, hn6⟩ := id hO
  unfold q_keep
  by_cases h1 : inB x (nI 0) (nI 1) = true
  · rw [if_pos h1]
    refine ⟨ht40, hx256, hρ, hok.mono (Nat.le_succ t), fun i => (hrg i).mono (Nat.le_succ t), hnx, hna, hgo, fun i => ?_, hz, hzr, fun i hi => ?_, hn6⟩
    · show okN (t + 1) (if i = x.toNatClampNeg then σ else sl i)
      split
      · exact hok.mono (Nat.le_succ t)
      · exact (hsl i).mono (Nat.le_succ t)
    · have hi2 : (if i = x.toNatClampNeg then true else sf i) = true := hi
      show zb n (if i = x.toNatClampNeg then σ else sl i)
      by_cases e : i = x.toNatClampNeg
      · rw [if_pos e]; exact hz
      · rw [if_neg e] at hi2 ⊢; exact hzs i hi2
  · rw [if_neg h1]; exact hO.mono (Nat.le_succ t)
theorem ok_again {t : Nat} {tx : Nat → Nat} {tl : Nat} {ρ : SN} {n : Nat} {σ : SN} {rg : Nat → SN} {nx na : Nat} {γ : SN} {gn : Nat} {sl : Nat → SN} {sf : Nat → Bool} {sd : Int64} (hO : OKS t tx tl ρ n σ rg nx na γ gn sl sf) {x : Int32} : OKt (t + 1) (q_again tx tl ρ n σ rg nx na γ gn sl sf sd x).2 := by
  obtain ⟨ht40, hx256, hρ, hok, hrg, hnx, hna, hgo, hsl, hz, hzr, hzs, hn6⟩ := id hO
  unfold q_again
  by_cases h1 : inB x (nI 0) (nI 1) = true
  · rw [if_pos h1]
    by_cases h2 : sf x.toNatClampNeg = true
    · rw [if_pos h2]
      exact ⟨ht40, hx256, hρ, (hsl _).mono (Nat.le_succ t), fun i => (hrg i).mono (Nat.le_succ t), hnx, Nat.zero_le 12, hgo, fun i => (hsl i).mono (Nat.le_succ t), hzs _ h2, fun k hk => absurd hk (Nat.not_lt_zero k), hzs, hn6⟩
    · rw [if_neg h2]; exact hO.mono (Nat.le_succ t)
  · rw [if_neg h1]; exact hO.mono (Nat.le_succ t)
theorem ok_seed {t : Nat} {tx : Nat → Nat} {tl : Nat} {ρ : SN} {n : Nat} {σ : SN} {rg : Nat → SN} {nx na : Nat} {γ : SN} {gn : Nat} {sl : Nat → SN} {sf : Nat → Bool} {sd : Int64} (hO : OKS t tx tl ρ n σ rg nx na γ gn sl sf) {v : Int64} : OKt (t + 1) (q_seed tx tl ρ n σ rg nx na γ gn sl sf sd v).2 := by
  obtain ⟨ht40, hx256, hρ, hok, hrg, hnx, hna, hgo, hsl, hz, hzr, hzs, hn6⟩ := id hO
  exact hO.mono (Nat.le_succ t)
theorem ok_summer {t : Nat} {tx : Nat → Nat} {tl : Nat} {ρ : SN} {n : Nat} {σ : SN} {rg : Nat → SN} {nx na : Nat} {γ : SN} {gn : Nat} {sl : Nat → SN} {sf : Nat → Bool} {sd : Int64} (hO : OKS t tx tl ρ n σ rg nx na γ gn sl sf) {x y : Int32} : OKt (t + 1) (q_summer tx tl ρ n σ rg nx na γ gn sl sf sd x y).2 := by
  obtain ⟨ht40, hx256, hρ, hok, hrg, hnx, hna, hgo, hsl, hz, hzr, hzs, hn6⟩ := id hO
  unfold q_summer
  by_cases h1 : inR x n = true
  · rw [if_pos h1]
    by_cases h2 : inB y (nI 1) (nI 40) = true
    · rw [if_pos h2]; exact hO.mono (Nat.le_succ t)
    · rw [if_neg h2]; exact hO.mono (Nat.le_succ t)
  · rw [if_neg h1]; exact hO.mono (Nat.le_succ t)
def SS0 : SS := (fun _ => 0, 0, fun _ _ => 0, 0, fun _ _ => 0, fun _ => fun _ _ => 0, 0, 0, fun _ _ => 0, 0, fun _ => fun _ _ => 0, fun _ => false, 0)
theorem okN_0 {t : Nat} : okN t (fun _ _ => 0) := ⟨Nat.zero_le _, Nat.zero_le _, fun _ _ => Nat.zero_le _, Nat.zero_le _, fun _ _ _ => rfl, (by decide : 0 < 64)⟩
theorem OKt_0 {t : Nat} : OKt t SS0 := ⟨Nat.zero_le 40, fun _ => (by decide : 0 < 256), fun _ _ => Nat.zero_le 9, okN_0, fun _ => okN_0, (by decide : 0 < 12), Nat.zero_le 12, fun _ h => absurd h (Nat.not_lt_zero _), fun _ => okN_0, fun _ _ _ => rfl, fun k h => absurd h (Nat.not_lt_zero k), fun _ h => absurd h Bool.false_ne_true, Nat.zero_le 6⟩
