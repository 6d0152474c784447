/-- a plan of l told by 16, and back -/
def pzE (n q l : Nat) : Nat := sumN (fun m => dgN n (l * 2 ^ n) m * 16 ^ m) q
def pzD (n q c : Nat) : Nat := sumN (fun m => c / 16 ^ (m + 1) % 16 * 2 ^ (n * m)) (q - 1)
def pzT1 (n q l : Nat) : Bool := decide (pzE n q l < 16 ^ q) && allN (fun m => decide (pzE n q l / 16 ^ m % 16 = dgN n (l * 2 ^ n) m)) q && okD n q (pzE n q l) && (decide (2 ^ (n * (q - 1)) ≤ l + 1) || decide (pzE n q l < pzE n q (l + 1)))
def pzT2 (n q c : Nat) : Bool := !okD n q c || (decide (pzD n q c < 2 ^ (n * (q - 1))) && allN (fun m => decide (c / 16 ^ (m + 1) % 16 = dgN n (pzD n q c * 2 ^ n) (m + 1))) (q - 1) && decide (pzE n q (pzD n q c) ≤ c))
theorem pz1_all : ∀ n, n < 5 → ∀ q, q < 3 → allN (pzT1 n (q + 1)) (2 ^ (n * q)) = true := by decide +kernel
theorem pz2_0 : ∀ n, n < 5 → ∀ q, q < 2 → allN (pzT2 n (q + 1)) (16 ^ (q + 1)) = true := by decide +kernel
theorem pz2_a : ∀ n, n < 4 → ∀ a, a < 16 → allN (fun b => pzT2 n 3 (256 * a + b)) 256 = true := by decide +kernel
theorem pz2_b : ∀ a, a < 16 → allN (fun b => pzT2 4 3 (256 * a + b)) 256 = true := by decide +kernel
theorem pz1 {n q l : Nat} (hn : n ≤ 4) (hq1 : 1 ≤ q) (hq3 : q ≤ 3) (hl : l < 2 ^ (n * (q - 1))) : pzE n q l < 16 ^ q ∧ (∀ m, m < q → pzE n q l / 16 ^ m % 16 = dgN n (l * 2 ^ n) m) ∧ okD n q (pzE n q l) = true ∧ (l + 1 < 2 ^ (n * (q - 1)) → pzE n q l < pzE n q (l + 1)) := by
  obtain ⟨p, rfl⟩ : ∃ p, q = p + 1 := ⟨q - 1, by omega⟩
  have h := allN_i (pz1_all n (by omega) p (by omega)) hl
  unfold pzT1 at h
  rw [Bool.and_eq_true, Bool.and_eq_true, Bool.and_eq_true, Bool.or_eq_true] at h
  obtain ⟨⟨⟨h1, h2⟩, h3⟩, h4⟩ := h
  refine ⟨of_decide_eq_true h1, fun m hm => of_decide_eq_true (allN_i h2 hm), h3, fun hlt => ?_⟩
  rcases h4 with h4 | h4
  · exact absurd (of_decide_eq_true h4) (Nat.not_le.mpr hlt)
  · exact of_decide_eq_true h4
theorem pz2 {n q c : Nat} (hn : n ≤ 4) (hq1 : 1 ≤ q) (hq3 : q ≤ 3) (hc : c < 16 ^ q) (hok : okD n q c = true) : pzD n q c < 2 ^ (n * (q - 1)) ∧ (∀ m, m < q → m ≠ 0 → c / 16 ^ m % 16 = dgN n (pzD n q c * 2 ^ n) m) ∧ pzE n q (pzD n q c) ≤ c := by
  have h : pzT2 n q c = true := by
    by_cases e : q = 3
    · subst e
      have hc' : c < 4096 := hc
      have h0 : 256 * (c / 256) + c % 256 = c := Nat.div_add_mod c 256
      by_cases e2 : n = 4
      · subst e2
        have h1 := allN_i (pz2_b (c / 256) (by omega)) (show c % 256 < 256 by omega)
        rwa [h0] at h1
      · have h1 := allN_i (pz2_a n (by omega) (c / 256) (by omega)) (show c % 256 < 256 by omega)
        rwa [h0] at h1
    · obtain ⟨p, rfl⟩ : ∃ p, q = p + 1 := ⟨q - 1, by omega⟩
      exact allN_i (pz2_0 n (by omega) p (by omega)) hc
  unfold pzT2 at h
  rw [hok, Bool.not_true, Bool.false_or, Bool.and_eq_true, Bool.and_eq_true] at h
  obtain ⟨⟨h1, h2⟩, h3⟩ := h
  refine ⟨of_decide_eq_true h1, fun m hm h0 => ?_, of_decide_eq_true h3⟩
  have := of_decide_eq_true (allN_i h2 (show m - 1 < q - 1 by omega))
  rwa [show m - 1 + 1 = m by omega] at this
theorem pzE_mono {n q : Nat} (hn : n ≤ 4) (hq1 : 1 ≤ q) (hq3 : q ≤ 3) : ∀ (d l : Nat), l + d < 2 ^ (n * (q - 1)) → pzE n q l ≤ pzE n q (l + d)
  | 0, _, _ => Nat.le_refl _
  | d + 1, l, h => by
    have h1 := pzE_mono hn hq1 hq3 d l (by omega)
    have h2 := (pz1 hn hq1 hq3 (show l + d < 2 ^ (n * (q - 1)) by omega)).2.2.2 h
    rw [show l + (d + 1) = l + d + 1 by omega]
    omega
theorem cs_M {ρ σ : SN} {n rn q c P : Nat} : ∀ i, (∀ j, j < i → c / 16 ^ (q - 1 - j) % 16 = dgN n P (q - 1 - j)) → csM ρ n rn σ q c i = csN ρ n rn σ q P i
  | 0, _ => rfl
  | i + 1, h => by
    show passN ρ n (c / 16 ^ (q - 1 - i) % 16) rn (csM ρ n rn σ q c i) = passN ρ n (dgN n P (q - 1 - i)) rn (csN ρ n rn σ q P i)
    rw [cs_M i (fun j hj => h j (by omega)), h i (by omega)]
theorem bitsN_c {p p' : Nat → Bool} : ∀ n, (∀ i, i < n → p i = p' i) → bitsN p n = bitsN p' n
  | 0, _ => rfl
  | n + 1, h => by unfold bitsN; rw [bitsN_c n (fun i hi => h i (by omega)), h n (by omega)]
theorem pass_2 {ρ σ : SN} {n d1 d2 rn j : Nat} : passN ρ n d1 rn σ 2 j = passN ρ n d2 rn σ 2 j := rfl
theorem fC_eq {ρ σ : SN} {n rn q c l : Nat} (hq1 : 1 ≤ q) (h : ∀ m, m < q → m ≠ 0 → c / 16 ^ m % 16 = dgN n (l * 2 ^ n) m) : fC ρ n rn σ q c = cntP ρ n rn σ q l := by
  obtain ⟨p, rfl⟩ : ∃ p, q = p + 1 := ⟨q - 1, by omega⟩
  unfold fC cntP
  rw [bitsN_c n (fun i _ => ?_)]
  show decide (ρ 2 i ≤ passN ρ n (c / 16 ^ (p + 1 - 1 - p) % 16) rn (csM ρ n rn σ (p + 1) c p) 2 i) = decide (ρ 2 i ≤ passN ρ n (dgN n (l * 2 ^ n) (p + 1 - 1 - p)) rn (csN ρ n rn σ (p + 1) (l * 2 ^ n) p) 2 i)
  rw [cs_M p (fun j hj => h (p + 1 - 1 - j) (by omega) (by omega))]
  rw [pass_2 (d1 := c / 16 ^ (p + 1 - 1 - p) % 16) (d2 := dgN n (l * 2 ^ n) (p + 1 - 1 - p))]
theorem plN_b (f : Nat → Nat) : ∀ m, (∀ l, l ≤ m → f l ≤ (plN f m).2) ∧ ∀ l, l < (plN f m).1 → f l < (plN f m).2
  | 0 => ⟨fun l hl => by rw [show l = 0 by omega]; exact Nat.le_refl _, fun l hl => absurd hl (Nat.not_lt_zero l)⟩
  | m + 1 => by
    obtain ⟨h1, h2⟩ := plN_b f m
    have h3 := plN_le f m
    rw [plN]
    by_cases e : (plN f m).2 < f (m + 1)
    · rw [if_pos e]
      refine ⟨fun l hl => ?_, fun l hl => ?_⟩
      · show f l ≤ f (m + 1)
        by_cases e2 : l = m + 1
        · rw [e2]; exact Nat.le_refl _
        · have := h1 l (by omega); omega
      · have hl' : l < m + 1 := hl
        show f l < f (m + 1)
        have := h1 l (by omega); omega
    · rw [if_neg e]
      refine ⟨fun l hl => ?_, h2⟩
      by_cases e2 : l = m + 1
      · rw [e2]; omega
      · exact h1 l (by omega)
theorem plV_b (ok : Nat → Bool) (f : Nat → Nat) (h0 : ok 0 = true) : ∀ m, ((plV ok f m).1 ≤ m ∧ ok (plV ok f m).1 = true) ∧ (∀ l, l ≤ m → ok l = true → f l ≤ (plV ok f m).2) ∧ ∀ l, l < (plV ok f m).1 → ok l = true → f l < (plV ok f m).2
  | 0 => ⟨⟨Nat.le_refl _, h0⟩, fun l hl _ => by rw [show l = 0 by omega]; exact Nat.le_refl _, fun l hl => absurd hl (Nat.not_lt_zero l)⟩
  | m + 1 => by
    obtain ⟨⟨h3, h4⟩, h1, h2⟩ := plV_b ok f h0 m
    rw [plV_s]
    by_cases e : ok (m + 1) = true ∧ (plV ok f m).2 < f (m + 1)
    · rw [if_pos e]
      refine ⟨⟨Nat.le_refl _, e.1⟩, fun l hl ho => ?_, fun l hl ho => ?_⟩
      · show f l ≤ f (m + 1)
        by_cases e2 : l = m + 1
        · rw [e2]; exact Nat.le_refl _
        · have := h1 l (by omega) ho; have := e.2; omega
      · have hl' : l < m + 1 := hl
        show f l < f (m + 1)
        have := h1 l (by omega) ho; have := e.2; omega
    · rw [if_neg e]
      refine ⟨⟨by omega, h4⟩, fun l hl ho => ?_, h2⟩
      by_cases e2 : l = m + 1
      · rw [e2] at ho ⊢
        by_cases e3 : (plV ok f m).2 < f (m + 1)
        · exact absurd ⟨ho, e3⟩ e
        · omega
      · exact h1 l (by omega) ho
/-- both plans are one -/
theorem pz_eq {ρ σ : SN} {n rn q : Nat} (hn : n ≤ 4) (hq1 : 1 ≤ q) (hq3 : q ≤ 3) : plV (okD n q) (fC ρ n rn σ q) (2 ^ (4 * q) - 1) = (pzE n q (plN (cntP ρ n rn σ q) (2 ^ min (n * (q - 1)) 8 - 1)).1, (plN (cntP ρ n rn σ q) (2 ^ min (n * (q - 1)) 8 - 1)).2) := by
  have hm : n * (q - 1) ≤ 4 * 2 := Nat.mul_le_mul hn (by omega)
  rw [Nat.min_eq_left hm, show (2 : Nat) ^ (4 * q) = 16 ^ q by rw [Nat.pow_mul]]
  have hL0 := Nat.two_pow_pos (n * (q - 1))
  have hC0 : 0 < 16 ^ q := Nat.pow_pos (by decide)
  generalize hPV : plV (okD n q) (fC ρ n rn σ q) (16 ^ q - 1) = B
  generalize hPN : plN (cntP ρ n rn σ q) (2 ^ (n * (q - 1)) - 1) = Aa
  obtain ⟨⟨b1, b2⟩, b3, b4⟩ := plV_b (okD n q) (fC ρ n rn σ q) okD_0 (16 ^ q - 1)
  have b5 := plV_v (okD n q) (fC ρ n rn σ q) (16 ^ q - 1)
  obtain ⟨a3, a4⟩ := plN_b (cntP ρ n rn σ q) (2 ^ (n * (q - 1)) - 1)
  have a1 := plN_le (cntP ρ n rn σ q) (2 ^ (n * (q - 1)) - 1)
  have a5 := plN_v (cntP ρ n rn σ q) (2 ^ (n * (q - 1)) - 1)
  rw [hPV] at b1 b2 b3 b4 b5
  rw [hPN] at a1 a3 a4 a5
  obtain ⟨c0, v0⟩ := B
  obtain ⟨l0, w0⟩ := Aa
  dsimp only at *
  obtain ⟨d1, d2, d3⟩ := pz2 hn hq1 hq3 (show c0 < 16 ^ q by omega) b2
  obtain ⟨e1, e2, e3, -⟩ := pz1 hn hq1 hq3 (show l0 < 2 ^ (n * (q - 1)) by omega)
  have f1 := fC_eq (ρ := ρ) (σ := σ) (rn := rn) hq1 d2
  have f2 := fC_eq (ρ := ρ) (σ := σ) (rn := rn) hq1 (fun m hm _ => e2 m hm)
  have g1 := a3 (pzD n q c0) (by omega)
  have g2 := b3 (pzE n q l0) (by omega) e3
  have hv : v0 = w0 := by omega
  have hc : c0 = pzE n q l0 := by
    rcases Nat.lt_trichotomy c0 (pzE n q l0) with h | h | h
    · by_cases hlt : pzD n q c0 < l0
      · have := a4 _ hlt; omega
      · have := pzE_mono hn hq1 hq3 (pzD n q c0 - l0) l0 (by omega)
        rw [show l0 + (pzD n q c0 - l0) = pzD n q c0 by omega] at this
        omega
    · exact h
    · have := b4 _ h e3; omega
  rw [hc, hv]
