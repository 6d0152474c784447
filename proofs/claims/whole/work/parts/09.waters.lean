set_option maxRecDepth 4000 in
theorem c_has {I : IT} {J : JT} {F : FT} {r n : Nat} {ρ : SN} (hr : isR r) (hR : atR I r ρ n) (x : Int32) : Sp 41 [vR r, vI x] KK I J F (fun R => R = (some (vI (b2 (inR x n))), KK, I, J, F)) := by
  have hn31 : n < 2 ^ 31 := by have := hR.1; omega
  have h631 : 6 < 2 ^ 31 := by decide
  have h00 : (0 : Int32).toInt = 0 := by decide
  have hn6 := hR.1
  refine Sp.mk2 (Nat.le_of_ble_eq_true rfl) (L2 := [_, _]) rfl ?_
  refine wp_iload_n (pc := 0) (i := 1) d_41_0 rfl rfl ?_
  refine wp_if_lt (pc := 1) (tgt := 22) d_41_1 (by decide) (fun zq1 => ?_) (fun zq1 => ?_)
  · refine wp_icN (pc := 22) (m := 0) d_41_22 (by decide) ?_
    refine wp_iret (pc := 23) d_41_23 (Or.inr ⟨rfl, by decide⟩) ?_
    rw [show inR x n = false from decide_eq_false (by simp only [Int32.lt_iff_toInt_lt, Int32.le_iff_toInt_le, nI_toInt hn31, nI_toInt h631, h00] at zq1; omega)]; rfl
  · refine wp_iload_n (pc := 4) (i := 1) d_41_4 rfl rfl ?_
    refine wp_aload_n (pc := 5) (i := 0) d_41_5 rfl rfl ?_
    refine wp_gI (pc := 6) d_41_6 fl_5_27 (kR hr) ft_4_5 hR.2.1 ?_
    refine wp_icmp_ge (pc := 9) (tgt := 22) d_41_9 (by decide) (fun zq9 => ?_) (fun zq9 => ?_)
    · refine wp_icN (pc := 22) (m := 0) d_41_22 (by decide) ?_
      refine wp_iret (pc := 23) d_41_23 (Or.inr ⟨rfl, by decide⟩) ?_
      rw [show inR x n = false from decide_eq_false (by simp only [Int32.lt_iff_toInt_lt, Int32.le_iff_toInt_le, nI_toInt hn31, nI_toInt h631, h00] at zq1 zq9; omega)]; rfl
    · refine wp_iload_n (pc := 12) (i := 1) d_41_12 rfl rfl ?_
      refine wp_bpN (pc := 13) (m := 6) d_41_13 (by decide) ?_
      refine wp_icmp_ge (pc := 15) (tgt := 22) d_41_15 (by decide) (fun zq15 => ?_) (fun zq15 => ?_)
      · refine wp_icN (pc := 22) (m := 0) d_41_22 (by decide) ?_
        refine wp_iret (pc := 23) d_41_23 (Or.inr ⟨rfl, by decide⟩) ?_
        rw [show inR x n = false from decide_eq_false (by simp only [Int32.lt_iff_toInt_lt, Int32.le_iff_toInt_le, nI_toInt hn31, nI_toInt h631, h00] at zq1 zq9 zq15; omega)]; rfl
      · refine wp_icN (pc := 18) (m := 1) d_41_18 (by decide) ?_
        refine wp_goto (pc := 19) (tgt := 23) d_41_19 (by decide) ?_
        refine wp_iret (pc := 23) d_41_23 (Or.inr ⟨rfl, by decide⟩) ?_
        rw [show inR x n = true from decide_eq_true (by simp only [Int32.lt_iff_toInt_lt, Int32.le_iff_toInt_le, nI_toInt hn31, nI_toInt h631, h00] at zq1 zq9 zq15; omega)]; rfl
set_option maxRecDepth 4000 in
theorem c_Rnumber {I : IT} {J : JT} {F : FT} {r n : Nat} {ρ : SN} (hr : isR r) (hR : atR I r ρ n) : Sp 47 [vR r] KK I J F (fun R => R = (some (vI (nI n)), KK, I, J, F)) := by
  refine Sp.mk2 (Nat.le_of_ble_eq_true rfl) (L2 := [_]) rfl ?_
  refine wp_aload_n (pc := 0) (i := 0) d_47_0 rfl rfl ?_
  refine wp_gI (pc := 1) d_47_1 fl_5_27 (kR hr) ft_4_5 hR.2.1 ?_
  exact wp_iret (pc := 4) d_47_4 (Or.inl rfl) rfl
set_option maxRecDepth 4000 in
theorem c_soilOf {I : IT} {J : JT} {F : FT} {r n j : Nat} {ρ : SN} (hF : Fok F) (hr : isR r) (hR : atR I r ρ n) (hj : j < n) : Sp 49 [vR r, vI (nI j)] KK I J F (fun R => R = (some (vI (nI (ρ 0 j))), KK, I, J, F)) := by
  have hj6 : j < 6 := by have := hR.1; omega
  have hin : inR (nI j) n = true := by rw [inR_nI (by omega)]; exact decide_eq_true hj
  refine Sp.mk2 (Nat.le_of_ble_eq_true rfl) (L2 := [_, _]) rfl ?_
  refine wp_aload_n (pc := 0) (i := 0) d_49_0 rfl rfl ?_
  refine wp_iload_n (pc := 1) (i := 1) d_49_1 rfl rfl ?_
  refine wp_callV1p (pc := 2) d_49_2 lk_5_31 (by decide) rfl (Nat.le_of_ble_eq_true rfl) (kR hr) rfl (c_has hr hR (nI j)) ?_
  refine wp_ifB_eq (pc := 5) (tgt := 17) d_49_5 (by decide) (fun zq5 => ?_) (fun zq5 => ?_)
  · refine wp_icN (pc := 17) (m := 0) d_49_17 (by decide) ?_
    exact absurd (zq5.symm.trans hin) (by decide)
  · refine wp_aload_n (pc := 8) (i := 0) d_49_8 rfl rfl ?_
    refine wp_gA (pc := 9) d_49_9 fl_5_9 (kR hr) ft_4_0 (fR hF hr (k := 0) (by decide)) ?_
    refine wp_iload_n (pc := 12) (i := 1) d_49_12 rfl rfl ?_
    refine wp_aL (pc := 13) (j := j) d_49_13 (kRa hr (k := 0) (by decide)) rfl hj6 (by decide) (hR.2.2 0 (by decide) _ (by omega)) ?_
    refine wp_goto (pc := 14) (tgt := 18) d_49_14 (by decide) ?_
    exact wp_iret (pc := 18) d_49_18 (Or.inl rfl) rfl
set_option maxRecDepth 4000 in
theorem c_gutterOf {I : IT} {J : JT} {F : FT} {r n j : Nat} {ρ : SN} (hF : Fok F) (hr : isR r) (hR : atR I r ρ n) (hj : j < n) : Sp 50 [vR r, vI (nI j)] KK I J F (fun R => R = (some (vI (nI (ρ 1 j))), KK, I, J, F)) := by
  have hj6 : j < 6 := by have := hR.1; omega
  have hin : inR (nI j) n = true := by rw [inR_nI (by omega)]; exact decide_eq_true hj
  refine Sp.mk2 (Nat.le_of_ble_eq_true rfl) (L2 := [_, _]) rfl ?_
  refine wp_aload_n (pc := 0) (i := 0) d_50_0 rfl rfl ?_
  refine wp_iload_n (pc := 1) (i := 1) d_50_1 rfl rfl ?_
  refine wp_callV1p (pc := 2) d_50_2 lk_5_31 (by decide) rfl (Nat.le_of_ble_eq_true rfl) (kR hr) rfl (c_has hr hR (nI j)) ?_
  refine wp_ifB_eq (pc := 5) (tgt := 17) d_50_5 (by decide) (fun zq5 => ?_) (fun zq5 => ?_)
  · refine wp_icN (pc := 17) (m := 0) d_50_17 (by decide) ?_
    exact absurd (zq5.symm.trans hin) (by decide)
  · refine wp_aload_n (pc := 8) (i := 0) d_50_8 rfl rfl ?_
    refine wp_gA (pc := 9) d_50_9 fl_5_15 (kR hr) ft_4_1 (fR hF hr (k := 1) (by decide)) ?_
    refine wp_iload_n (pc := 12) (i := 1) d_50_12 rfl rfl ?_
    refine wp_aL (pc := 13) (j := j) d_50_13 (kRa hr (k := 1) (by decide)) rfl hj6 (by decide) (hR.2.2 1 (by decide) _ (by omega)) ?_
    refine wp_goto (pc := 14) (tgt := 18) d_50_14 (by decide) ?_
    exact wp_iret (pc := 18) d_50_18 (Or.inl rfl) rfl
set_option maxRecDepth 4000 in
theorem c_wantOf {I : IT} {J : JT} {F : FT} {r n j : Nat} {ρ : SN} (hF : Fok F) (hr : isR r) (hR : atR I r ρ n) (hj : j < n) : Sp 48 [vR r, vI (nI j)] KK I J F (fun R => R = (some (vI (nI (ρ 2 j))), KK, I, J, F)) := by
  have hj6 : j < 6 := by have := hR.1; omega
  have hin : inR (nI j) n = true := by rw [inR_nI (by omega)]; exact decide_eq_true hj
  refine Sp.mk2 (Nat.le_of_ble_eq_true rfl) (L2 := [_, _]) rfl ?_
  refine wp_aload_n (pc := 0) (i := 0) d_48_0 rfl rfl ?_
  refine wp_iload_n (pc := 1) (i := 1) d_48_1 rfl rfl ?_
  refine wp_callV1p (pc := 2) d_48_2 lk_5_31 (by decide) rfl (Nat.le_of_ble_eq_true rfl) (kR hr) rfl (c_has hr hR (nI j)) ?_
  refine wp_ifB_eq (pc := 5) (tgt := 17) d_48_5 (by decide) (fun zq5 => ?_) (fun zq5 => ?_)
  · refine wp_icN (pc := 17) (m := 0) d_48_17 (by decide) ?_
    exact absurd (zq5.symm.trans hin) (by decide)
  · refine wp_aload_n (pc := 8) (i := 0) d_48_8 rfl rfl ?_
    refine wp_gA (pc := 9) d_48_9 fl_5_18 (kR hr) ft_4_2 (fR hF hr (k := 2) (by decide)) ?_
    refine wp_iload_n (pc := 12) (i := 1) d_48_12 rfl rfl ?_
    refine wp_aL (pc := 13) (j := j) d_48_13 (kRa hr (k := 2) (by decide)) rfl hj6 (by decide) (hR.2.2 2 (by decide) _ (by omega)) ?_
    refine wp_goto (pc := 14) (tgt := 18) d_48_14 (by decide) ?_
    exact wp_iret (pc := 18) d_48_18 (Or.inl rfl) rfl
set_option maxRecDepth 4000 in
theorem c_brimOf {I : IT} {J : JT} {F : FT} {r n j : Nat} {ρ : SN} (hF : Fok F) (hr : isR r) (hR : atR I r ρ n) (hj : j < n) : Sp 51 [vR r, vI (nI j)] KK I J F (fun R => R = (some (vI (nI (ρ 3 j))), KK, I, J, F)) := by
  have hj6 : j < 6 := by have := hR.1; omega
  have hin : inR (nI j) n = true := by rw [inR_nI (by omega)]; exact decide_eq_true hj
  refine Sp.mk2 (Nat.le_of_ble_eq_true rfl) (L2 := [_, _]) rfl ?_
  refine wp_aload_n (pc := 0) (i := 0) d_51_0 rfl rfl ?_
  refine wp_iload_n (pc := 1) (i := 1) d_51_1 rfl rfl ?_
  refine wp_callV1p (pc := 2) d_51_2 lk_5_31 (by decide) rfl (Nat.le_of_ble_eq_true rfl) (kR hr) rfl (c_has hr hR (nI j)) ?_
  refine wp_ifB_eq (pc := 5) (tgt := 17) d_51_5 (by decide) (fun zq5 => ?_) (fun zq5 => ?_)
  · refine wp_icN (pc := 17) (m := 0) d_51_17 (by decide) ?_
    exact absurd (zq5.symm.trans hin) (by decide)
  · refine wp_aload_n (pc := 8) (i := 0) d_51_8 rfl rfl ?_
    refine wp_gA (pc := 9) d_51_9 fl_5_21 (kR hr) ft_4_3 (fR hF hr (k := 3) (by decide)) ?_
    refine wp_iload_n (pc := 12) (i := 1) d_51_12 rfl rfl ?_
    refine wp_aL (pc := 13) (j := j) d_51_13 (kRa hr (k := 3) (by decide)) rfl hj6 (by decide) (hR.2.2 3 (by decide) _ (by omega)) ?_
    refine wp_goto (pc := 14) (tgt := 18) d_51_14 (by decide) ?_
    exact wp_iret (pc := 18) d_51_18 (Or.inl rfl) rfl
set_option maxRecDepth 4000 in
theorem c_atFirstOn {I : IT} {J : JT} {F : FT} {r n j : Nat} {ρ : SN} (hF : Fok F) (hr : isR r) (hR : atR I r ρ n) (hj6 : j < 6) : Sp 46 [vR r, vI (nI j)] KK I J F (fun R => R = (some (vI (nI (if j < n then ρ 4 j else 0))), KK, I, J, F)) := by
  refine Sp.mk2 (Nat.le_of_ble_eq_true rfl) (L2 := [_, _]) rfl ?_
  refine wp_aload_n (pc := 0) (i := 0) d_46_0 rfl rfl ?_
  refine wp_iload_n (pc := 1) (i := 1) d_46_1 rfl rfl ?_
  refine wp_callV1p (pc := 2) d_46_2 lk_5_31 (by decide) rfl (Nat.le_of_ble_eq_true rfl) (kR hr) rfl (c_has hr hR (nI j)) ?_
  refine wp_ifB_eq (pc := 5) (tgt := 17) d_46_5 (by decide) (fun zq5 => ?_) (fun zq5 => ?_)
  · refine wp_icN (pc := 17) (m := 0) d_46_17 (by decide) ?_
    exact wp_iret (pc := 18) d_46_18 (Or.inl rfl) (by rw [if_neg (by rw [inR_nI (by omega)] at zq5; exact of_decide_eq_false zq5)])
  · have hjn : j < n := by rw [inR_nI (by omega)] at zq5; exact of_decide_eq_true zq5
    refine wp_aload_n (pc := 8) (i := 0) d_46_8 rfl rfl ?_
    refine wp_gA (pc := 9) d_46_9 fl_5_24 (kR hr) ft_4_4 (fR hF hr (k := 4) (by decide)) ?_
    refine wp_iload_n (pc := 12) (i := 1) d_46_12 rfl rfl ?_
    refine wp_aL (pc := 13) (j := j) d_46_13 (kRa hr (k := 4) (by decide)) rfl hj6 (by decide) (hR.2.2 4 (by decide) _ (by omega)) ?_
    refine wp_goto (pc := 14) (tgt := 18) d_46_14 (by decide) ?_
    exact wp_iret (pc := 18) d_46_18 (Or.inl rfl) (by rw [if_pos hjn])
set_option maxRecDepth 4000 in
theorem c_waterOn {I : IT} {J : JT} {F : FT} {w j v : Nat} (hF : Fok F) (hw : isW w) (hj : j < 6) (hv : I (w + 1 + 0) j = nI v) : Sp 66 [vR w, vI (nI j)] KK I J F (fun R => R = (some (vI (nI v)), KK, I, J, F)) := by
  have hin : inR (nI j) 6 = true := by rw [inR_nI (by omega)]; exact decide_eq_true hj
  refine Sp.mk2 (Nat.le_of_ble_eq_true rfl) (L2 := [_, _]) rfl ?_
  refine wp_iload_n (pc := 0) (i := 1) d_66_0 rfl rfl ?_
  refine wp_callS1p (pc := 1) d_66_1 lk_8_37 (by decide) rfl (Nat.le_of_ble_eq_true rfl) (c_isPlace (nI j)) ?_
  refine wp_ifB_eq (pc := 4) (tgt := 16) d_66_4 (by decide) (fun zq4 => ?_) (fun zq4 => ?_)
  · refine wp_icN (pc := 16) (m := 0) d_66_16 (by decide) ?_
    exact absurd (zq4.symm.trans hin) (by decide)
  · refine wp_aload_n (pc := 7) (i := 0) d_66_7 rfl rfl ?_
    refine wp_gA (pc := 8) d_66_8 fl_8_9 (kW hw) ft_7_0 (fW hF hw (k := 0) (by decide)) ?_
    refine wp_iload_n (pc := 11) (i := 1) d_66_11 rfl rfl ?_
    refine wp_aL (pc := 12) (j := j) d_66_12 (kWa hw (k := 0) (by decide)) rfl hj (by decide) hv ?_
    refine wp_goto (pc := 13) (tgt := 17) d_66_13 (by decide) ?_
    exact wp_iret (pc := 17) d_66_17 (Or.inl rfl) rfl
set_option maxRecDepth 4000 in
theorem c_soapOn {I : IT} {J : JT} {F : FT} {w j v : Nat} (hF : Fok F) (hw : isW w) (hj : j < 6) (hv : I (w + 1 + 1) j = nI v) : Sp 68 [vR w, vI (nI j)] KK I J F (fun R => R = (some (vI (nI v)), KK, I, J, F)) := by
  have hin : inR (nI j) 6 = true := by rw [inR_nI (by omega)]; exact decide_eq_true hj
  refine Sp.mk2 (Nat.le_of_ble_eq_true rfl) (L2 := [_, _]) rfl ?_
  refine wp_iload_n (pc := 0) (i := 1) d_68_0 rfl rfl ?_
  refine wp_callS1p (pc := 1) d_68_1 lk_8_37 (by decide) rfl (Nat.le_of_ble_eq_true rfl) (c_isPlace (nI j)) ?_
  refine wp_ifB_eq (pc := 4) (tgt := 16) d_68_4 (by decide) (fun zq4 => ?_) (fun zq4 => ?_)
  · refine wp_icN (pc := 16) (m := 0) d_68_16 (by decide) ?_
    exact absurd (zq4.symm.trans hin) (by decide)
  · refine wp_aload_n (pc := 7) (i := 0) d_68_7 rfl rfl ?_
    refine wp_gA (pc := 8) d_68_8 fl_8_15 (kW hw) ft_7_1 (fW hF hw (k := 1) (by decide)) ?_
    refine wp_iload_n (pc := 11) (i := 1) d_68_11 rfl rfl ?_
    refine wp_aL (pc := 12) (j := j) d_68_12 (kWa hw (k := 1) (by decide)) rfl hj (by decide) hv ?_
    refine wp_goto (pc := 13) (tgt := 17) d_68_13 (by decide) ?_
    exact wp_iret (pc := 17) d_68_17 (Or.inl rfl) rfl
set_option maxRecDepth 4000 in
theorem c_gotBy {I : IT} {J : JT} {F : FT} {w j v : Nat} (hF : Fok F) (hw : isW w) (hj : j < 6) (hv : I (w + 1 + 2) j = nI v) : Sp 69 [vR w, vI (nI j)] KK I J F (fun R => R = (some (vI (nI v)), KK, I, J, F)) := by
  have hin : inR (nI j) 6 = true := by rw [inR_nI (by omega)]; exact decide_eq_true hj
  refine Sp.mk2 (Nat.le_of_ble_eq_true rfl) (L2 := [_, _]) rfl ?_
  refine wp_iload_n (pc := 0) (i := 1) d_69_0 rfl rfl ?_
  refine wp_callS1p (pc := 1) d_69_1 lk_8_37 (by decide) rfl (Nat.le_of_ble_eq_true rfl) (c_isPlace (nI j)) ?_
  refine wp_ifB_eq (pc := 4) (tgt := 16) d_69_4 (by decide) (fun zq4 => ?_) (fun zq4 => ?_)
  · refine wp_icN (pc := 16) (m := 0) d_69_16 (by decide) ?_
    exact absurd (zq4.symm.trans hin) (by decide)
  · refine wp_aload_n (pc := 7) (i := 0) d_69_7 rfl rfl ?_
    refine wp_gA (pc := 8) d_69_8 fl_8_18 (kW hw) ft_7_2 (fW hF hw (k := 2) (by decide)) ?_
    refine wp_iload_n (pc := 11) (i := 1) d_69_11 rfl rfl ?_
    refine wp_aL (pc := 12) (j := j) d_69_12 (kWa hw (k := 2) (by decide)) rfl hj (by decide) hv ?_
    refine wp_goto (pc := 13) (tgt := 17) d_69_13 (by decide) ?_
    exact wp_iret (pc := 17) d_69_17 (Or.inl rfl) rfl
set_option maxRecDepth 4000 in
theorem c_spoiltOn {I : IT} {J : JT} {F : FT} {w j v : Nat} (hF : Fok F) (hw : isW w) (hj : j < 6) (hv : I (w + 1 + 3) j = nI v) : Sp 70 [vR w, vI (nI j)] KK I J F (fun R => R = (some (vI (nI v)), KK, I, J, F)) := by
  have hin : inR (nI j) 6 = true := by rw [inR_nI (by omega)]; exact decide_eq_true hj
  refine Sp.mk2 (Nat.le_of_ble_eq_true rfl) (L2 := [_, _]) rfl ?_
  refine wp_iload_n (pc := 0) (i := 1) d_70_0 rfl rfl ?_
  refine wp_callS1p (pc := 1) d_70_1 lk_8_37 (by decide) rfl (Nat.le_of_ble_eq_true rfl) (c_isPlace (nI j)) ?_
  refine wp_ifB_eq (pc := 4) (tgt := 16) d_70_4 (by decide) (fun zq4 => ?_) (fun zq4 => ?_)
  · refine wp_icN (pc := 16) (m := 0) d_70_16 (by decide) ?_
    exact absurd (zq4.symm.trans hin) (by decide)
  · refine wp_aload_n (pc := 7) (i := 0) d_70_7 rfl rfl ?_
    refine wp_gA (pc := 8) d_70_8 fl_8_21 (kW hw) ft_7_3 (fW hF hw (k := 3) (by decide)) ?_
    refine wp_iload_n (pc := 11) (i := 1) d_70_11 rfl rfl ?_
    refine wp_aL (pc := 12) (j := j) d_70_12 (kWa hw (k := 3) (by decide)) rfl hj (by decide) hv ?_
    refine wp_goto (pc := 13) (tgt := 17) d_70_13 (by decide) ?_
    exact wp_iret (pc := 17) d_70_17 (Or.inl rfl) rfl
set_option maxRecDepth 4000 in
theorem c_waterInButt {I : IT} {J : JT} {F : FT} {w v : Nat} (hw : isW w) (hv : I w 4 = nI v) : Sp 81 [vR w] KK I J F (fun R => R = (some (vI (nI v)), KK, I, J, F)) := by
  refine Sp.mk2 (Nat.le_of_ble_eq_true rfl) (L2 := [_]) rfl ?_
  refine wp_aload_n (pc := 0) (i := 0) d_81_0 rfl rfl ?_
  refine wp_gI (pc := 1) d_81_1 fl_8_24 (kW hw) ft_7_4 hv ?_
  exact wp_iret (pc := 4) d_81_4 (Or.inl rfl) rfl
set_option maxRecDepth 4000 in
theorem c_soapInButt {I : IT} {J : JT} {F : FT} {w v : Nat} (hw : isW w) (hv : I w 5 = nI v) : Sp 80 [vR w] KK I J F (fun R => R = (some (vI (nI v)), KK, I, J, F)) := by
  refine Sp.mk2 (Nat.le_of_ble_eq_true rfl) (L2 := [_]) rfl ?_
  refine wp_aload_n (pc := 0) (i := 0) d_80_0 rfl rfl ?_
  refine wp_gI (pc := 1) d_80_1 fl_8_28 (kW hw) ft_7_5 hv ?_
  exact wp_iret (pc := 4) d_80_4 (Or.inl rfl) rfl
set_option maxRecDepth 4000 in
theorem c_quarters {I : IT} {J : JT} {F : FT} {w v : Nat} (hw : isW w) (hv : I w 6 = nI v) : Sp 83 [vR w] KK I J F (fun R => R = (some (vI (nI v)), KK, I, J, F)) := by
  refine Sp.mk2 (Nat.le_of_ble_eq_true rfl) (L2 := [_]) rfl ?_
  refine wp_aload_n (pc := 0) (i := 0) d_83_0 rfl rfl ?_
  refine wp_gI (pc := 1) d_83_1 fl_8_31 (kW hw) ft_7_6 hv ?_
  exact wp_iret (pc := 4) d_83_4 (Or.inl rfl) rfl
set_option maxRecDepth 4000 in
theorem c_damBits {I : IT} {J : JT} {F : FT} {w v : Nat} (hw : isW w) (hv : I w 7 = nI v) : Sp 72 [vR w] KK I J F (fun R => R = (some (vI (nI v)), KK, I, J, F)) := by
  refine Sp.mk2 (Nat.le_of_ble_eq_true rfl) (L2 := [_]) rfl ?_
  refine wp_aload_n (pc := 0) (i := 0) d_72_0 rfl rfl ?_
  refine wp_gI (pc := 1) d_72_1 fl_8_34 (kW hw) ft_7_7 hv ?_
  exact wp_iret (pc := 4) d_72_4 (Or.inl rfl) rfl
set_option maxRecDepth 4000 in
theorem c_setDams {I : IT} {J : JT} {F : FT} {w : Nat} {σ : SN} (hw : isW w) (hA : atW I w σ) (v : Nat) : Sp 73 [vR w, vI (nI v)] KK I J F (fun R => ∃ I2, R = (none, KK, I2, J, F) ∧ atW I2 w (s2 σ 4 7 v) ∧ offW w I I2) := by
  refine Sp.mk2 (Nat.le_of_ble_eq_true rfl) (L2 := [_, _]) rfl ?_
  refine wp_aload_n (pc := 0) (i := 0) d_73_0 rfl rfl ?_
  refine wp_iload_n (pc := 1) (i := 1) d_73_1 rfl rfl ?_
  refine wp_pI (pc := 2) d_73_2 fl_8_34 (kW hw) ft_7_7 rfl (fun Iq2 uq2 => ?_)
  exact wp_vret (pc := 5) d_73_5 rfl ⟨_, rfl, atW_fld hA uq2, offW_fld uq2⟩
/-- the soap that goes along: of s, with g of a -/
def alg (s g a : Nat) : Nat := if a ≤ g ∨ a < 1 then s else s * g / a
theorem alg_le (s g a : Nat) : alg s g a ≤ s := by
  unfold alg
  by_cases h : a ≤ g ∨ a < 1
  · rw [if_pos h]
    exact Nat.le_refl _
  · rw [if_neg h]
    refine Nat.div_le_of_le_mul ?_
    rw [Nat.mul_comm a s]
    exact Nat.mul_le_mul_left s (by omega)
set_option maxRecDepth 4000 in
theorem c_soapAlong {I : IT} {J : JT} {F : FT} {s g a : Nat} (hs : s < 2 ^ 31) (hg : g < 2 ^ 31) (ha : a < 2 ^ 31) : Sp 77 [vI (nI s), vI (nI g), vI (nI a)] KK I J F (fun R => R = (some (vI (nI (alg s g a))), KK, I, J, F)) := by
  refine Sp.mk2 (Nat.le_of_ble_eq_true rfl) (L2 := [_, _, _]) rfl ?_
  refine wp_iload_n (pc := 0) (i := 1) d_77_0 rfl rfl ?_
  refine wp_iload_n (pc := 1) (i := 2) d_77_1 rfl rfl ?_
  refine wp_icmpN_ge (pc := 2) (tgt := 10) d_77_2 (by decide) hg ha (fun zq2 => ?_) (fun zq2 => ?_)
  · refine wp_iload_n (pc := 10) (i := 0) d_77_10 rfl rfl ?_
    exact wp_iret (pc := 11) d_77_11 (Or.inl rfl) (by rw [show alg s g a = s from if_pos (by omega)])
  · refine wp_iload_n (pc := 5) (i := 2) d_77_5 rfl rfl ?_
    refine wp_icN (pc := 6) (m := 1) d_77_6 (by decide) ?_
    refine wp_icmpN_ge (pc := 7) (tgt := 12) d_77_7 (by decide) ha (by decide) (fun zq7 => ?_) (fun zq7 => ?_)
    · refine wp_iload_n (pc := 12) (i := 0) d_77_12 rfl rfl ?_
      refine wp_i2l (pc := 13) d_77_13 ?_
      refine wp_iload_n (pc := 14) (i := 1) d_77_14 rfl rfl ?_
      refine wp_i2l (pc := 15) d_77_15 ?_
      refine wp_lmul (pc := 16) d_77_16 ?_
      refine wp_iload_n (pc := 17) (i := 2) d_77_17 rfl rfl ?_
      refine wp_i2l (pc := 18) d_77_18 ?_
      refine wp_ldiv (pc := 19) d_77_19 (by rw [nI_l ha]; intro q; have := (lN_eq ha (by decide : 0 < 2 ^ 31)).mp q; omega) ?_
      refine wp_l2i (pc := 20) d_77_20 ?_
      exact wp_iret (pc := 21) d_77_21 (Or.inl rfl) (by rw [show alg s g a = s * g / a from if_neg (by omega), nI_l hs, nI_l hg, nI_l ha, lN_mul, pk_lDiv (Nat.lt_of_lt_of_le (Nat.mul_lt_mul_of_lt_of_le hs (Nat.le_of_lt hg) (by decide)) (by decide)) (by omega) (by omega), lN_i])
    · refine wp_iload_n (pc := 10) (i := 0) d_77_10 rfl rfl ?_
      exact wp_iret (pc := 11) d_77_11 (Or.inl rfl) (by rw [show alg s g a = s from if_pos (by omega)])
