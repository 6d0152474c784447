/-! THE RULES HOLD OF THE MACHINE: the pure machine's cells lie at base + 1, base + 2, ..; the script at b -/
def ad (b base : Nat) : Nat → Nat := fun a => if a = 0 then b else base + a
def vv (f : Nat → Nat) (v : VV) : Value := match v with
  | .inl x => .int x
  | .inr (.inl x) => .long x
  | .inr (.inr r) => va_rf (r.map f)
theorem vv_cat (f : Nat → Nat) (v : VV) : (vv f v).category = cat v := by
  rcases v with x | x | x
  · rfl
  · rfl
  · cases x <;> rfl
theorem vv_cats (f : Nat → Nat) (st : List VV) : ((st.map (vv f)).map fun v => v.category).sum = vcats st := by
  unfold vcats
  rw [List.map_map]
  congr 2
  funext v
  exact vv_cat f v
def lvs (f : Nat → Nat) (L : LL) : List (Nat × Value) := L.zipIdx.filterMap (fun q => q.1.map (fun v => (q.2, vv f v)))
theorem lvs_mem {f : Nat → Nat} {L : LL} {i : Nat} {w : Value} : (i, w) ∈ lvs f L ↔ ∃ v, L[i]? = some (some v) ∧ vv f v = w := by
  unfold lvs
  rw [List.mem_filterMap]
  constructor
  · rintro ⟨⟨q, j⟩, h1, h2⟩
    have h3 := List.mem_zipIdx_iff_getElem?.mp h1
    cases q with
    | none => cases h2
    | some v =>
      simp only [Option.map_some, Option.some.injEq, Prod.mk.injEq] at h2
      obtain ⟨rfl, rfl⟩ := h2
      exact ⟨v, h3, rfl⟩
  · rintro ⟨v, h1, rfl⟩
    exact ⟨(some v, i), List.mem_zipIdx_iff_getElem?.mpr h1, rfl⟩
def LR (f : Nat → Nat) (n : Nat) (L : LL) (ls : Array Slot) : Prop := ls.size = n ∧ lv_wf ls ∧ ∀ (i : Nat) (v : VV), L[i]? = some (some v) → ls[i]? = some (.val (vv f v))
theorem lr_has {f : Nat → Nat} {n : Nat} {L : LL} {ls : Array Slot} (h : LR f n L ls) : lv_has ls n (lvs f L) := by
  refine ⟨h.1, h.2.1, fun q hq => ?_⟩
  obtain ⟨i, w⟩ := q
  obtain ⟨v, h1, rfl⟩ := lvs_mem.mp hq
  exact h.2.2 i v h1
theorem vv_two {f : Nat → Nat} {v : VV} (h : (vv f v).category = 2) : nlB (some v) = false := by
  rw [vv_cat] at h
  rcases v with x | x | x
  · cases h
  · rfl
  · cases h
theorem pvB_cat {f : Nat → Nat} {L : LL} {j i : Nat} {v : VV} (hp : pvB L i = true) (h : L[j]? = some (some v)) (hj : j + 1 = i) : ¬ (vv f v).category = 2 := by
  subst hj
  intro z
  have h1 := vv_two z
  have h2 : nlB (L.getD j none) = true := hp
  rw [List.getD_eq_getElem?_getD, h] at h2
  rw [Option.getD_some] at h2
  rw [h1] at h2
  cases h2
theorem lr_st1 {f : Nat → Nat} {n i : Nat} {L : LL} {ls2 : Array Slot} {v : VV} (hn : i < L.length) (hp : pvB L i = true) (h : lv_has ls2 n ((i, vv f v) :: (lvs f L).filter (fun q => !(q.1 == i) && !(q.1 + 1 == i && q.2.category == 2)))) : LR f n (L.set i (some v)) ls2 := by
  refine ⟨h.1, h.2.1, fun j w hj => ?_⟩
  by_cases hji : j = i
  · subst hji
    rw [List.getElem?_set_self hn] at hj
    cases hj
    exact h.2.2 _ List.mem_cons_self
  · rw [List.getElem?_set_ne (Ne.symm hji)] at hj
    refine h.2.2 (j, vv f w) (List.mem_cons_of_mem _ (List.mem_filter.mpr ⟨lvs_mem.mpr ⟨w, hj, rfl⟩, ?_⟩))
    by_cases hc : j + 1 = i
    · have := pvB_cat (f := f) hp hj hc
      simp [hji, this]
    · simp [hji, hc]
theorem lr_st2 {f : Nat → Nat} {n i : Nat} {L : LL} {ls2 : Array Slot} {v : VV} (hn : i + 1 < L.length) (hp : pvB L i = true) (h : lv_has ls2 n ((i, vv f v) :: (lvs f L).filter (fun q => !(q.1 == i) && (!(q.1 == i + 1) && !(q.1 + 1 == i && q.2.category == 2))))) : LR f n ((L.set i (some v)).set (i + 1) none) ls2 := by
  refine ⟨h.1, h.2.1, fun j w hj => ?_⟩
  by_cases hj1 : j = i + 1
  · subst hj1
    rw [List.getElem?_set_self (by simpa using hn)] at hj
    cases hj
  · rw [List.getElem?_set_ne (Ne.symm hj1)] at hj
    by_cases hji : j = i
    · subst hji
      rw [List.getElem?_set_self (by omega)] at hj
      cases hj
      exact h.2.2 _ List.mem_cons_self
    · rw [List.getElem?_set_ne (Ne.symm hji)] at hj
      refine h.2.2 (j, vv f w) (List.mem_cons_of_mem _ (List.mem_filter.mpr ⟨lvs_mem.mpr ⟨w, hj, rfl⟩, ?_⟩))
      by_cases hc : j + 1 = i
      · have := pvB_cat (f := f) hp hj hc
        simp [hji, hj1, this]
      · simp [hji, hj1, hc]
def fval (f : Nat → Nat) (I : IT) (J : JT) (F : FT) (a ci j : Nat) : Value := match fty ci j with
  | 0 => .int (I a j)
  | 1 => .long (J a j)
  | _ => va_rf ((F a j).map f)
def cellE (cA : Nat → ClassId) (f : Nat → Nat) (I : IT) (J : JT) (F : FT) (q : Nat × Nat) (a : Nat) : va_E :=
  if q.1 < 10 then .inr (q.1, (List.range (nfl q.1)).map (fun j => fval f I J F a q.1 j))
  else if q.1 = 12 then .inl (cA 2, q.2, .inr (.inr (.inr (.inr (fun j => (F a j).map f)))))
  else .inl (cA (q.1 - 10), q.2, .inl (I a))
def wd (cA : Nat → ClassId) (b base : Nat) (K : KT) (I : IT) (J : JT) (F : FT) : va_W := (List.range (K.length - 1)).map (fun i => (ad b base (i + 1), cellE cA (ad b base) I J F (K.getD (i + 1) (0, 0)) (i + 1)))
def K99 (K : KT) : Prop := K[0]? = some (99, 0)
theorem k99_pos {K : KT} (h : K99 K) : 0 < K.length := (List.getElem?_eq_some_iff.mp h).1
theorem k99_ne {K : KT} {a ci n : Nat} (h : K99 K) (hk : K[a]? = some (ci, n)) (hc : ci ≠ 99) : 0 < a := by
  rcases Nat.eq_zero_or_pos a with z | z
  · subst z
    rw [h] at hk
    cases hk
    exact absurd rfl hc
  · exact z
theorem ad_pos {b base a : Nat} (h : 0 < a) : ad b base a = base + a := by
  unfold ad
  rw [if_neg (by omega)]
theorem wd_get {cA : Nat → ClassId} {b base : Nat} {K : KT} {I : IT} {J : JT} {F : FT} {a ci n : Nat} (h0 : 0 < a) (hk : K[a]? = some (ci, n)) : (wd cA b base K I J F)[a - 1]? = some (ad b base a, cellE cA (ad b base) I J F (ci, n) a) := by
  have hl := (List.getElem?_eq_some_iff.mp hk).1
  unfold wd
  rw [List.getElem?_map, List.getElem?_range (by omega)]
  simp only [Option.map_some]
  rw [show a - 1 + 1 = a by omega, List.getD_eq_getElem?_getD, hk]
  rfl
theorem wd_at {cA : Nat → ClassId} {b base : Nat} {K : KT} {I : IT} {J : JT} {F : FT} {i : Nat} {q : Nat × va_E} (h : (wd cA b base K I J F)[i]? = some q) : i < K.length - 1 ∧ q = (base + (i + 1), cellE cA (ad b base) I J F (K.getD (i + 1) (0, 0)) (i + 1)) := by
  have hl := (List.getElem?_eq_some_iff.mp h).1
  unfold wd at h hl
  rw [List.length_map, List.length_range] at hl
  rw [List.getElem?_map, List.getElem?_range hl] at h
  simp only [Option.map_some, Option.some.injEq] at h
  refine ⟨hl, ?_⟩
  rw [← h, ad_pos (by omega)]
theorem wd_D {cA : Nat → ClassId} {b base : Nat} {K : KT} {I : IT} {J : JT} {F : FT} : va_D (fun q => base + 1 ≤ q) (wd cA b base K I J F) := by
  refine ⟨fun i j p q hi hj e => ?_, fun k q hk => ?_⟩
  · obtain ⟨-, rfl⟩ := wd_at hi
    obtain ⟨-, rfl⟩ := wd_at hj
    have e' : base + (i + 1) = base + (j + 1) := e
    omega
  · obtain ⟨-, rfl⟩ := wd_at hk
    show base + 1 ≤ base + (k + 1)
    omega
theorem wd_set {cA : Nat → ClassId} {b base : Nat} {K : KT} {I I2 : IT} {J J2 : JT} {F F2 : FT} {a : Nat} {q : Nat × Nat} {e : va_E} (h0 : 0 < a) (hk : K[a]? = some q) (ho : ∀ (a' : Nat) (q' : Nat × Nat), a' ≠ a → cellE cA (ad b base) I2 J2 F2 q' a' = cellE cA (ad b base) I J F q' a') (he : cellE cA (ad b base) I2 J2 F2 q a = e) : (wd cA b base K I J F).set (a - 1) (ad b base a, e) = wd cA b base K I2 J2 F2 := by
  have hl := (List.getElem?_eq_some_iff.mp hk).1
  apply List.ext_getElem?
  intro i
  by_cases hi : i = a - 1
  · subst hi
    rw [wd_get (ci := q.1) (n := q.2) h0 hk, List.getElem?_set_self (by unfold wd; rw [List.length_map, List.length_range]; omega), ← he]
  · rw [List.getElem?_set_ne (Ne.symm hi)]
    unfold wd
    rw [List.getElem?_map, List.getElem?_map]
    by_cases hr : i < K.length - 1
    · rw [List.getElem?_range hr]
      simp only [Option.map_some]
      rw [ho (i + 1) _ (by omega)]
    · rw [List.getElem?_eq_none (by rw [List.length_range]; omega)]
      rfl
theorem wd_push {cA : Nat → ClassId} {b base : Nat} {K : KT} {I I2 : IT} {J J2 : JT} {F F2 : FT} {q : Nat × Nat} (h0 : 0 < K.length) (ho : ∀ (a' : Nat) (q' : Nat × Nat), a' ≠ K.length → cellE cA (ad b base) I2 J2 F2 q' a' = cellE cA (ad b base) I J F q' a') : wd cA b base (K ++ [q]) I2 J2 F2 = wd cA b base K I J F ++ [(ad b base K.length, cellE cA (ad b base) I2 J2 F2 q K.length)] := by
  apply List.ext_getElem?
  intro i
  have hlw : (wd cA b base K I J F).length = K.length - 1 := by unfold wd; rw [List.length_map, List.length_range]
  have hz : (K ++ [q]).length - 1 = K.length := by simp
  by_cases hi : i < K.length - 1
  · rw [List.getElem?_append_left (by omega)]
    unfold wd
    rw [hz, List.getElem?_map, List.getElem?_map, List.getElem?_range hi, List.getElem?_range (by omega)]
    simp only [Option.map_some]
    rw [ho (i + 1) _ (by omega), List.getD_eq_getElem?_getD, List.getD_eq_getElem?_getD, List.getElem?_append_left (by omega)]
  · rw [List.getElem?_append_right (by omega), hlw]
    by_cases hj : i = K.length - 1
    · subst hj
      unfold wd
      rw [hz, List.getElem?_map, List.getElem?_range (by omega), Nat.sub_self]
      simp only [Option.map_some, List.getElem?_cons_zero]
      rw [show K.length - 1 + 1 = K.length by omega, List.getD_eq_getElem?_getD, List.getElem?_append_right (Nat.le_refl _), Nat.sub_self]
      rfl
    · unfold wd
      rw [hz, List.getElem?_map, List.getElem?_eq_none (by rw [List.length_range]; omega)]
      rw [List.getElem?_eq_none (by simp; omega)]
      rfl
def WD (D : va_G) (cA : Nat → ClassId) (b base : Nat) (K : KT) (I : IT) (J : JT) (F : FT) (H : Heap) : Prop := va_P D vwCl (wd cA b base K I J F) H ∧ H.size = base + K.length ∧ K99 K
abbrev gg_tys (cA : Nat → ClassId) : List (ClassId × FieldType) := [(cA 0, .int), (cA 1, .boolean), (cA 2, .object "GutterGardens$Waters")]
abbrev gg_A (base : Nat) : Nat → Prop := fun q => base + 1 ≤ q
/-- what a method's frame stands on -/
def CX (p : Program) (l : Launch) (e : Env) (R : Room) (s : State) (m : MethodId) (args : Array Value) (below : List Frame) (meth : Method) (c : Code) (y b base : Nat) (D : va_G) (cA : Nat → ClassId) (scr : Option (Nat × (Nat → Int32))) : Prop :=
  p.tables.exec = Jvm.exec ∧ c.code = mB y ∧ c.maxLocals = mL y ∧ meth.sig.returnType = mR y ∧ meth.locks = false ∧ (∀ w ∈ gg_GW, w.before args s = true) ∧ (∀ q ∈ gg_NQ, va_Nw (.methodLinkNest q.1 q.2.1 q.2.2.1 q.2.2.2) s) ∧ va_AO "GutterGardens$Waters" s ∧ s.vm.findClass (mN y).cls = some m.cls ∧ va_K D vwCl (gg_tys cA) s ∧ ((mN y).name = "<init>" → meth.name = "<init>") ∧ base + 1 ≤ s.heap.size ∧ 1 ≤ mK y ∧ mK y ≤ R.frames ∧ 40 * mK y ≤ R.locals ∧ (∀ (n : Nat) (xs : Nat → Int32), scr = some (n, xs) → va_X b n xs s s.heap ∧ b < s.heap.size ∧ ¬ gg_A base b)
def Rl (s : State) (y b base k0 n0 : Nat) (D : va_G) (cA : Nat → ClassId) (L : LL) (K : KT) (I : IT) (J : JT) (F : FT) (ls : Array Slot) (H : Heap) (locs : List Loc) (kk nn : Nat) : Prop :=
  LR (ad b base) (mL y) L ls ∧ L.length = mL y ∧ WD D cA b base K I J F H ∧ va_S (gg_A base) s.heap H locs ∧ K.length = k0 + kk ∧ ksum K = n0 + nn
def XX (p : Program) (l : Launch) (e : Env) (R : Room) (s : State) (m : MethodId) (args : Array Value) (below : List Frame) (meth : Method) (c : Code) (Q : State → Prop) (y b base k0 n0 : Nat) (D : va_G) (cA : Nat → ClassId) : XT := fun pc L st K I J F =>
  (K.length ≤ k0 + R.cells ∧ ksum K ≤ n0 + R.slots) ∧ ∀ (ls : Array Slot) (H : Heap) (locs : List Loc) (kk nn : Nat), Rl s y b base k0 n0 D cA L K I J F ls H locs kk nn → W p l e R s m args below meth c H locs kk nn Q (F0 m pc ls (st.map (vv (ad b base))))
theorem sh_0 : ∀ k, k < 3 → (match parseFieldDescriptor (TX0 k).2.2.1 with | some .int => true | some .long => true | some (.object _) => true | some (.array _) => true | _ => false) = true := by decide +kernel
theorem sh_1 : ∀ k, k < 7 → (match parseFieldDescriptor (TX1 k).2.2.1 with | some .int => true | some .long => true | some (.object _) => true | some (.array _) => true | _ => false) = true := by decide +kernel
theorem sh_2 : ∀ k, k < 6 → (match parseFieldDescriptor (TX2 k).2.2.1 with | some .int => true | some .long => true | some (.object _) => true | some (.array _) => true | _ => false) = true := by decide +kernel
theorem sh_3 : ∀ k, k < 5 → (match parseFieldDescriptor (TX3 k).2.2.1 with | some .int => true | some .long => true | some (.object _) => true | some (.array _) => true | _ => false) = true := by decide +kernel
theorem sh_4 : ∀ k, k < 6 → (match parseFieldDescriptor (TX4 k).2.2.1 with | some .int => true | some .long => true | some (.object _) => true | some (.array _) => true | _ => false) = true := by decide +kernel
theorem sh_5 : ∀ k, k < 3 → (match parseFieldDescriptor (TX5 k).2.2.1 with | some .int => true | some .long => true | some (.object _) => true | some (.array _) => true | _ => false) = true := by decide +kernel
theorem sh_6 : ∀ k, k < 2 → (match parseFieldDescriptor (TX6 k).2.2.1 with | some .int => true | some .long => true | some (.object _) => true | some (.array _) => true | _ => false) = true := by decide +kernel
theorem sh_7 : ∀ k, k < 8 → (match parseFieldDescriptor (TX7 k).2.2.1 with | some .int => true | some .long => true | some (.object _) => true | some (.array _) => true | _ => false) = true := by decide +kernel
theorem sh_8 : ∀ k, k < 9 → (match parseFieldDescriptor (TX8 k).2.2.1 with | some .int => true | some .long => true | some (.object _) => true | some (.array _) => true | _ => false) = true := by decide +kernel
theorem sh_9 : ∀ k, k < 26 → (match parseFieldDescriptor (TX9 k).2.2.1 with | some .int => true | some .long => true | some (.object _) => true | some (.array _) => true | _ => false) = true := by decide +kernel
theorem gg_cls {ci n : Nat} {C : String} {T : u_T} (h : vwCl[ci]? = some (C, T, n)) : (∀ w ∈ u_ws C T n, w ∈ gg_GW) ∧ (Cond.instantiable C n) ∈ gg_GW ∧ (Cond.initialized C) ∈ gg_GW ∧ (∃ ty : Nat → FieldType, ∀ k, k < n → parseFieldDescriptor (T k).2.2.1 = some (ty k)) ∧ (∀ a, a < n → ∀ b, b < n → a ≠ b → (T a).2.1 ≠ (T b).2.1) ∧ (∀ k, k < n → (match parseFieldDescriptor (T k).2.2.1 with | some .int => true | some .long => true | some (.object _) => true | some (.array _) => true | _ => false) = true) ∧ ci < 10 := by
  match ci, h with
  | 0, h => cases h; exact ⟨wsin_0, in_0, ini_0, ⟨tyX0, tyX0_ok⟩, nmX0, sh_0, by decide⟩
  | 1, h => cases h; exact ⟨wsin_1, in_1, ini_1, ⟨tyX1, tyX1_ok⟩, nmX1, sh_1, by decide⟩
  | 2, h => cases h; exact ⟨wsin_2, in_2, ini_2, ⟨tyX2, tyX2_ok⟩, nmX2, sh_2, by decide⟩
  | 3, h => cases h; exact ⟨wsin_3, in_3, ini_3, ⟨tyX3, tyX3_ok⟩, nmX3, sh_3, by decide⟩
  | 4, h => cases h; exact ⟨wsin_4, in_4, ini_4, ⟨tyX4, tyX4_ok⟩, nmX4, sh_4, by decide⟩
  | 5, h => cases h; exact ⟨wsin_5, in_5, ini_5, ⟨tyX5, tyX5_ok⟩, nmX5, sh_5, by decide⟩
  | 6, h => cases h; exact ⟨wsin_6, in_6, ini_6, ⟨tyX6, tyX6_ok⟩, nmX6, sh_6, by decide⟩
  | 7, h => cases h; exact ⟨wsin_7, in_7, ini_7, ⟨tyX7, tyX7_ok⟩, nmX7, sh_7, by decide⟩
  | 8, h => cases h; exact ⟨wsin_8, in_8, ini_8, ⟨tyX8, tyX8_ok⟩, nmX8, sh_8, by decide⟩
  | 9, h => cases h; exact ⟨wsin_9, in_9, ini_9, ⟨tyX9, tyX9_ok⟩, nmX9, sh_9, by decide⟩
  | k + 10, h => simp [vwCl] at h
theorem gg_nfl {ci n : Nat} {C : String} {T : u_T} (h : vwCl[ci]? = some (C, T, n)) : nfl ci = n := by
  unfold nfl
  rw [List.getD_eq_getElem?_getD, h]
  rfl
theorem gg_T {ci n : Nat} {C : String} {T : u_T} (h : vwCl[ci]? = some (C, T, n)) : (vwCl.getD ci ("", fun _ => ("", "", "", false), 0)).2.1 = T := by
  rw [List.getD_eq_getElem?_getD, h]
  rfl
theorem gg_fty {ci n : Nat} {C : String} {T : u_T} (h : vwCl[ci]? = some (C, T, n)) (k : Nat) : fty ci k = (match parseFieldDescriptor (T k).2.2.1 with | some .int => 0 | some .long => 1 | _ => 2) := by
  unfold fty
  rw [gg_T h]
  rfl
theorem fs_get {n k : Nat} {g : Nat → Value} {v : Value} (hk : k < n) (hv : g k = v) : ((List.range n).map g)[k]? = some v := by
  rw [List.getElem?_map, List.getElem?_range hk, Option.map_some, hv]
theorem fs_set {n k : Nat} {g g2 : Nat → Value} {v : Value} (hv : g2 k = v) (ho : ∀ j, j ≠ k → g2 j = g j) : ((List.range n).map g).set k v = (List.range n).map g2 := by
  apply List.ext_getElem?
  intro i
  by_cases hi : i = k
  · subst hi
    by_cases hn : i < n
    · rw [List.getElem?_set_self (by simpa using hn), List.getElem?_map, List.getElem?_range hn, Option.map_some, hv]
    · rw [List.getElem?_eq_none (by simp; omega), List.getElem?_eq_none (by simp; omega)]
  · rw [List.getElem?_set_ne (Ne.symm hi), List.getElem?_map, List.getElem?_map]
    by_cases hn : i < n
    · rw [List.getElem?_range hn, Option.map_some, Option.map_some, ho i hi]
    · rw [List.getElem?_eq_none (by simp; omega)]
      rfl
theorem cE_obj {cA : Nat → ClassId} {f : Nat → Nat} {I : IT} {J : JT} {F : FT} {ci n a : Nat} (h : ci < 10) : cellE cA f I J F (ci, n) a = .inr (ci, (List.range (nfl ci)).map (fun j => fval f I J F a ci j)) := by
  unfold cellE
  rw [if_pos h]
theorem cE_off {cA : Nat → ClassId} {f : Nat → Nat} {I I2 : IT} {J J2 : JT} {F F2 : FT} {q : Nat × Nat} {a : Nat} (hI : I2 a = I a) (hJ : J2 a = J a) (hF : F2 a = F a) : cellE cA f I2 J2 F2 q a = cellE cA f I J F q a := by
  unfold cellE fval
  rw [hI, hJ, hF]
theorem up_ne {α : Type} {f : Nat → α} {k j : Nat} {v : α} (h : j ≠ k) : va_up f k v j = f j := by
  unfold va_up
  rw [if_neg h]
theorem up_eq {α : Type} {f : Nat → α} {k : Nat} {v : α} : va_up f k v k = v := by
  unfold va_up
  rw [if_pos rfl]
def PcM (D : va_G) (cA : Nat → ClassId) (b base : Nat) (as : List VV) (K : KT) (I : IT) (J : JT) (F : FT) : Array Value → State → Prop := va_Pc (as.map (vv (ad b base))) (fun U => WD D cA b base K I J F U.heap ∧ va_K D vwCl (gg_tys cA) U ∧ (∀ q ∈ gg_NQ, va_Nw (.methodLinkNest q.1 q.2.1 q.2.2.1 q.2.2.2) U) ∧ va_AO "GutterGardens$Waters" U)
def QcM (D : va_G) (cA : Nat → ClassId) (b base : Nat) (Rs : RT) : Array Value → State → Outcome → State → Prop := fun _ st oc t => oc = .returned (Rs.1.map (vv (ad b base))) ∧ WD D cA b base Rs.2.1 Rs.2.2.1 Rs.2.2.2.1 Rs.2.2.2.2 t.heap ∧ va_F (gg_A base) st t
def PM (l : Launch) (D : va_G) (cA : Nat → ClassId) (b base : Nat) : CT := fun y as K I J F Rs => K.length ≤ Rs.2.1.length ∧ ksum K ≤ ksum Rs.2.1 ∧ (y ≠ 0 → y < 166 → K99 K → Met l (mN y) (gg_wsy y) { frames := mK y, cells := Rs.2.1.length - K.length, slots := ksum Rs.2.1 - ksum K, locals := 40 * mK y } (PcM D cA b base as K I J F) (QcM D cA b base Rs) (Rs.2.1.length - K.length) (ksum Rs.2.1 - ksum K) (gg_A base))
section GSIM
variable {p : Program} {l : Launch} {e : Env} {R : Room} {s : State} {m : MethodId} {args : Array Value} {below : List Frame} {meth : Method} {c : Code} {Q : State → Prop} {y b base k0 n0 : Nat} {D : va_G} {cA : Nat → ClassId} {scr : Option (Nat × (Nat → Int32))}
variable {pc : Nat} {L : LL} {st : List VV} {K : KT} {I : IT} {J : JT} {F : FT} {ls : Array Slot} {H : Heap} {locs : List Loc} {kk nn : Nat} {rest : List Value}
theorem lr_lt {i : Nat} (h : Rl s y b base k0 n0 D cA L K I J F ls H locs kk nn) (hn : i < L.length) : i < mL y := by rw [← h.2.1]; exact hn
theorem rl_st1 {i : Nat} {v : VV} {ls2 : Array Slot} (h : Rl s y b base k0 n0 D cA L K I J F ls H locs kk nn) (hn : i < L.length) (hp : pvB L i = true) (h2 : lv_has ls2 (mL y) ((i, vv (ad b base) v) :: (lvs (ad b base) L).filter (fun q => !(q.1 == i) && !(q.1 + 1 == i && q.2.category == 2)))) : Rl s y b base k0 n0 D cA (L.set i (some v)) K I J F ls2 H locs kk nn :=
  ⟨lr_st1 hn hp h2, by rw [List.length_set]; exact h.2.1, h.2.2⟩
theorem rl_st2 {i : Nat} {v : VV} {ls2 : Array Slot} (h : Rl s y b base k0 n0 D cA L K I J F ls H locs kk nn) (hn : i + 1 < L.length) (hp : pvB L i = true) (h2 : lv_has ls2 (mL y) ((i, vv (ad b base) v) :: (lvs (ad b base) L).filter (fun q => !(q.1 == i) && (!(q.1 == i + 1) && !(q.1 + 1 == i && q.2.category == 2))))) : Rl s y b base k0 n0 D cA ((L.set i (some v)).set (i + 1) none) K I J F ls2 H locs kk nn :=
  ⟨lr_st2 hn hp h2, by rw [List.length_set, List.length_set]; exact h.2.1, h.2.2⟩
theorem rl_c {pc2 : Nat} {L2 : LL} {st2 : List VV} (k : XX p l e R s m args below meth c Q y b base k0 n0 D cA pc2 L2 st2 K I J F) (h : Rl s y b base k0 n0 D cA L K I J F ls H locs kk nn) : kk ≤ R.cells := by
  have h1 := k.1.1
  have h2 := h.2.2.2.2.1
  omega
theorem rl_s {pc2 : Nat} {L2 : LL} {st2 : List VV} (k : XX p l e R s m args below meth c Q y b base k0 n0 D cA pc2 L2 st2 K I J F) (h : Rl s y b base k0 n0 D cA L K I J F ls H locs kk nn) : nn ≤ R.slots := by
  have h1 := k.1.2
  have h2 := h.2.2.2.2.2
  omega
theorem gg_get {a i ci q n : Nat} {v : Value} (hc : CX p l e R s m args below meth c y b base D cA scr) (hd : decode (mB y) pc = .ok (.getfield i, 3)) (hf : gg_FL (mN y).cls i ci q) (hk : K[a]? = some (ci, n)) (hv : fval (ad b base) I J F a ci q = v) (h : Rl s y b base k0 n0 D cA L K I J F ls H locs kk nn)
    (k : W p l e R s m args below meth c H locs kk nn Q (F0 m (pc + 3) ls (v :: rest))) : W p l e R s m args below meth c H locs kk nn Q (F0 m pc ls (.ref (ad b base a) :: rest)) := by
  obtain ⟨hx, hb, hml, hret, hlk, hts, hnest, hAO, hown, hK, hinit, hbase, hrk, hfr, hlo, hscr⟩ := hc
  obtain ⟨C, T, n2, hcl, hqn, hw⟩ := hf
  obtain ⟨g1, -, -, -, -, -, hc10⟩ := gg_cls hcl
  obtain ⟨-, -, hWD, -⟩ := h
  have h0 := k99_ne hWD.2.2 hk (by omega)
  have hcell := wd_get (cA := cA) (b := b) (base := base) (I := I) (J := J) (F := F) h0 hk
  rw [cE_obj hc10, gg_nfl hcl] at hcell
  exact va_get hx hb hts g1 hown hK hWD.1 (a - 1) hcell hcl q hqn (hts _ hw) (fun _ z => z) (fs_get hqn hv) hd k
theorem rl_upd {a : Nat} {q : Nat × Nat} {e1 : va_E} {I2 : IT} {J2 : JT} {F2 : FT} {H1 : Heap} {sl : Nat} (h : Rl s y b base k0 n0 D cA L K I J F ls H locs kk nn) (h0 : 0 < a) (hk : K[a]? = some q) (hI : ∀ a', a' ≠ a → I2 a' = I a') (hJ : ∀ a', a' ≠ a → J2 a' = J a') (hF : ∀ a', a' ≠ a → F2 a' = F a') (he : cellE cA (ad b base) I2 J2 F2 q a = e1) (hat : va_at D vwCl (ad b base a, e1) H1) (hz : H1.size = H.size) (oq : ∀ x, x ≠ ad b base a → H1[x]? = H[x]?) : Rl s y b base k0 n0 D cA L K I2 J2 F2 ls H1 (locs ++ [⟨ad b base a, sl⟩]) kk nn := by
  obtain ⟨h1, h2, ⟨hP, hsz, h99⟩, hS, h3, h4⟩ := h
  have hcell := wd_get (cA := cA) (b := b) (base := base) (I := I) (J := J) (F := F) (ci := q.1) (n := q.2) h0 hk
  refine ⟨h1, h2, ⟨?_, by rw [hz]; exact hsz, h99⟩, hS.put hz oq (by show base + 1 ≤ ad b base a; rw [ad_pos h0]; omega), h3, h4⟩
  rw [← wd_set (cA := cA) (b := b) (base := base) h0 hk (fun a' q' z => cE_off (hI a' z) (hJ a' z) (hF a' z)) he]
  exact hP.set wd_D hcell hat oq
theorem gg_put0 {a i ci q n : Nat} {v : Value} {ty : FieldType} {I2 : IT} {J2 : JT} (hc : CX p l e R s m args below meth c y b base D cA scr) (hd : decode (mB y) pc = .ok (.putfield i, 3)) (hf : gg_FL (mN y).cls i ci q) (hk : K[a]? = some (ci, n))
    (hty : ∀ (C : String) (T : u_T) (n2 : Nat), vwCl[ci]? = some (C, T, n2) → parseFieldDescriptor (T q).2.2.1 = some ty) (hn : narrow ty v = v) (hft : fits ty v = true)
    (hI : ∀ a', a' ≠ a → I2 a' = I a') (hJ : ∀ a', a' ≠ a → J2 a' = J a') (hv : fval (ad b base) I2 J2 F a ci q = v) (ho : ∀ j, j ≠ q → fval (ad b base) I2 J2 F a ci j = fval (ad b base) I J F a ci j)
    (hfin : ((vwCl.getD ci ("", fun _ => ("", "", "", false), 0)).2.1 q).2.2.2 = false) (h : Rl s y b base k0 n0 D cA L K I J F ls H locs kk nn)
    (k : ∀ (H2 : Heap) (locs2 : List Loc), Rl s y b base k0 n0 D cA L K I2 J2 F ls H2 locs2 kk nn → W p l e R s m args below meth c H2 locs2 kk nn Q (F0 m (pc + 3) ls rest)) : W p l e R s m args below meth c H locs kk nn Q (F0 m pc ls (v :: .ref (ad b base a) :: rest)) := by
  obtain ⟨hx, hb, hml, hret, hlk, hts, hnest, hAO, hown, hK, hinit, hbase, hrk, hfr, hlo, hscr⟩ := hc
  obtain ⟨C, T, n2, hcl, hqn, hw⟩ := hf
  obtain ⟨g1, -, -, ⟨ty0, hty0⟩, hnm, -, hc10⟩ := gg_cls hcl
  have h0 := k99_ne h.2.2.1.2.2 hk (by omega)
  have hcell := wd_get (cA := cA) (b := b) (base := base) (I := I) (J := J) (F := F) h0 hk
  rw [cE_obj hc10, gg_nfl hcl] at hcell
  rw [gg_T hcl] at hfin
  have hap := va_apart (own := (mN y).cls) hts g1 ty0 hty0 hnm hK hcl
  obtain ⟨r, r1, cell, q1, q2, q3, q4⟩ := h.2.2.1.1 _ _ hcell
  cases r1.symm.trans hcl
  obtain ⟨hS, hfc, kC, hkC, hkind⟩ := hK.1 ci _ hcl
  obtain ⟨cf, kf, fi, f, hi, hsl⟩ := hS q hqn
  have hlay := hts _ (g1 _ (u_in_lay hqn))
  unfold u_lay at hlay
  rw [if_neg (by rw [hfin]; decide)] at hlay
  have hst := (u_facts hfc hkC (u_lays hts g1 hqn) hi).1
  have h6 := u_store hfc hkC hkind hlay hi (hty C T n2 hcl) hn hft
  refine W.putK hx hb (f := f) ⟨hown, hts _ hw, ⟨_, _, _, hi⟩, hst⟩ (by rw [q2]; exact h6) q1 q3 (by rw [hsl]; exact k2_hasslot (q4 q hqn)) rfl rfl hd fun H1 e1 e2 e3 => ?_
  rw [hsl] at e1 ⊢
  refine k H1 _ (rl_upd h h0 hk hI hJ (fun _ _ => rfl) ((cE_obj hc10).trans (by rw [gg_nfl hcl, ← fs_set hv ho])) ?_ e2 e3)
  exact ⟨_, hcl, t_OB.to (V := updV (vp_V _) q v) ⟨_, e1, q2, q3, t_set q4 hap hqn v⟩ (fun j _ => vp_updV_set (by simpa using hqn) v j)⟩
theorem fty_int {ci q : Nat} (h : fty ci q = 0) {C : String} {T : u_T} {n2 : Nat} (hcl : vwCl[ci]? = some (C, T, n2)) : parseFieldDescriptor (T q).2.2.1 = some .int := by
  rw [gg_fty hcl] at h
  split at h
  next z => exact z
  next => cases h
  next => cases h
theorem fty_long {ci q : Nat} (h : fty ci q = 1) {C : String} {T : u_T} {n2 : Nat} (hcl : vwCl[ci]? = some (C, T, n2)) : parseFieldDescriptor (T q).2.2.1 = some .long := by
  rw [gg_fty hcl] at h
  split at h
  next => cases h
  next z => exact z
  next => cases h
theorem gg_putI {a i ci q n : Nat} {x : Int32} (hc : CX p l e R s m args below meth c y b base D cA scr) (hd : decode (mB y) pc = .ok (.putfield i, 3)) (hf : gg_FL (mN y).cls i ci q) (hk : K[a]? = some (ci, n)) (hq : fty ci q = 0)
    (hfin : ((vwCl.getD ci ("", fun _ => ("", "", "", false), 0)).2.1 q).2.2.2 = false) (h : Rl s y b base k0 n0 D cA L K I J F ls H locs kk nn)
    (k : ∀ (ls2 : Array Slot) (H2 : Heap) (locs2 : List Loc), Rl s y b base k0 n0 D cA L K (va_up I a (upd (I a) q x)) J F ls2 H2 locs2 kk nn → W p l e R s m args below meth c H2 locs2 kk nn Q (F0 m (pc + 3) ls2 rest)) : W p l e R s m args below meth c H locs kk nn Q (F0 m pc ls (.int x :: .ref (ad b base a) :: rest)) := by
  refine gg_put0 (I2 := va_up I a (upd (I a) q x)) (J2 := J) hc hd hf hk (fun C T n2 hcl => fty_int hq hcl) rfl rfl (fun a' z => up_ne z) (fun _ _ => rfl) ?_ ?_ hfin h (fun H2 locs2 h2 => k ls H2 locs2 h2)
  · rw [fval, hq, up_eq]
    show Value.int (upd (I a) q x q) = _
    rw [pk_us]
  · intro j z
    unfold fval
    rw [up_eq]
    split
    · rw [pk_un z]
    · rfl
    · rfl
theorem gg_putL {a i ci q n : Nat} {x : Int64} (hc : CX p l e R s m args below meth c y b base D cA scr) (hd : decode (mB y) pc = .ok (.putfield i, 3)) (hf : gg_FL (mN y).cls i ci q) (hk : K[a]? = some (ci, n)) (hq : fty ci q = 1)
    (hfin : ((vwCl.getD ci ("", fun _ => ("", "", "", false), 0)).2.1 q).2.2.2 = false) (h : Rl s y b base k0 n0 D cA L K I J F ls H locs kk nn)
    (k : ∀ (ls2 : Array Slot) (H2 : Heap) (locs2 : List Loc), Rl s y b base k0 n0 D cA L K I (va_up J a (vp_updL (J a) q x)) F ls2 H2 locs2 kk nn → W p l e R s m args below meth c H2 locs2 kk nn Q (F0 m (pc + 3) ls2 rest)) : W p l e R s m args below meth c H locs kk nn Q (F0 m pc ls (.long x :: .ref (ad b base a) :: rest)) := by
  refine gg_put0 (I2 := I) (J2 := va_up J a (vp_updL (J a) q x)) hc hd hf hk (fun C T n2 hcl => fty_long hq hcl) rfl rfl (fun _ _ => rfl) (fun a' z => up_ne z) ?_ ?_ hfin h (fun H2 locs2 h2 => k ls H2 locs2 h2)
  · rw [fval, hq, up_eq]
    show Value.long (vp_updL (J a) q x q) = _
    rw [pk_uLs]
  · intro j z
    unfold fval
    rw [up_eq]
    split
    · rfl
    · rw [pk_uLn z]
    · rfl
theorem gg_putF {a i ci q n x : Nat} (hc : CX p l e R s m args below meth c y b base D cA scr) (hd : decode (mB y) pc = .ok (.putfield i, 3)) (hin : (mN y).name = "<init>") (hf : gg_FL (mN y).cls i ci q) (hk : K[a]? = some (ci, n)) (hq : fty ci q = 2)
    (hfin : ((vwCl.getD ci ("", fun _ => ("", "", "", false), 0)).2.1 q).2.2.2 = true) (hdc : ((vwCl.getD ci ("", fun _ => ("", "", "", false), 0)).2.1 q).1 = (mN y).cls) (h : Rl s y b base k0 n0 D cA L K I J F ls H locs kk nn)
    (k : ∀ (ls2 : Array Slot) (H2 : Heap) (locs2 : List Loc), Rl s y b base k0 n0 D cA L K I J (va_up F a (va_up (F a) q (some x))) ls2 H2 locs2 kk nn → W p l e R s m args below meth c H2 locs2 kk nn Q (F0 m (pc + 3) ls2 rest)) : W p l e R s m args below meth c H locs kk nn Q (F0 m pc ls (.ref (ad b base x) :: .ref (ad b base a) :: rest)) := by
  obtain ⟨hx, hb, hml, hret, hlk, hts, hnest, hAO, hown, hK, hinit, hbase, hrk, hfr, hlo, hscr⟩ := hc
  obtain ⟨C, T, n2, hcl, hqn, hw⟩ := hf
  obtain ⟨g1, -, -, ⟨ty0, hty0⟩, hnm, hsh, hc10⟩ := gg_cls hcl
  have h0 := k99_ne h.2.2.1.2.2 hk (by omega)
  have hcell := wd_get (cA := cA) (b := b) (base := base) (I := I) (J := J) (F := F) h0 hk
  rw [cE_obj hc10, gg_nfl hcl] at hcell
  rw [gg_T hcl] at hfin hdc
  have hap := va_apart (own := (mN y).cls) hts g1 ty0 hty0 hnm hK hcl
  obtain ⟨r, r1, cell, q1, q2, q3, q4⟩ := h.2.2.1.1 _ _ hcell
  cases r1.symm.trans hcl
  obtain ⟨hS, hfc, kC, hkC, hkind⟩ := hK.1 ci _ hcl
  obtain ⟨cf, kf, fi, f, hi, hsl⟩ := hS q hqn
  have hlay := hts _ (g1 _ (u_in_lay hqn))
  unfold u_lay at hlay
  rw [if_pos hfin] at hlay
  have hst := (u_facts hfc hkC (u_lays hts g1 hqn) hi).1
  have hcf : m.cls = cf := by
    obtain ⟨_, _, c', _, _, _, -, -, hf', -, -, -, hown2, -⟩ := Cond.laysFinal_spec hlay
    have e1 : c' = cf := by have := hi.symm.trans hf'; simp at this; exact this.1.symm
    rw [hdc] at hown2
    rw [← e1]; exact Option.some.inj (hown.symm.trans hown2)
  have hty : ∃ ty, parseFieldDescriptor (T q).2.2.1 = some ty ∧ narrow ty (.ref (ad b base x)) = .ref (ad b base x) ∧ fits ty (.ref (ad b base x)) = true := by
    have hs1 := hsh q hqn
    rw [gg_fty hcl] at hq
    cases hpd : parseFieldDescriptor (T q).2.2.1 with
    | none => rw [hpd] at hs1; cases hs1
    | some ty =>
      rw [hpd] at hs1 hq
      refine ⟨ty, rfl, ?_⟩
      cases ty <;> first | exact ⟨rfl, rfl⟩ | (cases hs1; done) | (cases hq; done)
  obtain ⟨ty, hpd, hn, hft⟩ := hty
  have h6 := u_fits hfc hkC hkind (Or.inr hlay) hi hpd hn hft
  refine W.putFinK hx hb hown (hts _ hw) hi hst hcf (hinit hin) (by rw [q2]; exact h6) q1 q3 (by rw [hsl]; exact k2_hasslot (q4 q hqn)) rfl rfl hd fun H1 e1 e2 e3 => ?_
  rw [hsl] at e1 ⊢
  have hv : fval (ad b base) I J (va_up F a (va_up (F a) q (some x))) a ci q = .ref (ad b base x) := by rw [fval, hq, up_eq, up_eq]; rfl
  have ho : ∀ j, j ≠ q → fval (ad b base) I J (va_up F a (va_up (F a) q (some x))) a ci j = fval (ad b base) I J F a ci j := fun j z => by
    unfold fval
    rw [up_eq]
    split
    · rfl
    · rfl
    · rw [up_ne z]
  refine k ls H1 _ (rl_upd h h0 hk (fun _ _ => rfl) (fun _ _ => rfl) (fun a' z => up_ne z) ((cE_obj hc10).trans (by rw [gg_nfl hcl, ← fs_set hv ho])) ?_ e2 e3)
  exact ⟨_, hcl, t_OB.to (V := updV (vp_V _) q _) ⟨_, e1, q2, q3, t_set q4 hap hqn _⟩ (fun j _ => vp_updV_set (by simpa using hqn) _ j)⟩
theorem gg_iald {a n : Nat} {i : Int32} (hc : CX p l e R s m args below meth c y b base D cA scr) (hd : decode (mB y) pc = .ok (.iaload, 1)) (hk : K[a]? = some (10, n)) (hin : vp_in i n) (h : Rl s y b base k0 n0 D cA L K I J F ls H locs kk nn)
    (k : W p l e R s m args below meth c H locs kk nn Q (F0 m (pc + 1) ls (.int (I a i.toNatClampNeg) :: rest))) : W p l e R s m args below meth c H locs kk nn Q (F0 m pc ls (.int i :: .ref (ad b base a) :: rest)) := by
  obtain ⟨hx, hb, hml, hret, hlk, hts, hnest, hAO, hown, hK, hinit, hbase, hrk, hfr, hlo, hscr⟩ := hc
  exact va_iald hx hb hK h.2.2.1.1 (a - 1) 0 (wd_get (k99_ne h.2.2.1.2.2 hk (by decide)) hk) rfl hin hd k
theorem gg_zald {a n : Nat} {i : Int32} (hc : CX p l e R s m args below meth c y b base D cA scr) (hd : decode (mB y) pc = .ok (.baload, 1)) (hk : K[a]? = some (11, n)) (hin : vp_in i n) (h : Rl s y b base k0 n0 D cA L K I J F ls H locs kk nn)
    (k : W p l e R s m args below meth c H locs kk nn Q (F0 m (pc + 1) ls (.int (I a i.toNatClampNeg) :: rest))) : W p l e R s m args below meth c H locs kk nn Q (F0 m pc ls (.int i :: .ref (ad b base a) :: rest)) := by
  obtain ⟨hx, hb, hml, hret, hlk, hts, hnest, hAO, hown, hK, hinit, hbase, hrk, hfr, hlo, hscr⟩ := hc
  exact va_zald hx hb hK h.2.2.1.1 (a - 1) 1 (wd_get (k99_ne h.2.2.1.2.2 hk (by decide)) hk) rfl hin hd k
theorem gg_aald {a n : Nat} {i : Int32} (hc : CX p l e R s m args below meth c y b base D cA scr) (hd : decode (mB y) pc = .ok (.aaload, 1)) (hk : K[a]? = some (12, n)) (hin : vp_in i n) (h : Rl s y b base k0 n0 D cA L K I J F ls H locs kk nn)
    (k : W p l e R s m args below meth c H locs kk nn Q (F0 m (pc + 1) ls (va_rf ((F a i.toNatClampNeg).map (ad b base)) :: rest))) : W p l e R s m args below meth c H locs kk nn Q (F0 m pc ls (.int i :: .ref (ad b base a) :: rest)) := by
  obtain ⟨hx, hb, hml, hret, hlk, hts, hnest, hAO, hown, hK, hinit, hbase, hrk, hfr, hlo, hscr⟩ := hc
  exact va_aldq hx hb hK h.2.2.1.1 (a - 1) 2 (wd_get (k99_ne h.2.2.1.2.2 hk (by decide)) hk) rfl hin hd k
theorem gg_alen {a ci n : Nat} (hc : CX p l e R s m args below meth c y b base D cA scr) (hd : decode (mB y) pc = .ok (.arraylength, 1)) (hk : K[a]? = some (ci, n)) (hci : 10 ≤ ci ∧ ci < 13) (h : Rl s y b base k0 n0 D cA L K I J F ls H locs kk nn)
    (k : W p l e R s m args below meth c H locs kk nn Q (F0 m (pc + 1) ls (.int (Int32.ofNat n) :: rest))) : W p l e R s m args below meth c H locs kk nn Q (F0 m pc ls (.ref (ad b base a) :: rest)) := by
  obtain ⟨hx, hb, hml, hret, hlk, hts, hnest, hAO, hown, hK, hinit, hbase, hrk, hfr, hlo, hscr⟩ := hc
  have h0 := k99_ne h.2.2.1.2.2 hk (by omega)
  have hz : ci = 10 ∨ ci = 11 ∨ ci = 12 := by omega
  rcases hz with rfl | rfl | rfl
  · exact va_alen hx hb hK h.2.2.1.1 (a - 1) 0 (wd_get h0 hk) rfl rfl hd k
  · exact va_alen hx hb hK h.2.2.1.1 (a - 1) 1 (wd_get h0 hk) rfl rfl hd k
  · exact va_alen hx hb hK h.2.2.1.1 (a - 1) 2 (wd_get h0 hk) rfl rfl hd k
theorem gg_sld {n : Nat} {i : Int32} {xs : Nat → Int32} (hc : CX p l e R s m args below meth c y b base D cA scr) (hd : decode (mB y) pc = .ok (.iaload, 1)) (hs : scr = some (n, xs)) (hin : vp_in i n) (h : Rl s y b base k0 n0 D cA L K I J F ls H locs kk nn)
    (k : W p l e R s m args below meth c H locs kk nn Q (F0 m (pc + 1) ls (.int (xs i.toNatClampNeg) :: rest))) : W p l e R s m args below meth c H locs kk nn Q (F0 m pc ls (.int i :: .ref (ad b base 0) :: rest)) := by
  obtain ⟨hx, hb, hml, hret, hlk, hts, hnest, hAO, hown, hK, hinit, hbase, hrk, hfr, hlo, hscr⟩ := hc
  obtain ⟨g1, g2, g3⟩ := hscr n xs hs
  exact va_sld hx hb g1 g2 g3 h.2.2.2.1 hin hd k
theorem gg_slen {n : Nat} {xs : Nat → Int32} (hc : CX p l e R s m args below meth c y b base D cA scr) (hd : decode (mB y) pc = .ok (.arraylength, 1)) (hs : scr = some (n, xs)) (h : Rl s y b base k0 n0 D cA L K I J F ls H locs kk nn)
    (k : W p l e R s m args below meth c H locs kk nn Q (F0 m (pc + 1) ls (.int (Int32.ofNat n) :: rest))) : W p l e R s m args below meth c H locs kk nn Q (F0 m pc ls (.ref (ad b base 0) :: rest)) := by
  obtain ⟨hx, hb, hml, hret, hlk, hts, hnest, hAO, hown, hK, hinit, hbase, hrk, hfr, hlo, hscr⟩ := hc
  obtain ⟨g1, g2, g3⟩ := hscr n xs hs
  exact va_slen hx hb g1 g2 g3 h.2.2.2.1 hd k
theorem gg_iast {a n : Nat} {i x : Int32} (hc : CX p l e R s m args below meth c y b base D cA scr) (hd : decode (mB y) pc = .ok (.iastore, 1)) (hk : K[a]? = some (10, n)) (hin : vp_in i n) (h : Rl s y b base k0 n0 D cA L K I J F ls H locs kk nn)
    (k : ∀ (ls2 : Array Slot) (H2 : Heap) (locs2 : List Loc), Rl s y b base k0 n0 D cA L K (va_up I a (upd (I a) i.toNatClampNeg x)) J F ls2 H2 locs2 kk nn → W p l e R s m args below meth c H2 locs2 kk nn Q (F0 m (pc + 1) ls2 rest)) : W p l e R s m args below meth c H locs kk nn Q (F0 m pc ls (.int x :: .int i :: .ref (ad b base a) :: rest)) := by
  obtain ⟨hx, hb, hml, hret, hlk, hts, hnest, hAO, hown, hK, hinit, hbase, hrk, hfr, hlo, hscr⟩ := hc
  have h0 := k99_ne h.2.2.1.2.2 hk (by decide)
  have hcell : (wd cA b base K I J F)[a - 1]? = some (ad b base a, .inl (cA 0, n, .inl (I a))) := wd_get h0 hk
  refine W.iast hx hb (h.2.2.1.1 _ _ hcell) ((hK.2 0 (cA 0, .int) rfl).1 n (fun j => .int (I a j))) (fun q => by cases q) (by show ¬ (i < 0 ∨ (arrV _ _ _).slots.size ≤ _); rw [arrV_size]; exact hin) rfl rfl hd fun H1 e1 z oq => ?_
  refine k ls H1 _ (rl_upd h h0 hk (fun a' z => up_ne z) (fun _ _ => rfl) (fun _ _ => rfl) (e1 := .inl (cA 0, n, .inl (upd (I a) i.toNatClampNeg x))) ?_ ?_ z oq)
  · show (Sum.inl (cA 0, n, Sum.inl (va_up I a (upd (I a) i.toNatClampNeg x) a)) : va_E) = _
    rw [up_eq]
  · show H1[_]? = some (vp_cell _ _)
    rw [e1]
    show some ((arrV (cA 0) n (fun j => Value.int (I a j))).setSlot _ _) = some (arrV (cA 0) n (fun j => Value.int (upd (I a) i.toNatClampNeg x j)))
    rw [arrV_store]
    congr 2
    funext q
    by_cases hq : q = i.toNatClampNeg
    · simp [updV, upd, hq]
    · simp [updV, upd, hq]
theorem gg_zast {a n : Nat} {i x : Int32} (hc : CX p l e R s m args below meth c y b base D cA scr) (hd : decode (mB y) pc = .ok (.bastore, 1)) (hk : K[a]? = some (11, n)) (hin : vp_in i n) (hx01 : x = 0 ∨ x = 1) (h : Rl s y b base k0 n0 D cA L K I J F ls H locs kk nn)
    (k : ∀ (ls2 : Array Slot) (H2 : Heap) (locs2 : List Loc), Rl s y b base k0 n0 D cA L K (va_up I a (upd (I a) i.toNatClampNeg x)) J F ls2 H2 locs2 kk nn → W p l e R s m args below meth c H2 locs2 kk nn Q (F0 m (pc + 1) ls2 rest)) : W p l e R s m args below meth c H locs kk nn Q (F0 m pc ls (.int x :: .int i :: .ref (ad b base a) :: rest)) := by
  obtain ⟨hx, hb, hml, hret, hlk, hts, hnest, hAO, hown, hK, hinit, hbase, hrk, hfr, hlo, hscr⟩ := hc
  have h0 := k99_ne h.2.2.1.2.2 hk (by decide)
  have hcell : (wd cA b base K I J F)[a - 1]? = some (ad b base a, .inl (cA 1, n, .inl (I a))) := wd_get h0 hk
  refine W.zast hx hb (h.2.2.1.1 _ _ hcell) ((hK.2 1 (cA 1, .boolean) rfl).1 n (fun j => .int (I a j))) (fun q => by cases q) (by show ¬ (i < 0 ∨ (arrV _ _ _).slots.size ≤ _); rw [arrV_size]; exact hin) rfl rfl hd fun H1 e1 z oq => ?_
  refine k ls H1 _ (rl_upd h h0 hk (fun a' z => up_ne z) (fun _ _ => rfl) (fun _ _ => rfl) (e1 := .inl (cA 1, n, .inl (upd (I a) i.toNatClampNeg x))) ?_ ?_ z oq)
  · show (Sum.inl (cA 1, n, Sum.inl (va_up I a (upd (I a) i.toNatClampNeg x) a)) : va_E) = _
    rw [up_eq]
  · show H1[_]? = some (vp_cell _ _)
    rw [e1]
    show some ((arrV (cA 1) n (fun j => Value.int (I a j))).setSlot _ _) = some (arrV (cA 1) n (fun j => Value.int (upd (I a) i.toNatClampNeg x j)))
    rw [arrV_store]
    congr 2
    funext q
    by_cases hq : q = i.toNatClampNeg
    · rcases hx01 with rfl | rfl <;> simp [updV, upd, hq] <;> rfl
    · simp [updV, upd, hq]
theorem gg_aast {a n x n2 : Nat} {i : Int32} (hc : CX p l e R s m args below meth c y b base D cA scr) (hd : decode (mB y) pc = .ok (.aastore, 1)) (hk : K[a]? = some (12, n)) (hin : vp_in i n) (hkx : K[x]? = some (7, n2)) (h : Rl s y b base k0 n0 D cA L K I J F ls H locs kk nn)
    (k : ∀ (ls2 : Array Slot) (H2 : Heap) (locs2 : List Loc), Rl s y b base k0 n0 D cA L K I J (va_up F a (va_up (F a) i.toNatClampNeg (some x))) ls2 H2 locs2 kk nn → W p l e R s m args below meth c H2 locs2 kk nn Q (F0 m (pc + 1) ls2 rest)) : W p l e R s m args below meth c H locs kk nn Q (F0 m pc ls (.ref (ad b base x) :: .int i :: .ref (ad b base a) :: rest)) := by
  obtain ⟨hx, hb, hml, hret, hlk, hts, hnest, hAO, hown, hK, hinit, hbase, hrk, hfr, hlo, hscr⟩ := hc
  have h0 := k99_ne h.2.2.1.2.2 hk (by decide)
  have h0x := k99_ne h.2.2.1.2.2 hkx (by decide)
  have hcell : (wd cA b base K I J F)[a - 1]? = some (ad b base a, .inl (cA 2, n, .inr (.inr (.inr (.inr (fun j => (F a j).map (ad b base))))))) := wd_get h0 hk
  have hcellx := wd_get (cA := cA) (b := b) (base := base) (I := I) (J := J) (F := F) h0x hkx
  have hlt : i.toNatClampNeg < n := Nat.not_le.mp fun q => hin (Or.inr q)
  have hi0 : ¬ i < 0 := fun q => hin (Or.inl q)
  obtain ⟨r', hr', cellV, g1, g2, g3, -⟩ := h.2.2.1.1 _ _ hcellx
  have hcl7 : vwCl[7]? = some (RX7, TX7, 8) := rfl
  have hcls := (hK.1 7 _ hcl7).2
  obtain ⟨kA, comp, k1, k2, k3, -⟩ := (hK.2 2 (cA 2, .object "GutterGardens$Waters") rfl).2
  have hcomp : comp = D.1 7 := Option.some.inj (k3.symm.trans hcls.1)
  subst hcomp
  obtain ⟨kC, hkC, -⟩ := hcls.2
  refine W.aast hx hb (h.2.2.1.1 _ _ hcell) (fun q z => by cases z) (fun z => by cases z) k1 k2 rfl hkC ⟨hi0, by show _ < (arrV _ _ _).slots.size; rw [arrV_size]; exact hlt⟩ g1 (fun q z => by rw [g3] at z; cases z) (by rw [g2]; exact hkC) (by rw [g2]; exact va_assign hcls) rfl rfl hd fun H1 e1 z oq => ?_
  refine k ls H1 _ (rl_upd h h0 hk (fun _ _ => rfl) (fun _ _ => rfl) (fun a' z => up_ne z) (e1 := .inl (cA 2, n, .inr (.inr (.inr (.inr (va_up (fun j => (F a j).map (ad b base)) i.toNatClampNeg (some (ad b base x)))))))) ?_ ?_ z oq)
  · show (Sum.inl (cA 2, n, Sum.inr (Sum.inr (Sum.inr (Sum.inr (fun j => (va_up F a (va_up (F a) i.toNatClampNeg (some x)) a j).map (ad b base)))))) : va_E) = _
    rw [up_eq]
    congr 7
    funext j
    unfold va_up
    split
    · rfl
    · rfl
  · show H1[_]? = some (vp_cell _ _)
    rw [e1]
    show some ((arrV (cA 2) n (fun j => va_rf ((F a j).map (ad b base)))).setSlot _ _) = some (arrV (cA 2) n (fun j => va_rf (va_up (fun j => (F a j).map (ad b base)) i.toNatClampNeg (some (ad b base x)) j)))
    rw [arrV_store]
    congr 2
    funext q
    by_cases hq : q = i.toNatClampNeg
    · simp [updV, va_up, hq, va_rf]
    · simp [updV, va_up, hq]
theorem ksum_push (K : KT) (q : Nat × Nat) : ksum (K ++ [q]) = ksum K + ksz q := by simp [ksum]
theorem k99_push {K : KT} (h : K99 K) (q : Nat × Nat) : K99 (K ++ [q]) := by
  unfold K99
  rw [List.getElem?_append_left (k99_pos h)]
  exact h
theorem rl_push {q : Nat × Nat} {e1 : va_E} {I2 : IT} {J2 : JT} {F2 : FT} {H1 : Heap} (h : Rl s y b base k0 n0 D cA L K I J F ls H locs kk nn) (hI : ∀ a', a' ≠ K.length → I2 a' = I a') (hJ : ∀ a', a' ≠ K.length → J2 a' = J a') (hF : ∀ a', a' ≠ K.length → F2 a' = F a') (he : cellE cA (ad b base) I2 J2 F2 q K.length = e1) (hat : va_at D vwCl (H.size, e1) H1) (hz : H1.size = H.size + 1) (o1 : ∀ x, x < H.size → H1[x]? = H[x]?) : Rl s y b base k0 n0 D cA L (K ++ [q]) I2 J2 F2 ls H1 locs (kk + 1) (nn + ksz q) := by
  obtain ⟨h1, h2, ⟨hP, hsz, h99⟩, hS, h3, h4⟩ := h
  have h0 := k99_pos h99
  have had : ad b base K.length = H.size := by rw [ad_pos h0, hsz]
  refine ⟨h1, h2, ⟨?_, by rw [hz, hsz, List.length_append]; rfl, k99_push h99 q⟩, ⟨Nat.le_trans hS.1 (by omega), fun x g1 g2 => (o1 x (Nat.lt_of_lt_of_le g1 hS.1)).trans (hS.2.1 x g1 g2), hS.2.2⟩, by rw [List.length_append, h3]; show k0 + kk + 1 = _; omega, by rw [ksum_push, h4]; omega⟩
  rw [wd_push h0 (fun a' q' z => cE_off (hI a' z) (hJ a' z) (hF a' z)), he, had]
  refine va_P.app (hP.kept (fun k x hx => o1 x.1 ((hP k x hx).lt))) (fun k x hx => ?_)
  have hzz : k < 1 := (List.getElem?_eq_some_iff.mp hx).1
  rw [show k = 0 by omega] at hx
  cases hx
  exact hat
theorem rl_sz (h : Rl s y b base k0 n0 D cA L K I J F ls H locs kk nn) : ad b base K.length = H.size := by rw [ad_pos (k99_pos h.2.2.1.2.2), h.2.2.1.2.1]
theorem gg_new {i ci n : Nat} {Cn : String} {T : u_T} (hc : CX p l e R s m args below meth c y b base D cA scr) (hd : decode (mB y) pc = .ok (.new i, 3)) (hcl : vwCl[ci]? = some (Cn, T, n)) (hw : Cond.classLink (mN y).cls i Cn ∈ gg_GW) (hcells : K.length + 1 ≤ k0 + R.cells) (hslots : ksum (K ++ [(ci, 0)]) ≤ n0 + R.slots) (h : Rl s y b base k0 n0 D cA L K I J F ls H locs kk nn)
    (k : ∀ (H2 : Heap), Rl s y b base k0 n0 D cA L (K ++ [(ci, 0)]) (va_up I K.length (fun _ => 0)) (va_up J K.length (fun _ => 0)) (va_up F K.length (fun _ => none)) ls H2 locs (kk + 1) (nn + ksz (ci, 0)) → W p l e R s m args below meth c H2 locs (kk + 1) (nn + ksz (ci, 0)) Q (F0 m (pc + 3) ls (.ref (ad b base K.length) :: rest))) : W p l e R s m args below meth c H locs kk nn Q (F0 m pc ls rest) := by
  obtain ⟨hx, hb, hml, hret, hlk, hts, hnest, hAO, hown, hK, hinit, hbase, hrk, hfr, hlo, hscr⟩ := hc
  obtain ⟨g1, g2, g3, ⟨ty0, hty0⟩, hnm, hsh, hc10⟩ := gg_cls hcl
  have hKn := hK.1 ci _ hcl
  have hk3 := h.2.2.2.2.1
  have hk4 := h.2.2.2.2.2
  have hks : ksz (ci, 0) = n := by unfold ksz; rw [if_pos hc10, gg_nfl hcl]
  rw [ksum_push] at hslots
  rw [hks] at k hslots
  refine W.newcK hx hb hown (hts _ hw) (hts _ g2) (hts _ g3) rfl hd (by omega) (by omega) hKn.2.1 rfl fun H1 kC hkC e1 z1 o1 => ?_
  have k1 := k H1
  rw [rl_sz h] at k1
  have hr := rl_push (q := (ci, 0)) (e1 := .inr (ci, (List.range n).map (fun j => fval (ad b base) (va_up I K.length (fun _ => 0)) (va_up J K.length (fun _ => 0)) (va_up F K.length (fun _ => none)) K.length ci j))) h (fun a' z => up_ne z) (fun a' z => up_ne z) (fun a' z => up_ne z) ((cE_obj hc10).trans (by rw [gg_nfl hcl])) ?_ z1 o1
  · rw [hks] at hr
    exact k1 hr
  · refine ⟨_, hcl, (u_born ty0 hts g1 hKn hkC e1 hty0).to ?_⟩
    intro j hj
    unfold vp_V
    rw [List.getD_eq_getElem?_getD, List.getElem?_map, List.getElem?_range hj]
    simp only [Option.map_some, Option.getD_some]
    have hs1 := hsh j hj
    have hf := gg_fty hcl j
    rw [hty0 j hj] at hs1 hf
    unfold fval
    rw [hf, up_eq, up_eq, up_eq]
    cases hz : ty0 j <;> rw [hz] at hs1 <;> first | rfl | (cases hs1; done)
theorem gg_newa {at_ : ArrayType} {ty : FieldType} {t0 kd n : Nat} {x : Int32} (hc : CX p l e R s m args below meth c y b base D cA scr) (hd : decode (mB y) pc = .ok (.newarray at_, 2)) (hty : newarray.typeOf at_ = ty) (hw : Cond.arrayClass ty ∈ gg_GW) (ht0 : (gg_tys cA)[t0]? = some (cA t0, ty)) (hkd : kd = t0 + 10) (ht2 : t0 < 2) (hnm : va_RA s (cA t0) ty → s.vm.findClass ("[" ++ ty.toString) = some (cA t0)) (hdef : defaultValue ty = .int 0) (hcb : componentBytes ty ≤ 4) (hx0 : ¬ x < 0) (hxn : x.toNatClampNeg = n) (hn9 : n ≤ 100000) (hcells : K.length + 1 ≤ k0 + R.cells) (hslots : ksum (K ++ [(kd, n)]) ≤ n0 + R.slots) (h : Rl s y b base k0 n0 D cA L K I J F ls H locs kk nn)
    (k : ∀ (H2 : Heap), Rl s y b base k0 n0 D cA L (K ++ [(kd, n)]) (va_up I K.length (fun _ => 0)) J F ls H2 locs (kk + 1) (nn + ksz (kd, n)) → W p l e R s m args below meth c H2 locs (kk + 1) (nn + ksz (kd, n)) Q (F0 m (pc + 2) ls (.ref (ad b base K.length) :: rest))) : W p l e R s m args below meth c H locs kk nn Q (F0 m pc ls (.int x :: rest)) := by
  obtain ⟨hx, hb, hml, hret, hlk, hts, hnest, hAO, hown, hK, hinit, hbase, hrk, hfr, hlo, hscr⟩ := hc
  have hk3 := h.2.2.2.2.1
  have hk4 := h.2.2.2.2.2
  have hks : ksz (kd, n) = n := by unfold ksz; rw [if_neg (by show ¬ kd < 10; omega)]
  rw [ksum_push] at hslots
  rw [hks] at k hslots
  subst hty
  refine va_newaK hx hb (hts _ hw) rfl hd rfl hx0 hxn (Nat.le_trans (Nat.mul_le_mul hn9 hcb) (by decide)) (by omega) (by omega) rfl fun H1 cN e1 z1 o1 hAr hNm => ?_
  have hcN : cN = cA t0 := Option.some.inj (hNm.symm.trans (hnm (hK.2 t0 _ ht0).2))
  subst hcN
  have k1 := k H1
  rw [rl_sz h] at k1
  have hr := rl_push (q := (kd, n)) (e1 := .inl (cA t0, n, .inl (fun _ => 0))) h (I2 := va_up I K.length (fun _ => 0)) (J2 := J) (F2 := F) (fun a' z => up_ne z) (fun _ _ => rfl) (fun _ _ => rfl) ?_ ?_ z1 o1
  · rw [hks] at hr
    exact k1 hr
  · unfold cellE
    rw [if_neg (by show ¬ kd < 10; omega), if_neg (by show ¬ kd = 12; omega), up_eq]
    show (Sum.inl (cA (kd - 10), n, _) : va_E) = _
    rw [show kd - 10 = t0 by omega]
  · show H1[H.size]? = some (vp_cell _ _)
    rw [e1, hdef]
    rfl
theorem gg_newA {i n : Nat} {x : Int32} (hc : CX p l e R s m args below meth c y b base D cA scr) (hd : decode (mB y) pc = .ok (.anewarray i, 3)) (hw : Cond.classLink (mN y).cls i "GutterGardens$Waters" ∈ gg_GW) (hx0 : ¬ x < 0) (hxn : x.toNatClampNeg = n) (hn9 : n ≤ 100000) (hcells : K.length + 1 ≤ k0 + R.cells) (hslots : ksum (K ++ [(12, n)]) ≤ n0 + R.slots) (h : Rl s y b base k0 n0 D cA L K I J F ls H locs kk nn)
    (k : ∀ (H2 : Heap), Rl s y b base k0 n0 D cA L (K ++ [(12, n)]) I J (va_up F K.length (fun _ => none)) ls H2 locs (kk + 1) (nn + ksz (12, n)) → W p l e R s m args below meth c H2 locs (kk + 1) (nn + ksz (12, n)) Q (F0 m (pc + 3) ls (.ref (ad b base K.length) :: rest))) : W p l e R s m args below meth c H locs kk nn Q (F0 m pc ls (.int x :: rest)) := by
  obtain ⟨hx, hb, hml, hret, hlk, hts, hnest, hAO, hown, hK, hinit, hbase, hrk, hfr, hlo, hscr⟩ := hc
  have hk3 := h.2.2.2.2.1
  have hk4 := h.2.2.2.2.2
  have hks : ksz (12, n) = n := by unfold ksz; rw [if_neg (by show ¬ (12 : Nat) < 10; decide)]
  rw [ksum_push] at hslots
  rw [hks] at k hslots
  subst hxn
  refine W.anew hx hb hown (hts _ hw) (va_AO.use hAO) rfl hd rfl hx0 (Nat.le_trans (Nat.mul_le_mul_right 4 hn9) (by decide)) (by omega) (by omega) fun cN kA comp f1 f2 f3 f4 => ?_
  obtain ⟨kA2, comp2, -, -, -, g4⟩ := (hK.2 2 (cA 2, .object "GutterGardens$Waters") rfl).2
  have hcN : cN = cA 2 := Option.some.inj (f1.symm.trans g4)
  subst hcN
  generalize hH1 : H.push ({ cls := cA 2, slots := Array.replicate x.toNatClampNeg .null, vm := .none } : Cell) = H1
  have z1 : H1.size = H.size + 1 := by rw [← hH1, Array.size_push]
  have e1 : H1[H.size]? = some (arrV (cA 2) x.toNatClampNeg (fun _ => .null)) := by rw [← hH1, Array.getElem?_push_size, ← arrV_new]
  have o1 : ∀ q : Nat, q < H.size → H1[q]? = H[q]? := fun q hq => by rw [← hH1, Array.getElem?_push, if_neg (Nat.ne_of_lt hq)]
  have k1 := k H1
  rw [rl_sz h] at k1
  have hr := rl_push (q := (12, x.toNatClampNeg)) (e1 := .inl (cA 2, x.toNatClampNeg, .inr (.inr (.inr (.inr (fun _ => none)))))) h (I2 := I) (J2 := J) (F2 := va_up F K.length (fun _ => none)) (fun _ _ => rfl) (fun _ _ => rfl) (fun a' z => up_ne z) ?_ ?_ z1 o1
  · rw [hks] at hr
    exact k1 hr
  · unfold cellE
    rw [if_neg (by show ¬ (12 : Nat) < 10; decide), if_pos rfl, up_eq]
    rfl
  · show H1[H.size]? = some (vp_cell _ _)
    rw [vp_cell_q]
    exact e1
theorem gg_callG {mc ms : Nat} {st0 : List Value} {av : Array Value} {r : Option VV} {K2 : KT} {I2 : IT} {J2 : JT} {F2 : FT} (hr : va_Run p l e R s m args below meth c H locs kk nn mc ms (F0 m pc ls st0) rest (QcM D cA b base (r, K2, I2, J2, F2) av) (gg_A base)) (h : Rl s y b base k0 n0 D cA L K I J F ls H locs kk nn) (d1 : K2.length = K.length + mc) (d2 : ksum K2 = ksum K + ms)
    (k : ∀ (H2 : Heap) (locs2 : List Loc), Rl s y b base k0 n0 D cA L K2 I2 J2 F2 ls H2 locs2 (kk + mc) (nn + ms) → W p l e R s m args below meth c H2 locs2 (kk + mc) (nn + ms) Q (F0 m (pc + 3) ls ((r.map (vv (ad b base))).toList ++ rest))) : W p l e R s m args below meth c H locs kk nn Q (F0 m pc ls st0) := by
  intro T hT X
  obtain ⟨v, st₀, t, T', Lx, h0, X', hL, e1, e2, ⟨hv, hwd, hz, hk⟩, st⟩ := hr T hT X
  obtain ⟨h1, h2, hWD, hS, h3, h4⟩ := h
  cases hv
  rw [h0] at hz hk
  obtain ⟨t2, a1, b1⟩ := k T'.heap (locs ++ Lx) ⟨h1, h2, by rw [e1]; exact hwd, ⟨Nat.le_trans hS.1 (by rw [e1]; exact hz), fun q g1 g2 => by rw [e1, hk q (Nat.lt_of_lt_of_le g1 hS.1) g2]; exact hS.2.1 q g1 g2, fun q hq => by
      rcases List.mem_append.mp hq with g | g
      · exact hS.2.2 q g
      · exact hL q g⟩, by omega, by omega⟩ T' rfl X'
  exact ⟨t2, st t2 a1, b1⟩
theorem gg_blind {as : List VV} : FrameBlind (PcM D cA b base as K I J F) := fun a U g mk q => ⟨q.1, q.2.1, va_K.moved (u := U) (U := U.calling g mk a) (Vm.Alike.refl U.vm) q.2.2.1, fun w hw => va_Nw.same (u := U) rfl rfl (q.2.2.2.1 w hw), va_AO.moved (u := U) (U := U.calling g mk a) (Vm.Alike.refl U.vm) q.2.2.2.2⟩
theorem gg_pre {as : List VV} (hc : CX p l e R s m args below meth c y b base D cA scr) (h : Rl s y b base k0 n0 D cA L K I J F ls H locs kk nn) : ∀ U : State, U.heap = H → s.WarmedH U.vm → PcM D cA b base as K I J F (as.map (vv (ad b base))).toArray U := by
  obtain ⟨hx, hb, hml, hret, hlk, hts, hnest, hAO, hown, hK, hinit, hbase, hrk, hfr, hlo, hscr⟩ := hc
  exact fun U hU hW => ⟨rfl, by rw [hU]; exact h.2.2.1, va_K.moved hW.alike hK, fun w hw => va_Nw.warmM hW (hnest w hw), va_AO.moved hW.alike hAO⟩
theorem gg_rooms {y2 dc ds : Nat} (hc : CX p l e R s m args below meth c y b base D cA scr) (hm : mK y2 < mK y) : ({ frames := mK y2, cells := dc, slots := ds, locals := 40 * mK y2 } : Room).frames + 1 ≤ R.frames ∧ 8 + (mL y2 + 11) + ({ frames := mK y2, cells := dc, slots := ds, locals := 40 * mK y2 } : Room).locals ≤ R.locals := by
  obtain ⟨hx, hb, hml, hret, hlk, hts, hnest, hAO, hown, hK, hinit, hbase, hrk, hfr, hlo, hscr⟩ := hc
  have := gg_L21 y2
  refine ⟨?_, ?_⟩
  · show mK y2 + 1 ≤ R.frames
    omega
  · show 8 + (mL y2 + 11) + 40 * mK y2 ≤ R.locals
    omega
theorem gg_goodW {y2 : Nat} {l1 : List Cond} (h1 : ∀ w ∈ l1, w ∈ gg_GW) (hcode : (Cond.code (mN y2) (mB y2) (mL y2) (mR y2)) ∈ gg_GW) : GoodIn gg_GW (l1 ++ gg_wsy y2) := by
  intro w hw
  apply gg_good
  rcases List.mem_append.mp hw with z | z
  · exact h1 w z
  · rcases List.mem_cons.mp z with rfl | z
    · exact hcode
    · exact z
theorem gg_callV {i y2 : Nat} {a ci n n3 : Nat} {T : u_T} {as st : List VV} {r : Option VV} {K2 : KT} {I2 : IT} {J2 : JT} {F2 : FT} (hc : CX p l e R s m args below meth c y b base D cA scr) (hd : decode (mB y) pc = .ok (.invokevirtual i, 3)) (hl : gg_CV (mN y).cls i y2) (hm : mK y2 < mK y) (hn : as.length = mA y2) (hs : vcats st ≤ 8) (hk : K[a]? = some (ci, n)) (hcl : vwCl[ci]? = some ((mN y2).cls, T, n3)) (hC : PM l D cA b base y2 (vR a :: as) K I J F (r, K2, I2, J2, F2)) (hend : K2.length ≤ k0 + R.cells ∧ ksum K2 ≤ n0 + R.slots) (h : Rl s y b base k0 n0 D cA L K I J F ls H locs kk nn)
    (k : ∀ (ls2 : Array Slot) (H2 : Heap) (locs2 : List Loc) (kk2 nn2 : Nat), Rl s y b base k0 n0 D cA L K2 I2 J2 F2 ls2 H2 locs2 kk2 nn2 → W p l e R s m args below meth c H2 locs2 kk2 nn2 Q (F0 m (pc + 3) ls2 ((r.toList ++ st).map (vv (ad b base))))) : W p l e R s m args below meth c H locs kk nn Q (F0 m pc ls ((as.reverse ++ vR a :: st).map (vv (ad b base)))) := by
  obtain ⟨hx, hb, hml, hret, hlk, hts, hnest, hAO, hown, hK, hinit, hbase, hrk, hfr, hlo, hscr⟩ := id hc
  obtain ⟨w1, w2, w3, ⟨w4, w5, ⟨w6, w7, w8⟩, w9, w10⟩⟩ := hl
  obtain ⟨d1, d2, hM⟩ := hC
  have hM := hM w9 w10 h.2.2.1.2.2
  have h3 := h.2.2.2.2.1
  have h4 := h.2.2.2.2.2
  dsimp only at d1 d2 hM
  refine gg_callG (rest := st.map (vv (ad b base))) (va_runV (As := as.map (vv (ad b base))) ⟨hx, hb, hml, hown, hts⟩ hM (cwV (mA y2) hts (gg_goodW (l1 := [.methodLink (mN y).cls i (mN y2), .instanceMethod (mN y2), .selects (mN y2).cls (mN y2) (mN y2), .initialized (mN y2).cls]) (by simp [w1, w2, w3, w4]) w5) rfl rfl rfl ⟨rfl, w6, w7, w8⟩ (gg_rooms hc hm)) ⟨gg_blind, va_recv hK h.2.2.1.1 hcl (q0 := a - 1) (by have z := wd_get (cA := cA) (b := b) (base := base) (I := I) (J := J) (F := F) (k99_ne h.2.2.1.2.2 hk (by have := (gg_cls hcl).2.2.2.2.2.2; omega)) hk; rw [cE_obj (gg_cls hcl).2.2.2.2.2.2] at z; exact z), gg_pre (as := (vR a :: as)) hc h⟩ rfl (by rw [List.length_map]; exact hn) h.1.1 (by simp [vv, va_rf]) (lv_room (by rw [vv_cats]; exact hs)) hd ⟨by omega, by omega⟩) h (by omega) (by omega) (fun H2 locs2 h2 => ?_)
  have := k ls H2 locs2 _ _ h2
  rw [List.map_append] at this
  cases r <;> exact this
theorem gg_callS {i y2 : Nat} {as st : List VV} {r : Option VV} {K2 : KT} {I2 : IT} {J2 : JT} {F2 : FT} (hc : CX p l e R s m args below meth c y b base D cA scr) (hd : decode (mB y) pc = .ok (.invokestatic i, 3)) (hl : gg_CS (mN y).cls i y2) (hm : mK y2 < mK y) (hn : as.length = mA y2) (hs : vcats st ≤ 8) (hC : PM l D cA b base y2 as K I J F (r, K2, I2, J2, F2)) (hend : K2.length ≤ k0 + R.cells ∧ ksum K2 ≤ n0 + R.slots) (h : Rl s y b base k0 n0 D cA L K I J F ls H locs kk nn)
    (k : ∀ (ls2 : Array Slot) (H2 : Heap) (locs2 : List Loc) (kk2 nn2 : Nat), Rl s y b base k0 n0 D cA L K2 I2 J2 F2 ls2 H2 locs2 kk2 nn2 → W p l e R s m args below meth c H2 locs2 kk2 nn2 Q (F0 m (pc + 3) ls2 ((r.toList ++ st).map (vv (ad b base))))) : W p l e R s m args below meth c H locs kk nn Q (F0 m pc ls ((as.reverse ++ st).map (vv (ad b base)))) := by
  obtain ⟨hx, hb, hml, hret, hlk, hts, hnest, hAO, hown, hK, hinit, hbase, hrk, hfr, hlo, hscr⟩ := id hc
  obtain ⟨w1, w2, ⟨w4, w5, ⟨w6, w7, w8⟩, w9, w10⟩⟩ := hl
  obtain ⟨d1, d2, hM⟩ := hC
  have hM := hM w9 w10 h.2.2.1.2.2
  have h3 := h.2.2.2.2.1
  have h4 := h.2.2.2.2.2
  dsimp only at d1 d2 hM
  refine gg_callG (rest := st.map (vv (ad b base))) (va_runS (As := as.map (vv (ad b base))) ⟨hx, hb, hml, hown, hts⟩ hM (va_cwS (mA y2) hts (gg_goodW (l1 := [.methodLink (mN y).cls i (mN y2), .static (mN y2), .initialized (mN y2).cls]) (by simp [w1, w2, w4]) w5) rfl rfl rfl ⟨w6, w7, w8⟩ (gg_rooms hc hm)) ⟨gg_blind, gg_pre (as := as) hc h⟩ rfl (by rw [List.length_map]; exact hn) h.1.1 (by simp [vv, va_rf]) (lv_room (by rw [vv_cats]; exact hs)) hd ⟨by omega, by omega⟩) h (by omega) (by omega) (fun H2 locs2 h2 => ?_)
  have := k ls H2 locs2 _ _ h2
  rw [List.map_append] at this
  cases r <;> exact this
theorem gg_callSN {i y2 : Nat} {as st : List VV} {r : Option VV} {K2 : KT} {I2 : IT} {J2 : JT} {F2 : FT} (hc : CX p l e R s m args below meth c y b base D cA scr) (hd : decode (mB y) pc = .ok (.invokestatic i, 3)) (hl : gg_CSN (mN y).cls i y2) (hm : mK y2 < mK y) (hn : as.length = mA y2) (hs : vcats st ≤ 8) (hC : PM l D cA b base y2 as K I J F (r, K2, I2, J2, F2)) (hend : K2.length ≤ k0 + R.cells ∧ ksum K2 ≤ n0 + R.slots) (h : Rl s y b base k0 n0 D cA L K I J F ls H locs kk nn)
    (k : ∀ (ls2 : Array Slot) (H2 : Heap) (locs2 : List Loc) (kk2 nn2 : Nat), Rl s y b base k0 n0 D cA L K2 I2 J2 F2 ls2 H2 locs2 kk2 nn2 → W p l e R s m args below meth c H2 locs2 kk2 nn2 Q (F0 m (pc + 3) ls2 ((r.toList ++ st).map (vv (ad b base))))) : W p l e R s m args below meth c H locs kk nn Q (F0 m pc ls ((as.reverse ++ st).map (vv (ad b base)))) := by
  obtain ⟨hx, hb, hml, hret, hlk, hts, hnest, hAO, hown, hK, hinit, hbase, hrk, hfr, hlo, hscr⟩ := id hc
  obtain ⟨⟨host, w1⟩, w2, ⟨w4, w5, ⟨w6, w7, w8⟩, w9, w10⟩⟩ := hl
  obtain ⟨d1, d2, hM⟩ := hC
  have hM := hM w9 w10 h.2.2.1.2.2
  have h3 := h.2.2.2.2.1
  have h4 := h.2.2.2.2.2
  dsimp only at d1 d2 hM
  refine gg_callG (rest := st.map (vv (ad b base))) (va_runSN (host := host) (Ts := gg_GW) (As := as.map (vv (ad b base))) ⟨hx, hb, hml, hown, hts⟩ hM ⟨va_cnB (mA y2) hts (gg_goodW (l1 := []) (by simp) w5) rfl rfl rfl (hnest _ w1) (hts _ w4) ⟨w6, w7, w8⟩ (gg_rooms hc hm), hts _ w2, trivial⟩ ⟨gg_blind, gg_pre (as := as) hc h⟩ rfl (by rw [List.length_map]; exact hn) h.1.1 (by simp [vv, va_rf]) (lv_room (by rw [vv_cats]; exact hs)) hd ⟨by omega, by omega⟩) h (by omega) (by omega) (fun H2 locs2 h2 => ?_)
  have := k ls H2 locs2 _ _ h2
  rw [List.map_append] at this
  cases r <;> exact this
theorem gg_callI {i y2 : Nat} {a : Nat} {as st : List VV} {r : Option VV} {K2 : KT} {I2 : IT} {J2 : JT} {F2 : FT} (hc : CX p l e R s m args below meth c y b base D cA scr) (hd : decode (mB y) pc = .ok (.invokespecial i, 3)) (hl : gg_CI (mN y).cls i y2) (hm : mK y2 < mK y) (hn : as.length = mA y2) (hs : vcats st ≤ 8) (hC : PM l D cA b base y2 (vR a :: as) K I J F (r, K2, I2, J2, F2)) (hend : K2.length ≤ k0 + R.cells ∧ ksum K2 ≤ n0 + R.slots) (h : Rl s y b base k0 n0 D cA L K I J F ls H locs kk nn)
    (k : ∀ (ls2 : Array Slot) (H2 : Heap) (locs2 : List Loc) (kk2 nn2 : Nat), Rl s y b base k0 n0 D cA L K2 I2 J2 F2 ls2 H2 locs2 kk2 nn2 → W p l e R s m args below meth c H2 locs2 kk2 nn2 Q (F0 m (pc + 3) ls2 ((r.toList ++ st).map (vv (ad b base))))) : W p l e R s m args below meth c H locs kk nn Q (F0 m pc ls ((as.reverse ++ vR a :: st).map (vv (ad b base)))) := by
  obtain ⟨hx, hb, hml, hret, hlk, hts, hnest, hAO, hown, hK, hinit, hbase, hrk, hfr, hlo, hscr⟩ := id hc
  obtain ⟨w1, w2, w3, w11, ⟨w4, w5, ⟨w6, w7, w8⟩, w9, w10⟩⟩ := hl
  obtain ⟨d1, d2, hM⟩ := hC
  have hM := hM w9 w10 h.2.2.1.2.2
  have h3 := h.2.2.2.2.1
  have h4 := h.2.2.2.2.2
  dsimp only at d1 d2 hM
  refine gg_callG (rest := st.map (vv (ad b base))) (va_runI (b := ad b base a) (As := as.map (vv (ad b base))) ⟨hx, hb, hml, hown, hts⟩ hM (cwI (bytes := mB y2) (maxL := mL y2) (mA y2) hts (gg_goodW (l1 := []) (by simp) w5) (by unfold gg_wsy; rw [w11]) rfl rfl (hts _ w4) (hts _ w1) (hts _ w2) w3 ⟨w6, w7, w8⟩ (gg_rooms hc hm)) ⟨gg_blind, gg_pre (as := (vR a :: as)) hc h⟩ rfl (by rw [List.length_map]; exact hn) h.1.1 (by simp [vv, va_rf]) (lv_room (by rw [vv_cats]; exact hs)) hd ⟨by omega, by omega⟩) h (by omega) (by omega) (fun H2 locs2 h2 => ?_)
  have := k ls H2 locs2 _ _ h2
  rw [List.map_append] at this
  cases r <;> exact this
theorem gg_callIN {i y2 : Nat} {a : Nat} {as st : List VV} {r : Option VV} {K2 : KT} {I2 : IT} {J2 : JT} {F2 : FT} (hc : CX p l e R s m args below meth c y b base D cA scr) (hd : decode (mB y) pc = .ok (.invokespecial i, 3)) (hl : gg_CIN (mN y).cls i y2) (hm : mK y2 < mK y) (hn : as.length = mA y2) (hs : vcats st ≤ 8) (hC : PM l D cA b base y2 (vR a :: as) K I J F (r, K2, I2, J2, F2)) (hend : K2.length ≤ k0 + R.cells ∧ ksum K2 ≤ n0 + R.slots) (h : Rl s y b base k0 n0 D cA L K I J F ls H locs kk nn)
    (k : ∀ (ls2 : Array Slot) (H2 : Heap) (locs2 : List Loc) (kk2 nn2 : Nat), Rl s y b base k0 n0 D cA L K2 I2 J2 F2 ls2 H2 locs2 kk2 nn2 → W p l e R s m args below meth c H2 locs2 kk2 nn2 Q (F0 m (pc + 3) ls2 ((r.toList ++ st).map (vv (ad b base))))) : W p l e R s m args below meth c H locs kk nn Q (F0 m pc ls ((as.reverse ++ vR a :: st).map (vv (ad b base)))) := by
  obtain ⟨hx, hb, hml, hret, hlk, hts, hnest, hAO, hown, hK, hinit, hbase, hrk, hfr, hlo, hscr⟩ := id hc
  obtain ⟨⟨host, w1⟩, w2, w3, w11, ⟨w4, w5, ⟨w6, w7, w8⟩, w9, w10⟩⟩ := hl
  obtain ⟨d1, d2, hM⟩ := hC
  have hM := hM w9 w10 h.2.2.1.2.2
  have h3 := h.2.2.2.2.1
  have h4 := h.2.2.2.2.2
  dsimp only at d1 d2 hM
  refine gg_callG (rest := st.map (vv (ad b base))) (va_runIN (host := host) (Ts := gg_GW) (b := ad b base a) (As := as.map (vv (ad b base))) ⟨hx, hb, hml, hown, hts⟩ hM ⟨va_cnB (bytes := mB y2) (maxL := mL y2) (ret := none) (mA y2) hts (gg_goodW (l1 := []) (by simp) w5) (by unfold gg_wsy; rw [w11]) rfl rfl (hnest _ w1) (hts _ w4) ⟨w6, w7, w8⟩ (gg_rooms hc hm), w3, hts _ w2⟩ ⟨gg_blind, gg_pre (as := (vR a :: as)) hc h⟩ rfl (by rw [List.length_map]; exact hn) h.1.1 (by simp [vv, va_rf]) (lv_room (by rw [vv_cats]; exact hs)) hd ⟨by omega, by omega⟩) h (by omega) (by omega) (fun H2 locs2 h2 => ?_)
  have := k ls H2 locs2 _ _ h2
  rw [List.map_append] at this
  cases r <;> exact this
theorem sm_iret {Rs : RT} (hc : CX p l e R s m args below meth c y b base D cA scr) (hend : Rs.2.1.length = k0 + R.cells ∧ ksum Rs.2.1 = n0 + R.slots) : r_iret Rs y (XX p l e R s m args below meth c (MQ below (QcM D cA b base Rs) args s R.cells R.slots (gg_A base)) y b base k0 n0 D cA) := by
  obtain ⟨hx, hb, hml, hret, hlk, hts, hnest, hAO, hown, hK, hinit, hbase, hrk, hfr, hlo, hscr⟩ := id hc
  intro pc L st K I J F x hd hr hR
  subst hR
  dsimp only at hend
  refine ⟨⟨by omega, by omega⟩, fun ls H locs kk nn h => ?_⟩
  have e1 : kk = R.cells := by have := h.2.2.2.2.1; omega
  have e2 : nn = R.slots := by have := h.2.2.2.2.2; omega
  subst e1
  subst e2
  rcases hr with hr | ⟨hr, hx01⟩
  · exact W.iret hx hb (hret.trans hr) (fun t ht hW => ⟨rfl, by rw [ht]; exact h.2.2.1, h.2.2.2.1.F ht⟩) h.2.2.2.1.2.2 hd hlk
  · exact W.zret hx hb (hret.trans hr) (by rcases hx01 with rfl | rfl <;> rfl) (fun t ht hW => ⟨rfl, by rw [ht]; exact h.2.2.1, h.2.2.2.1.F ht⟩) h.2.2.2.1.2.2 hd hlk
theorem sm_lret {Rs : RT} (hc : CX p l e R s m args below meth c y b base D cA scr) (hend : Rs.2.1.length = k0 + R.cells ∧ ksum Rs.2.1 = n0 + R.slots) : r_lret Rs y (XX p l e R s m args below meth c (MQ below (QcM D cA b base Rs) args s R.cells R.slots (gg_A base)) y b base k0 n0 D cA) := by
  obtain ⟨hx, hb, hml, hret, hlk, hts, hnest, hAO, hown, hK, hinit, hbase, hrk, hfr, hlo, hscr⟩ := id hc
  intro pc L st K I J F x hd hr hR
  subst hR
  dsimp only at hend
  refine ⟨⟨by omega, by omega⟩, fun ls H locs kk nn h => ?_⟩
  have e1 : kk = R.cells := by have := h.2.2.2.2.1; omega
  have e2 : nn = R.slots := by have := h.2.2.2.2.2; omega
  subst e1
  subst e2
  exact W.lret hx hb (hret.trans hr) (fun t ht hW => ⟨rfl, by rw [ht]; exact h.2.2.1, h.2.2.2.1.F ht⟩) h.2.2.2.1.2.2 hd hlk
theorem sm_aret {Rs : RT} (hc : CX p l e R s m args below meth c y b base D cA scr) (hend : Rs.2.1.length = k0 + R.cells ∧ ksum Rs.2.1 = n0 + R.slots) : r_aret Rs y (XX p l e R s m args below meth c (MQ below (QcM D cA b base Rs) args s R.cells R.slots (gg_A base)) y b base k0 n0 D cA) := by
  obtain ⟨hx, hb, hml, hret, hlk, hts, hnest, hAO, hown, hK, hinit, hbase, hrk, hfr, hlo, hscr⟩ := id hc
  intro pc L st K I J F x hd hr hR
  subst hR
  dsimp only at hend
  refine ⟨⟨by omega, by omega⟩, fun ls H locs kk nn h => ?_⟩
  have e1 : kk = R.cells := by have := h.2.2.2.2.1; omega
  have e2 : nn = R.slots := by have := h.2.2.2.2.2; omega
  subst e1
  subst e2
  rcases hr with hr | hr
  · exact W.aret hx hb (hret.trans hr) (Or.inl ⟨_, rfl⟩) (Or.inr ⟨_, rfl⟩) (fun t ht hW => ⟨rfl, by rw [ht]; exact h.2.2.1, h.2.2.2.1.F ht⟩) h.2.2.2.1.2.2 hd hlk
  · exact W.aret hx hb (hret.trans hr) (Or.inl ⟨_, rfl⟩) (Or.inr ⟨_, rfl⟩) (fun t ht hW => ⟨rfl, by rw [ht]; exact h.2.2.1, h.2.2.2.1.F ht⟩) h.2.2.2.1.2.2 hd hlk
theorem sm_vret {Rs : RT} (hc : CX p l e R s m args below meth c y b base D cA scr) (hend : Rs.2.1.length = k0 + R.cells ∧ ksum Rs.2.1 = n0 + R.slots) : r_vret Rs y (XX p l e R s m args below meth c (MQ below (QcM D cA b base Rs) args s R.cells R.slots (gg_A base)) y b base k0 n0 D cA) := by
  obtain ⟨hx, hb, hml, hret, hlk, hts, hnest, hAO, hown, hK, hinit, hbase, hrk, hfr, hlo, hscr⟩ := id hc
  intro pc L st K I J F hd hr hR
  subst hR
  dsimp only at hend
  refine ⟨⟨by omega, by omega⟩, fun ls H locs kk nn h => ?_⟩
  have e1 : kk = R.cells := by have := h.2.2.2.2.1; omega
  have e2 : nn = R.slots := by have := h.2.2.2.2.2; omega
  subst e1
  subst e2
  exact W.vret hx hb (hret.trans hr) (fun t ht hW => ⟨rfl, by rw [ht]; exact h.2.2.1, h.2.2.2.1.F ht⟩) h.2.2.2.1.2.2 hd hlk
theorem sm_iconst (hc : CX p l e R s m args below meth c y b base D cA scr) : r_iconst y (XX p l e R s m args below meth c Q y b base k0 n0 D cA) := by
  obtain ⟨hx, hb, hml, hret, hlk, hts, hnest, hAO, hown, hK, hinit, hbase, hrk, hfr, hlo, hscr⟩ := id hc
  intro pc L st K I J F n v hd hv k
  exact ⟨k.1, fun ls H locs kk nn h => lv_iconst hx hb hd hv (k.2 ls H locs kk nn h)⟩
theorem sm_bipush (hc : CX p l e R s m args below meth c y b base D cA scr) : r_bipush y (XX p l e R s m args below meth c Q y b base k0 n0 D cA) := by
  obtain ⟨hx, hb, hml, hret, hlk, hts, hnest, hAO, hown, hK, hinit, hbase, hrk, hfr, hlo, hscr⟩ := id hc
  intro pc L st K I J F n v hd hv k
  exact ⟨k.1, fun ls H locs kk nn h => lv_bipush hx hb hd hv (k.2 ls H locs kk nn h)⟩
theorem sm_sipush (hc : CX p l e R s m args below meth c y b base D cA scr) : r_sipush y (XX p l e R s m args below meth c Q y b base k0 n0 D cA) := by
  obtain ⟨hx, hb, hml, hret, hlk, hts, hnest, hAO, hown, hK, hinit, hbase, hrk, hfr, hlo, hscr⟩ := id hc
  intro pc L st K I J F n v hd hv k
  exact ⟨k.1, fun ls H locs kk nn h => lv_sipush hx hb hd hv (k.2 ls H locs kk nn h)⟩
theorem sm_lconst (hc : CX p l e R s m args below meth c y b base D cA scr) : r_lconst y (XX p l e R s m args below meth c Q y b base k0 n0 D cA) := by
  obtain ⟨hx, hb, hml, hret, hlk, hts, hnest, hAO, hown, hK, hinit, hbase, hrk, hfr, hlo, hscr⟩ := id hc
  intro pc L st K I J F n v hd hv k
  exact ⟨k.1, fun ls H locs kk nn h => lv_lconst hx hb hd hv (k.2 ls H locs kk nn h)⟩
theorem sm_ldcw (hc : CX p l e R s m args below meth c y b base D cA scr) : r_ldcw y (XX p l e R s m args below meth c Q y b base k0 n0 D cA) := by
  obtain ⟨hx, hb, hml, hret, hlk, hts, hnest, hAO, hown, hK, hinit, hbase, hrk, hfr, hlo, hscr⟩ := id hc
  intro pc L st K I J F i v hd hw k
  exact ⟨k.1, fun ls H locs kk nn h => lv_ldcw hx hb hown (hts _ hw) hd (k.2 ls H locs kk nn h)⟩
theorem sm_ldc2 (hc : CX p l e R s m args below meth c y b base D cA scr) : r_ldc2 y (XX p l e R s m args below meth c Q y b base k0 n0 D cA) := by
  obtain ⟨hx, hb, hml, hret, hlk, hts, hnest, hAO, hown, hK, hinit, hbase, hrk, hfr, hlo, hscr⟩ := id hc
  intro pc L st K I J F i v hd hw k
  exact ⟨k.1, fun ls H locs kk nn h => lv_ldc2 hx hb hown (hts _ hw) hd (k.2 ls H locs kk nn h)⟩
theorem sm_iload_n (hc : CX p l e R s m args below meth c y b base D cA scr) : r_iload_n y (XX p l e R s m args below meth c Q y b base k0 n0 D cA) := by
  obtain ⟨hx, hb, hml, hret, hlk, hts, hnest, hAO, hown, hK, hinit, hbase, hrk, hfr, hlo, hscr⟩ := id hc
  intro pc L st K I J F q i x hd hi hl k
  exact ⟨k.1, fun ls H locs kk nn h => lv_iload_n hx hb hd hi (h.1.2.2 i _ hl) (k.2 ls H locs kk nn h)⟩
theorem sm_iload (hc : CX p l e R s m args below meth c y b base D cA scr) : r_iload y (XX p l e R s m args below meth c Q y b base k0 n0 D cA) := by
  obtain ⟨hx, hb, hml, hret, hlk, hts, hnest, hAO, hown, hK, hinit, hbase, hrk, hfr, hlo, hscr⟩ := id hc
  intro pc L st K I J F i x hd hl k
  exact ⟨k.1, fun ls H locs kk nn h => lv_iload hx hb hd (h.1.2.2 i _ hl) (k.2 ls H locs kk nn h)⟩
theorem sm_lload_n (hc : CX p l e R s m args below meth c y b base D cA scr) : r_lload_n y (XX p l e R s m args below meth c Q y b base k0 n0 D cA) := by
  obtain ⟨hx, hb, hml, hret, hlk, hts, hnest, hAO, hown, hK, hinit, hbase, hrk, hfr, hlo, hscr⟩ := id hc
  intro pc L st K I J F q i x hd hi hl k
  exact ⟨k.1, fun ls H locs kk nn h => lv_lload_n hx hb hd hi (h.1.2.2 i _ hl) (k.2 ls H locs kk nn h)⟩
theorem sm_lload (hc : CX p l e R s m args below meth c y b base D cA scr) : r_lload y (XX p l e R s m args below meth c Q y b base k0 n0 D cA) := by
  obtain ⟨hx, hb, hml, hret, hlk, hts, hnest, hAO, hown, hK, hinit, hbase, hrk, hfr, hlo, hscr⟩ := id hc
  intro pc L st K I J F i x hd hl k
  exact ⟨k.1, fun ls H locs kk nn h => lv_lload hx hb hd (h.1.2.2 i _ hl) (k.2 ls H locs kk nn h)⟩
theorem sm_aload_n (hc : CX p l e R s m args below meth c y b base D cA scr) : r_aload_n y (XX p l e R s m args below meth c Q y b base k0 n0 D cA) := by
  obtain ⟨hx, hb, hml, hret, hlk, hts, hnest, hAO, hown, hK, hinit, hbase, hrk, hfr, hlo, hscr⟩ := id hc
  intro pc L st K I J F q i x hd hi hl k
  exact ⟨k.1, fun ls H locs kk nn h => lv_aload_n hx hb hd hi (h.1.2.2 i _ hl) (k.2 ls H locs kk nn h)⟩
theorem sm_aload (hc : CX p l e R s m args below meth c y b base D cA scr) : r_aload y (XX p l e R s m args below meth c Q y b base k0 n0 D cA) := by
  obtain ⟨hx, hb, hml, hret, hlk, hts, hnest, hAO, hown, hK, hinit, hbase, hrk, hfr, hlo, hscr⟩ := id hc
  intro pc L st K I J F i x hd hl k
  exact ⟨k.1, fun ls H locs kk nn h => lv_aload hx hb hd (h.1.2.2 i _ hl) (k.2 ls H locs kk nn h)⟩
theorem sm_istore_n (hc : CX p l e R s m args below meth c y b base D cA scr) : r_istore_n y (XX p l e R s m args below meth c Q y b base k0 n0 D cA) := by
  obtain ⟨hx, hb, hml, hret, hlk, hts, hnest, hAO, hown, hK, hinit, hbase, hrk, hfr, hlo, hscr⟩ := id hc
  intro pc L st K I J F q i x hd hi hn hp k
  exact ⟨k.1, fun ls H locs kk nn h => lv_istore_n hx hb hd hi (lr_has h.1) (lr_lt h hn) rfl (fun ls2 h2 => k.2 ls2 H locs kk nn (rl_st1 h hn hp h2))⟩
theorem sm_istore (hc : CX p l e R s m args below meth c y b base D cA scr) : r_istore y (XX p l e R s m args below meth c Q y b base k0 n0 D cA) := by
  obtain ⟨hx, hb, hml, hret, hlk, hts, hnest, hAO, hown, hK, hinit, hbase, hrk, hfr, hlo, hscr⟩ := id hc
  intro pc L st K I J F i x hd hn hp k
  exact ⟨k.1, fun ls H locs kk nn h => lv_istore hx hb hd (lr_has h.1) (lr_lt h hn) rfl (fun ls2 h2 => k.2 ls2 H locs kk nn (rl_st1 h hn hp h2))⟩
theorem sm_astore_n (hc : CX p l e R s m args below meth c y b base D cA scr) : r_astore_n y (XX p l e R s m args below meth c Q y b base k0 n0 D cA) := by
  obtain ⟨hx, hb, hml, hret, hlk, hts, hnest, hAO, hown, hK, hinit, hbase, hrk, hfr, hlo, hscr⟩ := id hc
  intro pc L st K I J F q i x hd hi hn hp k
  exact ⟨k.1, fun ls H locs kk nn h => lv_astore_n hx hb hd hi (lr_has h.1) (lr_lt h hn) rfl (fun ls2 h2 => k.2 ls2 H locs kk nn (rl_st1 h hn hp h2))⟩
theorem sm_astore (hc : CX p l e R s m args below meth c y b base D cA scr) : r_astore y (XX p l e R s m args below meth c Q y b base k0 n0 D cA) := by
  obtain ⟨hx, hb, hml, hret, hlk, hts, hnest, hAO, hown, hK, hinit, hbase, hrk, hfr, hlo, hscr⟩ := id hc
  intro pc L st K I J F i x hd hn hp k
  exact ⟨k.1, fun ls H locs kk nn h => lv_astore hx hb hd (lr_has h.1) (lr_lt h hn) rfl (fun ls2 h2 => k.2 ls2 H locs kk nn (rl_st1 h hn hp h2))⟩
theorem sm_lstore_n (hc : CX p l e R s m args below meth c y b base D cA scr) : r_lstore_n y (XX p l e R s m args below meth c Q y b base k0 n0 D cA) := by
  obtain ⟨hx, hb, hml, hret, hlk, hts, hnest, hAO, hown, hK, hinit, hbase, hrk, hfr, hlo, hscr⟩ := id hc
  intro pc L st K I J F q i x hd hi hn hp k
  exact ⟨k.1, fun ls H locs kk nn h => lv_lstore_n hx hb hd hi (lr_has h.1) (lr_lt h hn) rfl (fun ls2 h2 => k.2 ls2 H locs kk nn (rl_st2 h hn hp h2))⟩
theorem sm_lstore (hc : CX p l e R s m args below meth c y b base D cA scr) : r_lstore y (XX p l e R s m args below meth c Q y b base k0 n0 D cA) := by
  obtain ⟨hx, hb, hml, hret, hlk, hts, hnest, hAO, hown, hK, hinit, hbase, hrk, hfr, hlo, hscr⟩ := id hc
  intro pc L st K I J F i x hd hn hp k
  exact ⟨k.1, fun ls H locs kk nn h => lv_lstore hx hb hd (lr_has h.1) (lr_lt h hn) rfl (fun ls2 h2 => k.2 ls2 H locs kk nn (rl_st2 h hn hp h2))⟩
theorem sm_iinc (hc : CX p l e R s m args below meth c y b base D cA scr) : r_iinc y (XX p l e R s m args below meth c Q y b base k0 n0 D cA) := by
  obtain ⟨hx, hb, hml, hret, hlk, hts, hnest, hAO, hown, hK, hinit, hbase, hrk, hfr, hlo, hscr⟩ := id hc
  intro pc L st K I J F i n x v hd hl hv hp k
  exact ⟨k.1, fun ls H locs kk nn h => (by
    obtain ⟨q, hq⟩ := List.getElem?_of_mem (lvs_mem.mpr ⟨_, hl, rfl⟩ : (i, Value.int x) ∈ lvs (ad b base) L)
    have hn : i < L.length := (List.getElem?_eq_some_iff.mp hl).1
    exact lv_iinc hx hb hd (lr_has h.1) hq hv (lr_lt h hn) rfl (fun ls2 h2 => k.2 ls2 H locs kk nn (rl_st1 h hn hp h2)))⟩
theorem sm_iadd (hc : CX p l e R s m args below meth c y b base D cA scr) : r_iadd y (XX p l e R s m args below meth c Q y b base k0 n0 D cA) := by
  obtain ⟨hx, hb, hml, hret, hlk, hts, hnest, hAO, hown, hK, hinit, hbase, hrk, hfr, hlo, hscr⟩ := id hc
  intro pc L st K I J F x y2 hd k
  exact ⟨k.1, fun ls H locs kk nn h => lv_iadd hx hb hd (k.2 ls H locs kk nn h)⟩
theorem sm_isub (hc : CX p l e R s m args below meth c y b base D cA scr) : r_isub y (XX p l e R s m args below meth c Q y b base k0 n0 D cA) := by
  obtain ⟨hx, hb, hml, hret, hlk, hts, hnest, hAO, hown, hK, hinit, hbase, hrk, hfr, hlo, hscr⟩ := id hc
  intro pc L st K I J F x y2 hd k
  exact ⟨k.1, fun ls H locs kk nn h => lv_isub hx hb hd (k.2 ls H locs kk nn h)⟩
theorem sm_imul (hc : CX p l e R s m args below meth c y b base D cA scr) : r_imul y (XX p l e R s m args below meth c Q y b base k0 n0 D cA) := by
  obtain ⟨hx, hb, hml, hret, hlk, hts, hnest, hAO, hown, hK, hinit, hbase, hrk, hfr, hlo, hscr⟩ := id hc
  intro pc L st K I J F x y2 hd k
  exact ⟨k.1, fun ls H locs kk nn h => lv_imul hx hb hd (k.2 ls H locs kk nn h)⟩
theorem sm_iand (hc : CX p l e R s m args below meth c y b base D cA scr) : r_iand y (XX p l e R s m args below meth c Q y b base k0 n0 D cA) := by
  obtain ⟨hx, hb, hml, hret, hlk, hts, hnest, hAO, hown, hK, hinit, hbase, hrk, hfr, hlo, hscr⟩ := id hc
  intro pc L st K I J F x y2 hd k
  exact ⟨k.1, fun ls H locs kk nn h => lv_iand hx hb hd (k.2 ls H locs kk nn h)⟩
theorem sm_ior (hc : CX p l e R s m args below meth c y b base D cA scr) : r_ior y (XX p l e R s m args below meth c Q y b base k0 n0 D cA) := by
  obtain ⟨hx, hb, hml, hret, hlk, hts, hnest, hAO, hown, hK, hinit, hbase, hrk, hfr, hlo, hscr⟩ := id hc
  intro pc L st K I J F x y2 hd k
  exact ⟨k.1, fun ls H locs kk nn h => lv_ior hx hb hd (k.2 ls H locs kk nn h)⟩
theorem sm_ixor (hc : CX p l e R s m args below meth c y b base D cA scr) : r_ixor y (XX p l e R s m args below meth c Q y b base k0 n0 D cA) := by
  obtain ⟨hx, hb, hml, hret, hlk, hts, hnest, hAO, hown, hK, hinit, hbase, hrk, hfr, hlo, hscr⟩ := id hc
  intro pc L st K I J F x y2 hd k
  exact ⟨k.1, fun ls H locs kk nn h => lv_ixor hx hb hd (k.2 ls H locs kk nn h)⟩
theorem sm_ishl (hc : CX p l e R s m args below meth c y b base D cA scr) : r_ishl y (XX p l e R s m args below meth c Q y b base k0 n0 D cA) := by
  obtain ⟨hx, hb, hml, hret, hlk, hts, hnest, hAO, hown, hK, hinit, hbase, hrk, hfr, hlo, hscr⟩ := id hc
  intro pc L st K I J F x y2 hd k
  exact ⟨k.1, fun ls H locs kk nn h => lv_ishl hx hb hd (k.2 ls H locs kk nn h)⟩
theorem sm_ishr (hc : CX p l e R s m args below meth c y b base D cA scr) : r_ishr y (XX p l e R s m args below meth c Q y b base k0 n0 D cA) := by
  obtain ⟨hx, hb, hml, hret, hlk, hts, hnest, hAO, hown, hK, hinit, hbase, hrk, hfr, hlo, hscr⟩ := id hc
  intro pc L st K I J F x y2 hd k
  exact ⟨k.1, fun ls H locs kk nn h => lv_ishr hx hb hd (k.2 ls H locs kk nn h)⟩
theorem sm_iushr (hc : CX p l e R s m args below meth c y b base D cA scr) : r_iushr y (XX p l e R s m args below meth c Q y b base k0 n0 D cA) := by
  obtain ⟨hx, hb, hml, hret, hlk, hts, hnest, hAO, hown, hK, hinit, hbase, hrk, hfr, hlo, hscr⟩ := id hc
  intro pc L st K I J F x y2 hd k
  exact ⟨k.1, fun ls H locs kk nn h => lv_iushr hx hb hd rfl (k.2 ls H locs kk nn h)⟩
theorem sm_idiv (hc : CX p l e R s m args below meth c y b base D cA scr) : r_idiv y (XX p l e R s m args below meth c Q y b base k0 n0 D cA) := by
  obtain ⟨hx, hb, hml, hret, hlk, hts, hnest, hAO, hown, hK, hinit, hbase, hrk, hfr, hlo, hscr⟩ := id hc
  intro pc L st K I J F x y2 hd hne k
  exact ⟨k.1, fun ls H locs kk nn h => lv_idiv hx hb hd hne (k.2 ls H locs kk nn h)⟩
theorem sm_irem (hc : CX p l e R s m args below meth c y b base D cA scr) : r_irem y (XX p l e R s m args below meth c Q y b base k0 n0 D cA) := by
  obtain ⟨hx, hb, hml, hret, hlk, hts, hnest, hAO, hown, hK, hinit, hbase, hrk, hfr, hlo, hscr⟩ := id hc
  intro pc L st K I J F x y2 hd hne k
  exact ⟨k.1, fun ls H locs kk nn h => lv_irem hx hb hd hne (k.2 ls H locs kk nn h)⟩
theorem sm_ladd (hc : CX p l e R s m args below meth c y b base D cA scr) : r_ladd y (XX p l e R s m args below meth c Q y b base k0 n0 D cA) := by
  obtain ⟨hx, hb, hml, hret, hlk, hts, hnest, hAO, hown, hK, hinit, hbase, hrk, hfr, hlo, hscr⟩ := id hc
  intro pc L st K I J F x y2 hd k
  exact ⟨k.1, fun ls H locs kk nn h => lv_ladd hx hb hd (k.2 ls H locs kk nn h)⟩
theorem sm_lmul (hc : CX p l e R s m args below meth c y b base D cA scr) : r_lmul y (XX p l e R s m args below meth c Q y b base k0 n0 D cA) := by
  obtain ⟨hx, hb, hml, hret, hlk, hts, hnest, hAO, hown, hK, hinit, hbase, hrk, hfr, hlo, hscr⟩ := id hc
  intro pc L st K I J F x y2 hd k
  exact ⟨k.1, fun ls H locs kk nn h => lv_lmul hx hb hd (k.2 ls H locs kk nn h)⟩
theorem sm_land (hc : CX p l e R s m args below meth c y b base D cA scr) : r_land y (XX p l e R s m args below meth c Q y b base k0 n0 D cA) := by
  obtain ⟨hx, hb, hml, hret, hlk, hts, hnest, hAO, hown, hK, hinit, hbase, hrk, hfr, hlo, hscr⟩ := id hc
  intro pc L st K I J F x y2 hd k
  exact ⟨k.1, fun ls H locs kk nn h => lv_land hx hb hd (k.2 ls H locs kk nn h)⟩
theorem sm_lor (hc : CX p l e R s m args below meth c y b base D cA scr) : r_lor y (XX p l e R s m args below meth c Q y b base k0 n0 D cA) := by
  obtain ⟨hx, hb, hml, hret, hlk, hts, hnest, hAO, hown, hK, hinit, hbase, hrk, hfr, hlo, hscr⟩ := id hc
  intro pc L st K I J F x y2 hd k
  exact ⟨k.1, fun ls H locs kk nn h => lv_lor hx hb hd (k.2 ls H locs kk nn h)⟩
theorem sm_ldiv (hc : CX p l e R s m args below meth c y b base D cA scr) : r_ldiv y (XX p l e R s m args below meth c Q y b base k0 n0 D cA) := by
  obtain ⟨hx, hb, hml, hret, hlk, hts, hnest, hAO, hown, hK, hinit, hbase, hrk, hfr, hlo, hscr⟩ := id hc
  intro pc L st K I J F x y2 hd hne k
  exact ⟨k.1, fun ls H locs kk nn h => lv_ldiv hx hb hd hne (k.2 ls H locs kk nn h)⟩
theorem sm_lrem (hc : CX p l e R s m args below meth c y b base D cA scr) : r_lrem y (XX p l e R s m args below meth c Q y b base k0 n0 D cA) := by
  obtain ⟨hx, hb, hml, hret, hlk, hts, hnest, hAO, hown, hK, hinit, hbase, hrk, hfr, hlo, hscr⟩ := id hc
  intro pc L st K I J F x y2 hd hne k
  exact ⟨k.1, fun ls H locs kk nn h => lv_lrem hx hb hd hne (k.2 ls H locs kk nn h)⟩
theorem sm_lushr (hc : CX p l e R s m args below meth c y b base D cA scr) : r_lushr y (XX p l e R s m args below meth c Q y b base k0 n0 D cA) := by
  obtain ⟨hx, hb, hml, hret, hlk, hts, hnest, hAO, hown, hK, hinit, hbase, hrk, hfr, hlo, hscr⟩ := id hc
  intro pc L st K I J F x y2 hd k
  exact ⟨k.1, fun ls H locs kk nn h => lv_lushr hx hb hd rfl (k.2 ls H locs kk nn h)⟩
theorem sm_lshl (hc : CX p l e R s m args below meth c y b base D cA scr) : r_lshl y (XX p l e R s m args below meth c Q y b base k0 n0 D cA) := by
  obtain ⟨hx, hb, hml, hret, hlk, hts, hnest, hAO, hown, hK, hinit, hbase, hrk, hfr, hlo, hscr⟩ := id hc
  intro pc L st K I J F x y2 hd k
  exact ⟨k.1, fun ls H locs kk nn h => lv_lshl hx hb hd rfl (k.2 ls H locs kk nn h)⟩
theorem sm_lshr (hc : CX p l e R s m args below meth c y b base D cA scr) : r_lshr y (XX p l e R s m args below meth c Q y b base k0 n0 D cA) := by
  obtain ⟨hx, hb, hml, hret, hlk, hts, hnest, hAO, hown, hK, hinit, hbase, hrk, hfr, hlo, hscr⟩ := id hc
  intro pc L st K I J F x y2 hd k
  exact ⟨k.1, fun ls H locs kk nn h => lv_lshr hx hb hd rfl (k.2 ls H locs kk nn h)⟩
theorem sm_lcmp (hc : CX p l e R s m args below meth c y b base D cA scr) : r_lcmp y (XX p l e R s m args below meth c Q y b base k0 n0 D cA) := by
  obtain ⟨hx, hb, hml, hret, hlk, hts, hnest, hAO, hown, hK, hinit, hbase, hrk, hfr, hlo, hscr⟩ := id hc
  intro pc L st K I J F x y2 hd k
  exact ⟨k.1, fun ls H locs kk nn h => W.lcmp hx hb hd (k.2 ls H locs kk nn h)⟩
theorem sm_i2l (hc : CX p l e R s m args below meth c y b base D cA scr) : r_i2l y (XX p l e R s m args below meth c Q y b base k0 n0 D cA) := by
  obtain ⟨hx, hb, hml, hret, hlk, hts, hnest, hAO, hown, hK, hinit, hbase, hrk, hfr, hlo, hscr⟩ := id hc
  intro pc L st K I J F x hd k
  exact ⟨k.1, fun ls H locs kk nn h => lv_i2l hx hb hd rfl (k.2 ls H locs kk nn h)⟩
theorem sm_l2i (hc : CX p l e R s m args below meth c y b base D cA scr) : r_l2i y (XX p l e R s m args below meth c Q y b base k0 n0 D cA) := by
  obtain ⟨hx, hb, hml, hret, hlk, hts, hnest, hAO, hown, hK, hinit, hbase, hrk, hfr, hlo, hscr⟩ := id hc
  intro pc L st K I J F x hd k
  exact ⟨k.1, fun ls H locs kk nn h => lv_l2i hx hb hd rfl (k.2 ls H locs kk nn h)⟩
theorem sm_dup (hc : CX p l e R s m args below meth c y b base D cA scr) : r_dup y (XX p l e R s m args below meth c Q y b base k0 n0 D cA) := by
  obtain ⟨hx, hb, hml, hret, hlk, hts, hnest, hAO, hown, hK, hinit, hbase, hrk, hfr, hlo, hscr⟩ := id hc
  intro pc L st K I J F v hd hv k
  exact ⟨k.1, fun ls H locs kk nn h => lv_dup hx hb hd ((vv_cat _ v).trans hv) (k.2 ls H locs kk nn h)⟩
theorem sm_pop (hc : CX p l e R s m args below meth c y b base D cA scr) : r_pop y (XX p l e R s m args below meth c Q y b base k0 n0 D cA) := by
  obtain ⟨hx, hb, hml, hret, hlk, hts, hnest, hAO, hown, hK, hinit, hbase, hrk, hfr, hlo, hscr⟩ := id hc
  intro pc L st K I J F v hd hv k
  exact ⟨k.1, fun ls H locs kk nn h => lv_pop hx hb hd ((vv_cat _ v).trans hv) (k.2 ls H locs kk nn h)⟩
theorem sm_dup2a (hc : CX p l e R s m args below meth c y b base D cA scr) : r_dup2a y (XX p l e R s m args below meth c Q y b base k0 n0 D cA) := by
  obtain ⟨hx, hb, hml, hret, hlk, hts, hnest, hAO, hown, hK, hinit, hbase, hrk, hfr, hlo, hscr⟩ := id hc
  intro pc L st K I J F v w hd hv hw k
  exact ⟨k.1, fun ls H locs kk nn h => lv_dup2_11 hx hb hd ((vv_cat _ v).trans hv) ((vv_cat _ w).trans hw) (k.2 ls H locs kk nn h)⟩
theorem sm_dup2b (hc : CX p l e R s m args below meth c y b base D cA scr) : r_dup2b y (XX p l e R s m args below meth c Q y b base k0 n0 D cA) := by
  obtain ⟨hx, hb, hml, hret, hlk, hts, hnest, hAO, hown, hK, hinit, hbase, hrk, hfr, hlo, hscr⟩ := id hc
  intro pc L st K I J F v hd hv k
  exact ⟨k.1, fun ls H locs kk nn h => lv_dup2_2 hx hb hd ((vv_cat _ v).trans hv) (k.2 ls H locs kk nn h)⟩
theorem sm_if_eq (hc : CX p l e R s m args below meth c y b base D cA scr) : r_if_eq y (XX p l e R s m args below meth c Q y b base k0 n0 D cA) := by
  obtain ⟨hx, hb, hml, hret, hlk, hts, hnest, hAO, hown, hK, hinit, hbase, hrk, hfr, hlo, hscr⟩ := id hc
  intro pc L st K I J F x off tgt hd ht kt kf
  refine ⟨?_, fun ls H locs kk nn h => lv_if_eq hx hb hd ht (fun z => (kt z).2 ls H locs kk nn h) (fun z => (kf z).2 ls H locs kk nn h)⟩
  by_cases z : x = 0
  · exact (kt z).1
  · exact (kf z).1
theorem sm_icmp_eq (hc : CX p l e R s m args below meth c y b base D cA scr) : r_icmp_eq y (XX p l e R s m args below meth c Q y b base k0 n0 D cA) := by
  obtain ⟨hx, hb, hml, hret, hlk, hts, hnest, hAO, hown, hK, hinit, hbase, hrk, hfr, hlo, hscr⟩ := id hc
  intro pc L st K I J F x y2 off tgt hd ht kt kf
  refine ⟨?_, fun ls H locs kk nn h => lv_icmp_eq hx hb hd ht (fun z => (kt z).2 ls H locs kk nn h) (fun z => (kf z).2 ls H locs kk nn h)⟩
  by_cases z : x = y2
  · exact (kt z).1
  · exact (kf z).1
theorem sm_if_ne (hc : CX p l e R s m args below meth c y b base D cA scr) : r_if_ne y (XX p l e R s m args below meth c Q y b base k0 n0 D cA) := by
  obtain ⟨hx, hb, hml, hret, hlk, hts, hnest, hAO, hown, hK, hinit, hbase, hrk, hfr, hlo, hscr⟩ := id hc
  intro pc L st K I J F x off tgt hd ht kt kf
  refine ⟨?_, fun ls H locs kk nn h => lv_if_ne hx hb hd ht (fun z => (kt z).2 ls H locs kk nn h) (fun z => (kf z).2 ls H locs kk nn h)⟩
  by_cases z : x = 0
  · exact (kf z).1
  · exact (kt z).1
theorem sm_icmp_ne (hc : CX p l e R s m args below meth c y b base D cA scr) : r_icmp_ne y (XX p l e R s m args below meth c Q y b base k0 n0 D cA) := by
  obtain ⟨hx, hb, hml, hret, hlk, hts, hnest, hAO, hown, hK, hinit, hbase, hrk, hfr, hlo, hscr⟩ := id hc
  intro pc L st K I J F x y2 off tgt hd ht kt kf
  refine ⟨?_, fun ls H locs kk nn h => lv_icmp_ne hx hb hd ht (fun z => (kt z).2 ls H locs kk nn h) (fun z => (kf z).2 ls H locs kk nn h)⟩
  by_cases z : x = y2
  · exact (kf z).1
  · exact (kt z).1
theorem sm_if_lt (hc : CX p l e R s m args below meth c y b base D cA scr) : r_if_lt y (XX p l e R s m args below meth c Q y b base k0 n0 D cA) := by
  obtain ⟨hx, hb, hml, hret, hlk, hts, hnest, hAO, hown, hK, hinit, hbase, hrk, hfr, hlo, hscr⟩ := id hc
  intro pc L st K I J F x off tgt hd ht kt kf
  refine ⟨?_, fun ls H locs kk nn h => lv_if_lt hx hb hd ht (fun z => (kt z).2 ls H locs kk nn h) (fun z => (kf z).2 ls H locs kk nn h)⟩
  by_cases z : x < 0
  · exact (kt z).1
  · exact (kf z).1
theorem sm_icmp_lt (hc : CX p l e R s m args below meth c y b base D cA scr) : r_icmp_lt y (XX p l e R s m args below meth c Q y b base k0 n0 D cA) := by
  obtain ⟨hx, hb, hml, hret, hlk, hts, hnest, hAO, hown, hK, hinit, hbase, hrk, hfr, hlo, hscr⟩ := id hc
  intro pc L st K I J F x y2 off tgt hd ht kt kf
  refine ⟨?_, fun ls H locs kk nn h => lv_icmp_lt hx hb hd ht (fun z => (kt z).2 ls H locs kk nn h) (fun z => (kf z).2 ls H locs kk nn h)⟩
  by_cases z : x < y2
  · exact (kt z).1
  · exact (kf z).1
theorem sm_if_ge (hc : CX p l e R s m args below meth c y b base D cA scr) : r_if_ge y (XX p l e R s m args below meth c Q y b base k0 n0 D cA) := by
  obtain ⟨hx, hb, hml, hret, hlk, hts, hnest, hAO, hown, hK, hinit, hbase, hrk, hfr, hlo, hscr⟩ := id hc
  intro pc L st K I J F x off tgt hd ht kt kf
  refine ⟨?_, fun ls H locs kk nn h => lv_if_ge hx hb hd ht (fun z => (kt z).2 ls H locs kk nn h) (fun z => (kf z).2 ls H locs kk nn h)⟩
  by_cases z : 0 ≤ x
  · exact (kt z).1
  · exact (kf z).1
theorem sm_icmp_ge (hc : CX p l e R s m args below meth c y b base D cA scr) : r_icmp_ge y (XX p l e R s m args below meth c Q y b base k0 n0 D cA) := by
  obtain ⟨hx, hb, hml, hret, hlk, hts, hnest, hAO, hown, hK, hinit, hbase, hrk, hfr, hlo, hscr⟩ := id hc
  intro pc L st K I J F x y2 off tgt hd ht kt kf
  refine ⟨?_, fun ls H locs kk nn h => lv_icmp_ge hx hb hd ht (fun z => (kt z).2 ls H locs kk nn h) (fun z => (kf z).2 ls H locs kk nn h)⟩
  by_cases z : y2 ≤ x
  · exact (kt z).1
  · exact (kf z).1
theorem sm_if_gt (hc : CX p l e R s m args below meth c y b base D cA scr) : r_if_gt y (XX p l e R s m args below meth c Q y b base k0 n0 D cA) := by
  obtain ⟨hx, hb, hml, hret, hlk, hts, hnest, hAO, hown, hK, hinit, hbase, hrk, hfr, hlo, hscr⟩ := id hc
  intro pc L st K I J F x off tgt hd ht kt kf
  refine ⟨?_, fun ls H locs kk nn h => lv_if_gt hx hb hd ht (fun z => (kt z).2 ls H locs kk nn h) (fun z => (kf z).2 ls H locs kk nn h)⟩
  by_cases z : 0 < x
  · exact (kt z).1
  · exact (kf z).1
theorem sm_icmp_gt (hc : CX p l e R s m args below meth c y b base D cA scr) : r_icmp_gt y (XX p l e R s m args below meth c Q y b base k0 n0 D cA) := by
  obtain ⟨hx, hb, hml, hret, hlk, hts, hnest, hAO, hown, hK, hinit, hbase, hrk, hfr, hlo, hscr⟩ := id hc
  intro pc L st K I J F x y2 off tgt hd ht kt kf
  refine ⟨?_, fun ls H locs kk nn h => lv_icmp_gt hx hb hd ht (fun z => (kt z).2 ls H locs kk nn h) (fun z => (kf z).2 ls H locs kk nn h)⟩
  by_cases z : y2 < x
  · exact (kt z).1
  · exact (kf z).1
theorem sm_if_le (hc : CX p l e R s m args below meth c y b base D cA scr) : r_if_le y (XX p l e R s m args below meth c Q y b base k0 n0 D cA) := by
  obtain ⟨hx, hb, hml, hret, hlk, hts, hnest, hAO, hown, hK, hinit, hbase, hrk, hfr, hlo, hscr⟩ := id hc
  intro pc L st K I J F x off tgt hd ht kt kf
  refine ⟨?_, fun ls H locs kk nn h => lv_if_le hx hb hd ht (fun z => (kt z).2 ls H locs kk nn h) (fun z => (kf z).2 ls H locs kk nn h)⟩
  by_cases z : x ≤ 0
  · exact (kt z).1
  · exact (kf z).1
theorem sm_icmp_le (hc : CX p l e R s m args below meth c y b base D cA scr) : r_icmp_le y (XX p l e R s m args below meth c Q y b base k0 n0 D cA) := by
  obtain ⟨hx, hb, hml, hret, hlk, hts, hnest, hAO, hown, hK, hinit, hbase, hrk, hfr, hlo, hscr⟩ := id hc
  intro pc L st K I J F x y2 off tgt hd ht kt kf
  refine ⟨?_, fun ls H locs kk nn h => lv_icmp_le hx hb hd ht (fun z => (kt z).2 ls H locs kk nn h) (fun z => (kf z).2 ls H locs kk nn h)⟩
  by_cases z : x ≤ y2
  · exact (kt z).1
  · exact (kf z).1
theorem sm_goto (hc : CX p l e R s m args below meth c y b base D cA scr) : r_goto y (XX p l e R s m args below meth c Q y b base k0 n0 D cA) := by
  obtain ⟨hx, hb, hml, hret, hlk, hts, hnest, hAO, hown, hK, hinit, hbase, hrk, hfr, hlo, hscr⟩ := id hc
  intro pc L st K I J F off tgt hd ht k
  exact ⟨k.1, fun ls H locs kk nn h => lv_goto hx hb hd ht (k.2 ls H locs kk nn h)⟩
theorem sm_ifnonnull (hc : CX p l e R s m args below meth c y b base D cA scr) : r_ifnonnull y (XX p l e R s m args below meth c Q y b base k0 n0 D cA) := by
  obtain ⟨hx, hb, hml, hret, hlk, hts, hnest, hAO, hown, hK, hinit, hbase, hrk, hfr, hlo, hscr⟩ := id hc
  intro pc L st K I J F x off tgt hd ht k
  exact ⟨k.1, fun ls H locs kk nn h => lv_ifnonnull hx hb hd ht (k.2 ls H locs kk nn h)⟩
theorem sm_tabOut (hc : CX p l e R s m args below meth c y b base D cA scr) : r_tabOut y (XX p l e R s m args below meth c Q y b base k0 n0 D cA) := by
  obtain ⟨hx, hb, hml, hret, hlk, hts, hnest, hAO, hown, hK, hinit, hbase, hrk, hfr, hlo, hscr⟩ := id hc
  intro pc L st K I J F x d lo hi offs len tgt hd hh ht k
  exact ⟨k.1, fun ls H locs kk nn h => lv_tableOut hx hb hd hh ht (k.2 ls H locs kk nn h)⟩
theorem sm_tabIn (hc : CX p l e R s m args below meth c y b base D cA scr) : r_tabIn y (XX p l e R s m args below meth c Q y b base k0 n0 D cA) := by
  obtain ⟨hx, hb, hml, hret, hlk, hts, hnest, hAO, hown, hK, hinit, hbase, hrk, hfr, hlo, hscr⟩ := id hc
  intro pc L st K I J F x d lo hi off offs len tgt hd h1 h2 ho ht k
  exact ⟨k.1, fun ls H locs kk nn h => lv_tableIn hx hb hd h1 h2 ho ht (k.2 ls H locs kk nn h)⟩
theorem sm_mmax (hc : CX p l e R s m args below meth c y b base D cA scr) : r_mmax y (XX p l e R s m args below meth c Q y b base k0 n0 D cA) := by
  obtain ⟨hx, hb, hml, hret, hlk, hts, hnest, hAO, hown, hK, hinit, hbase, hrk, hfr, hlo, hscr⟩ := id hc
  intro pc L st K I J F x y2 i hd hw hs k
  exact ⟨k.1, fun ls H locs kk nn h => va_mmax hx hb (hml.trans h.1.1.symm) hown (hts _ hw) (hts _ mmS_max) (hts _ mmI) (hts _ mmC_max) (Nat.le_trans hrk hfr) (by have hq := vv_cats (ad b base) st; have hz := hlo; omega) (rl_c k h) (rl_s k h) hd (k.2 ls H locs kk nn h)⟩
theorem sm_mmin (hc : CX p l e R s m args below meth c y b base D cA scr) : r_mmin y (XX p l e R s m args below meth c Q y b base k0 n0 D cA) := by
  obtain ⟨hx, hb, hml, hret, hlk, hts, hnest, hAO, hown, hK, hinit, hbase, hrk, hfr, hlo, hscr⟩ := id hc
  intro pc L st K I J F x y2 i hd hw hs k
  exact ⟨k.1, fun ls H locs kk nn h => va_mmin hx hb (hml.trans h.1.1.symm) hown (hts _ hw) (hts _ mmS_min) (hts _ mmI) (hts _ mmC_min) (Nat.le_trans hrk hfr) (by have hq := vv_cats (ad b base) st; have hz := hlo; omega) (rl_c k h) (rl_s k h) hd (k.2 ls H locs kk nn h)⟩
theorem sm_mlmax (hc : CX p l e R s m args below meth c y b base D cA scr) : r_mlmax y (XX p l e R s m args below meth c Q y b base k0 n0 D cA) := by
  obtain ⟨hx, hb, hml, hret, hlk, hts, hnest, hAO, hown, hK, hinit, hbase, hrk, hfr, hlo, hscr⟩ := id hc
  intro pc L st K I J F x y2 i hd hw hs k
  exact ⟨k.1, fun ls H locs kk nn h => va_mmax_long hx hb (hml.trans h.1.1.symm) hown (hts _ hw) (hts _ mmS_lmax) (hts _ mmI) (hts _ mmC_lmax) (Nat.le_trans hrk hfr) (by have hq := vv_cats (ad b base) st; have hz := hlo; omega) (rl_c k h) (rl_s k h) hd (k.2 ls H locs kk nn h)⟩
theorem sm_objInit (hc : CX p l e R s m args below meth c y b base D cA scr) : r_objInit y (XX p l e R s m args below meth c Q y b base k0 n0 D cA) := by
  obtain ⟨hx, hb, hml, hret, hlk, hts, hnest, hAO, hown, hK, hinit, hbase, hrk, hfr, hlo, hscr⟩ := id hc
  intro pc L st K I J F a i hd hw hs k
  exact ⟨k.1, fun ls H locs kk nn h => W.objInit hx hb hown (hts _ hw) (hts _ oi_i) (hts _ oi_c) rfl (by rw [hml]; exact h.1.1) rfl hd (Nat.le_trans hrk hfr) (by have hq := vv_cats (ad b base) st; have hz := hlo; show 2 * 0 + _ + 12 ≤ _; omega) (k.2 ls H locs kk nn h)⟩
theorem sm_getI (hc : CX p l e R s m args below meth c y b base D cA scr) : r_getI y (XX p l e R s m args below meth c Q y b base k0 n0 D cA) := by
  obtain ⟨hx, hb, hml, hret, hlk, hts, hnest, hAO, hown, hK, hinit, hbase, hrk, hfr, hlo, hscr⟩ := id hc
  intro pc L st K I J F a i ci q n hd hf hk hq k
  exact ⟨k.1, fun ls H locs kk nn h => gg_get hc hd hf hk (by rw [fval, hq]; rfl) h (k.2 ls H locs kk nn h)⟩
theorem sm_getL (hc : CX p l e R s m args below meth c y b base D cA scr) : r_getL y (XX p l e R s m args below meth c Q y b base k0 n0 D cA) := by
  obtain ⟨hx, hb, hml, hret, hlk, hts, hnest, hAO, hown, hK, hinit, hbase, hrk, hfr, hlo, hscr⟩ := id hc
  intro pc L st K I J F a i ci q n hd hf hk hq k
  exact ⟨k.1, fun ls H locs kk nn h => gg_get hc hd hf hk (by rw [fval, hq]; rfl) h (k.2 ls H locs kk nn h)⟩
theorem sm_getR (hc : CX p l e R s m args below meth c y b base D cA scr) : r_getR y (XX p l e R s m args below meth c Q y b base k0 n0 D cA) := by
  obtain ⟨hx, hb, hml, hret, hlk, hts, hnest, hAO, hown, hK, hinit, hbase, hrk, hfr, hlo, hscr⟩ := id hc
  intro pc L st K I J F a i ci q n hd hf hk hq k
  exact ⟨k.1, fun ls H locs kk nn h => gg_get hc hd hf hk (by rw [fval, hq]; rfl) h (k.2 ls H locs kk nn h)⟩
theorem sm_putI (hc : CX p l e R s m args below meth c y b base D cA scr) : r_putI y (XX p l e R s m args below meth c Q y b base k0 n0 D cA) := by
  obtain ⟨hx, hb, hml, hret, hlk, hts, hnest, hAO, hown, hK, hinit, hbase, hrk, hfr, hlo, hscr⟩ := id hc
  intro pc L st K I J F a i ci q n x hd hf hk hq hfin k
  exact ⟨k.1, fun ls H locs kk nn h => gg_putI hc hd hf hk hq hfin h (fun ls2 H2 locs2 h2 => k.2 ls2 H2 locs2 kk nn h2)⟩
theorem sm_putL (hc : CX p l e R s m args below meth c y b base D cA scr) : r_putL y (XX p l e R s m args below meth c Q y b base k0 n0 D cA) := by
  obtain ⟨hx, hb, hml, hret, hlk, hts, hnest, hAO, hown, hK, hinit, hbase, hrk, hfr, hlo, hscr⟩ := id hc
  intro pc L st K I J F a i ci q n x hd hf hk hq hfin k
  exact ⟨k.1, fun ls H locs kk nn h => gg_putL hc hd hf hk hq hfin h (fun ls2 H2 locs2 h2 => k.2 ls2 H2 locs2 kk nn h2)⟩
theorem sm_putF (hc : CX p l e R s m args below meth c y b base D cA scr) : r_putF y (XX p l e R s m args below meth c Q y b base k0 n0 D cA) := by
  obtain ⟨hx, hb, hml, hret, hlk, hts, hnest, hAO, hown, hK, hinit, hbase, hrk, hfr, hlo, hscr⟩ := id hc
  intro pc L st K I J F a i ci q n x hd hin hf hk hq hfin hdc k
  exact ⟨k.1, fun ls H locs kk nn h => gg_putF hc hd hin hf hk hq hfin hdc h (fun ls2 H2 locs2 h2 => k.2 ls2 H2 locs2 kk nn h2)⟩
theorem sm_iald (hc : CX p l e R s m args below meth c y b base D cA scr) : r_iald y (XX p l e R s m args below meth c Q y b base k0 n0 D cA) := by
  obtain ⟨hx, hb, hml, hret, hlk, hts, hnest, hAO, hown, hK, hinit, hbase, hrk, hfr, hlo, hscr⟩ := id hc
  intro pc L st K I J F a n i hd hk hin k
  exact ⟨k.1, fun ls H locs kk nn h => gg_iald hc hd hk hin h (k.2 ls H locs kk nn h)⟩
theorem sm_zald (hc : CX p l e R s m args below meth c y b base D cA scr) : r_zald y (XX p l e R s m args below meth c Q y b base k0 n0 D cA) := by
  obtain ⟨hx, hb, hml, hret, hlk, hts, hnest, hAO, hown, hK, hinit, hbase, hrk, hfr, hlo, hscr⟩ := id hc
  intro pc L st K I J F a n i hd hk hin k
  exact ⟨k.1, fun ls H locs kk nn h => gg_zald hc hd hk hin h (k.2 ls H locs kk nn h)⟩
theorem sm_aald (hc : CX p l e R s m args below meth c y b base D cA scr) : r_aald y (XX p l e R s m args below meth c Q y b base k0 n0 D cA) := by
  obtain ⟨hx, hb, hml, hret, hlk, hts, hnest, hAO, hown, hK, hinit, hbase, hrk, hfr, hlo, hscr⟩ := id hc
  intro pc L st K I J F a n i hd hk hin k
  exact ⟨k.1, fun ls H locs kk nn h => gg_aald hc hd hk hin h (k.2 ls H locs kk nn h)⟩
theorem sm_alen (hc : CX p l e R s m args below meth c y b base D cA scr) : r_alen y (XX p l e R s m args below meth c Q y b base k0 n0 D cA) := by
  obtain ⟨hx, hb, hml, hret, hlk, hts, hnest, hAO, hown, hK, hinit, hbase, hrk, hfr, hlo, hscr⟩ := id hc
  intro pc L st K I J F a ci n hd hk hci k
  exact ⟨k.1, fun ls H locs kk nn h => gg_alen hc hd hk hci h (k.2 ls H locs kk nn h)⟩
theorem sm_iast (hc : CX p l e R s m args below meth c y b base D cA scr) : r_iast y (XX p l e R s m args below meth c Q y b base k0 n0 D cA) := by
  obtain ⟨hx, hb, hml, hret, hlk, hts, hnest, hAO, hown, hK, hinit, hbase, hrk, hfr, hlo, hscr⟩ := id hc
  intro pc L st K I J F a n i x hd hk hin k
  exact ⟨k.1, fun ls H locs kk nn h => gg_iast hc hd hk hin h (fun ls2 H2 locs2 h2 => k.2 ls2 H2 locs2 kk nn h2)⟩
theorem sm_zast (hc : CX p l e R s m args below meth c y b base D cA scr) : r_zast y (XX p l e R s m args below meth c Q y b base k0 n0 D cA) := by
  obtain ⟨hx, hb, hml, hret, hlk, hts, hnest, hAO, hown, hK, hinit, hbase, hrk, hfr, hlo, hscr⟩ := id hc
  intro pc L st K I J F a n i x hd hk hin hx01 k
  exact ⟨k.1, fun ls H locs kk nn h => gg_zast hc hd hk hin hx01 h (fun ls2 H2 locs2 h2 => k.2 ls2 H2 locs2 kk nn h2)⟩
theorem sm_aast (hc : CX p l e R s m args below meth c y b base D cA scr) : r_aast y (XX p l e R s m args below meth c Q y b base k0 n0 D cA) := by
  obtain ⟨hx, hb, hml, hret, hlk, hts, hnest, hAO, hown, hK, hinit, hbase, hrk, hfr, hlo, hscr⟩ := id hc
  intro pc L st K I J F a n x n2 i hd hk hin hkx k
  exact ⟨k.1, fun ls H locs kk nn h => gg_aast hc hd hk hin hkx h (fun ls2 H2 locs2 h2 => k.2 ls2 H2 locs2 kk nn h2)⟩
theorem sm_sld (hc : CX p l e R s m args below meth c y b base D cA scr) : r_sld scr y (XX p l e R s m args below meth c Q y b base k0 n0 D cA) := by
  obtain ⟨hx, hb, hml, hret, hlk, hts, hnest, hAO, hown, hK, hinit, hbase, hrk, hfr, hlo, hscr⟩ := id hc
  intro pc L st K I J F n i xs hd hs hin k
  exact ⟨k.1, fun ls H locs kk nn h => gg_sld hc hd hs hin h (k.2 ls H locs kk nn h)⟩
theorem sm_slen (hc : CX p l e R s m args below meth c y b base D cA scr) : r_slen scr y (XX p l e R s m args below meth c Q y b base k0 n0 D cA) := by
  obtain ⟨hx, hb, hml, hret, hlk, hts, hnest, hAO, hown, hK, hinit, hbase, hrk, hfr, hlo, hscr⟩ := id hc
  intro pc L st K I J F n xs hd hs k
  exact ⟨k.1, fun ls H locs kk nn h => gg_slen hc hd hs h (k.2 ls H locs kk nn h)⟩
theorem sm_new (hc : CX p l e R s m args below meth c y b base D cA scr) : r_new y (XX p l e R s m args below meth c Q y b base k0 n0 D cA) := by
  obtain ⟨hx, hb, hml, hret, hlk, hts, hnest, hAO, hown, hK, hinit, hbase, hrk, hfr, hlo, hscr⟩ := id hc
  intro pc L st K I J F i ci Cn T n hd hcl hw k
  have g1 := k.1.1
  have g2 := k.1.2
  rw [List.length_append] at g1
  have g3 : K.length + 1 ≤ k0 + R.cells := g1
  have g4 := g2
  rw [ksum_push] at g4
  refine ⟨⟨by omega, by omega⟩, fun ls H locs kk nn h => ?_⟩
  exact gg_new hc hd hcl hw g3 g2 h (fun H2 h2 => k.2 ls H2 locs _ _ h2)
theorem sm_newI (hc : CX p l e R s m args below meth c y b base D cA scr) : r_newI y (XX p l e R s m args below meth c Q y b base k0 n0 D cA) := by
  obtain ⟨hx, hb, hml, hret, hlk, hts, hnest, hAO, hown, hK, hinit, hbase, hrk, hfr, hlo, hscr⟩ := id hc
  intro pc L st K I J F x n hd hx0 hxn hn9 k
  have g1 := k.1.1
  have g2 := k.1.2
  rw [List.length_append] at g1
  have g3 : K.length + 1 ≤ k0 + R.cells := g1
  have g4 := g2
  rw [ksum_push] at g4
  refine ⟨⟨by omega, by omega⟩, fun ls H locs kk nn h => ?_⟩
  exact gg_newa (ty := .int) (t0 := 0) hc hd rfl ac_int rfl rfl (by decide) (fun z => z) rfl (by decide) hx0 hxn hn9 g3 g2 h (fun H2 h2 => k.2 ls H2 locs _ _ h2)
theorem sm_newZ (hc : CX p l e R s m args below meth c y b base D cA scr) : r_newZ y (XX p l e R s m args below meth c Q y b base k0 n0 D cA) := by
  obtain ⟨hx, hb, hml, hret, hlk, hts, hnest, hAO, hown, hK, hinit, hbase, hrk, hfr, hlo, hscr⟩ := id hc
  intro pc L st K I J F x n hd hx0 hxn hn9 k
  have g1 := k.1.1
  have g2 := k.1.2
  rw [List.length_append] at g1
  have g3 : K.length + 1 ≤ k0 + R.cells := g1
  have g4 := g2
  rw [ksum_push] at g4
  refine ⟨⟨by omega, by omega⟩, fun ls H locs kk nn h => ?_⟩
  exact gg_newa (ty := .boolean) (t0 := 1) hc hd rfl ac_boolean rfl rfl (by decide) (fun z => z) rfl (by decide) hx0 hxn hn9 g3 g2 h (fun H2 h2 => k.2 ls H2 locs _ _ h2)
theorem sm_newA (hc : CX p l e R s m args below meth c y b base D cA scr) : r_newA y (XX p l e R s m args below meth c Q y b base k0 n0 D cA) := by
  obtain ⟨hx, hb, hml, hret, hlk, hts, hnest, hAO, hown, hK, hinit, hbase, hrk, hfr, hlo, hscr⟩ := id hc
  intro pc L st K I J F x n i hd hw hx0 hxn hn9 k
  have g1 := k.1.1
  have g2 := k.1.2
  rw [List.length_append] at g1
  have g3 : K.length + 1 ≤ k0 + R.cells := g1
  have g4 := g2
  rw [ksum_push] at g4
  refine ⟨⟨by omega, by omega⟩, fun ls H locs kk nn h => ?_⟩
  exact gg_newA hc hd hw hx0 hxn hn9 g3 g2 h (fun H2 h2 => k.2 ls H2 locs _ _ h2)
theorem sm_callV (hc : CX p l e R s m args below meth c y b base D cA scr) : r_callV (PM l D cA b base) y (XX p l e R s m args below meth c Q y b base k0 n0 D cA) := by
  obtain ⟨hx, hb, hml, hret, hlk, hts, hnest, hAO, hown, hK, hinit, hbase, hrk, hfr, hlo, hscr⟩ := id hc
  intro pc L st K I J F ci n T n3 a i y2 as r K2 I2 J2 F2 hd hl hm hn hs hk hcl hC k
  have h1 := hC.1
  have h2 := hC.2.1
  dsimp only at h1 h2
  refine ⟨⟨Nat.le_trans h1 k.1.1, Nat.le_trans h2 k.1.2⟩, fun ls H locs kk nn h => ?_⟩
  exact gg_callV hc hd hl hm hn hs hk hcl hC k.1 h (fun ls2 H2 locs2 kk2 nn2 h2 => k.2 ls2 H2 locs2 kk2 nn2 h2)
theorem sm_callS (hc : CX p l e R s m args below meth c y b base D cA scr) : r_callS (PM l D cA b base) y (XX p l e R s m args below meth c Q y b base k0 n0 D cA) := by
  obtain ⟨hx, hb, hml, hret, hlk, hts, hnest, hAO, hown, hK, hinit, hbase, hrk, hfr, hlo, hscr⟩ := id hc
  intro pc L st K I J F i y2 as r K2 I2 J2 F2 hd hl hm hn hs hC k
  have h1 := hC.1
  have h2 := hC.2.1
  dsimp only at h1 h2
  refine ⟨⟨Nat.le_trans h1 k.1.1, Nat.le_trans h2 k.1.2⟩, fun ls H locs kk nn h => ?_⟩
  exact gg_callS hc hd hl hm hn hs hC k.1 h (fun ls2 H2 locs2 kk2 nn2 h2 => k.2 ls2 H2 locs2 kk2 nn2 h2)
theorem sm_callSN (hc : CX p l e R s m args below meth c y b base D cA scr) : r_callSN (PM l D cA b base) y (XX p l e R s m args below meth c Q y b base k0 n0 D cA) := by
  obtain ⟨hx, hb, hml, hret, hlk, hts, hnest, hAO, hown, hK, hinit, hbase, hrk, hfr, hlo, hscr⟩ := id hc
  intro pc L st K I J F i y2 as r K2 I2 J2 F2 hd hl hm hn hs hC k
  have h1 := hC.1
  have h2 := hC.2.1
  dsimp only at h1 h2
  refine ⟨⟨Nat.le_trans h1 k.1.1, Nat.le_trans h2 k.1.2⟩, fun ls H locs kk nn h => ?_⟩
  exact gg_callSN hc hd hl hm hn hs hC k.1 h (fun ls2 H2 locs2 kk2 nn2 h2 => k.2 ls2 H2 locs2 kk2 nn2 h2)
theorem sm_callI (hc : CX p l e R s m args below meth c y b base D cA scr) : r_callI (PM l D cA b base) y (XX p l e R s m args below meth c Q y b base k0 n0 D cA) := by
  obtain ⟨hx, hb, hml, hret, hlk, hts, hnest, hAO, hown, hK, hinit, hbase, hrk, hfr, hlo, hscr⟩ := id hc
  intro pc L st K I J F a i y2 as r K2 I2 J2 F2 hd hl hm hn hs hC k
  have h1 := hC.1
  have h2 := hC.2.1
  dsimp only at h1 h2
  refine ⟨⟨Nat.le_trans h1 k.1.1, Nat.le_trans h2 k.1.2⟩, fun ls H locs kk nn h => ?_⟩
  exact gg_callI hc hd hl hm hn hs hC k.1 h (fun ls2 H2 locs2 kk2 nn2 h2 => k.2 ls2 H2 locs2 kk2 nn2 h2)
theorem sm_callIN (hc : CX p l e R s m args below meth c y b base D cA scr) : r_callIN (PM l D cA b base) y (XX p l e R s m args below meth c Q y b base k0 n0 D cA) := by
  obtain ⟨hx, hb, hml, hret, hlk, hts, hnest, hAO, hown, hK, hinit, hbase, hrk, hfr, hlo, hscr⟩ := id hc
  intro pc L st K I J F a i y2 as r K2 I2 J2 F2 hd hl hm hn hs hC k
  have h1 := hC.1
  have h2 := hC.2.1
  dsimp only at h1 h2
  refine ⟨⟨Nat.le_trans h1 k.1.1, Nat.le_trans h2 k.1.2⟩, fun ls H locs kk nn h => ?_⟩
  exact gg_callIN hc hd hl hm hn hs hC k.1 h (fun ls2 H2 locs2 kk2 nn2 h2 => k.2 ls2 H2 locs2 kk2 nn2 h2)
end GSIM
theorem gg_clo {p : Program} {l : Launch} {e : Env} {R : Room} {s : State} {m : MethodId} {args : Array Value} {below : List Frame} {meth : Method} {c : Code} {y b base k0 n0 : Nat} {D : va_G} {cA : Nat → ClassId} {scr : Option (Nat × (Nat → Int32))} {Rs : RT} (hc : CX p l e R s m args below meth c y b base D cA scr) (hend : Rs.2.1.length = k0 + R.cells ∧ ksum Rs.2.1 = n0 + R.slots) : Clo scr (PM l D cA b base) y Rs (XX p l e R s m args below meth c (MQ below (QcM D cA b base Rs) args s R.cells R.slots (gg_A base)) y b base k0 n0 D cA) :=
  ⟨sm_iconst hc, sm_bipush hc, sm_sipush hc, sm_lconst hc, sm_ldcw hc, sm_ldc2 hc, sm_iload_n hc, sm_iload hc, sm_lload_n hc, sm_lload hc, sm_aload_n hc, sm_aload hc, sm_istore_n hc, sm_istore hc, sm_astore_n hc, sm_astore hc, sm_lstore_n hc, sm_lstore hc, sm_iinc hc, sm_iadd hc, sm_isub hc, sm_imul hc, sm_iand hc, sm_ior hc, sm_ixor hc, sm_ishl hc, sm_ishr hc, sm_iushr hc, sm_idiv hc, sm_irem hc, sm_ladd hc, sm_lmul hc, sm_land hc, sm_lor hc, sm_ldiv hc, sm_lrem hc, sm_lushr hc, sm_lshl hc, sm_lshr hc, sm_lcmp hc, sm_i2l hc, sm_l2i hc, sm_dup hc, sm_pop hc, sm_dup2a hc, sm_dup2b hc, sm_if_eq hc, sm_icmp_eq hc, sm_if_ne hc, sm_icmp_ne hc, sm_if_lt hc, sm_icmp_lt hc, sm_if_ge hc, sm_icmp_ge hc, sm_if_gt hc, sm_icmp_gt hc, sm_if_le hc, sm_icmp_le hc, sm_goto hc, sm_ifnonnull hc, sm_tabOut hc, sm_tabIn hc, sm_mmax hc, sm_mmin hc, sm_mlmax hc, sm_objInit hc, sm_getI hc, sm_getL hc, sm_getR hc, sm_putI hc, sm_putL hc, sm_putF hc, sm_iald hc, sm_zald hc, sm_aald hc, sm_alen hc, sm_iast hc, sm_zast hc, sm_aast hc, sm_sld hc, sm_slen hc, sm_new hc, sm_newI hc, sm_newZ hc, sm_newA hc, sm_callV hc, sm_callS hc, sm_callSN hc, sm_callI hc, sm_callIN hc, sm_iret hc hend, sm_lret hc hend, sm_aret hc hend, sm_vret hc hend⟩
theorem gg_grow {l : Launch} {D : va_G} {cA : Nat → ClassId} {b base : Nat} {scr : Option (Nat × (Nat → Int32))} {y : Nat} {Rs : RT} : Clo scr (PM l D cA b base) y Rs (fun _ _ _ K _ _ _ => K.length ≤ Rs.2.1.length ∧ ksum K ≤ ksum Rs.2.1) := by
  refine ⟨?_, ?_, ?_, ?_, ?_, ?_, ?_, ?_, ?_, ?_, ?_, ?_, ?_, ?_, ?_, ?_, ?_, ?_, ?_, ?_, ?_, ?_, ?_, ?_, ?_, ?_, ?_, ?_, ?_, ?_, ?_, ?_, ?_, ?_, ?_, ?_, ?_, ?_, ?_, ?_, ?_, ?_, ?_, ?_, ?_, ?_, ?_, ?_, ?_, ?_, ?_, ?_, ?_, ?_, ?_, ?_, ?_, ?_, ?_, ?_, ?_, ?_, ?_, ?_, ?_, ?_, ?_, ?_, ?_, ?_, ?_, ?_, ?_, ?_, ?_, ?_, ?_, ?_, ?_, ?_, ?_, ?_, ?_, ?_, ?_, ?_, ?_, ?_, ?_, ?_, ?_, ?_, ?_, ?_⟩
  · intro pc L st K I J F n v hd hv k
    exact k
  · intro pc L st K I J F n v hd hv k
    exact k
  · intro pc L st K I J F n v hd hv k
    exact k
  · intro pc L st K I J F n v hd hv k
    exact k
  · intro pc L st K I J F i v hd hw k
    exact k
  · intro pc L st K I J F i v hd hw k
    exact k
  · intro pc L st K I J F q i x hd hi hl k
    exact k
  · intro pc L st K I J F i x hd hl k
    exact k
  · intro pc L st K I J F q i x hd hi hl k
    exact k
  · intro pc L st K I J F i x hd hl k
    exact k
  · intro pc L st K I J F q i x hd hi hl k
    exact k
  · intro pc L st K I J F i x hd hl k
    exact k
  · intro pc L st K I J F q i x hd hi hn hp k
    exact k
  · intro pc L st K I J F i x hd hn hp k
    exact k
  · intro pc L st K I J F q i x hd hi hn hp k
    exact k
  · intro pc L st K I J F i x hd hn hp k
    exact k
  · intro pc L st K I J F q i x hd hi hn hp k
    exact k
  · intro pc L st K I J F i x hd hn hp k
    exact k
  · intro pc L st K I J F i n x v hd hl hv hp k
    exact k
  · intro pc L st K I J F x y2 hd k
    exact k
  · intro pc L st K I J F x y2 hd k
    exact k
  · intro pc L st K I J F x y2 hd k
    exact k
  · intro pc L st K I J F x y2 hd k
    exact k
  · intro pc L st K I J F x y2 hd k
    exact k
  · intro pc L st K I J F x y2 hd k
    exact k
  · intro pc L st K I J F x y2 hd k
    exact k
  · intro pc L st K I J F x y2 hd k
    exact k
  · intro pc L st K I J F x y2 hd k
    exact k
  · intro pc L st K I J F x y2 hd hne k
    exact k
  · intro pc L st K I J F x y2 hd hne k
    exact k
  · intro pc L st K I J F x y2 hd k
    exact k
  · intro pc L st K I J F x y2 hd k
    exact k
  · intro pc L st K I J F x y2 hd k
    exact k
  · intro pc L st K I J F x y2 hd k
    exact k
  · intro pc L st K I J F x y2 hd hne k
    exact k
  · intro pc L st K I J F x y2 hd hne k
    exact k
  · intro pc L st K I J F x y2 hd k
    exact k
  · intro pc L st K I J F x y2 hd k
    exact k
  · intro pc L st K I J F x y2 hd k
    exact k
  · intro pc L st K I J F x y2 hd k
    exact k
  · intro pc L st K I J F x hd k
    exact k
  · intro pc L st K I J F x hd k
    exact k
  · intro pc L st K I J F v hd hv k
    exact k
  · intro pc L st K I J F v hd hv k
    exact k
  · intro pc L st K I J F v w hd hv hw k
    exact k
  · intro pc L st K I J F v hd hv k
    exact k
  · intro pc L st K I J F x off tgt hd ht kt kf
    by_cases z : x = 0
    · exact kt z
    · exact kf z
  · intro pc L st K I J F x y2 off tgt hd ht kt kf
    by_cases z : x = y2
    · exact kt z
    · exact kf z
  · intro pc L st K I J F x off tgt hd ht kt kf
    by_cases z : x = 0
    · exact kf z
    · exact kt z
  · intro pc L st K I J F x y2 off tgt hd ht kt kf
    by_cases z : x = y2
    · exact kf z
    · exact kt z
  · intro pc L st K I J F x off tgt hd ht kt kf
    by_cases z : x < 0
    · exact kt z
    · exact kf z
  · intro pc L st K I J F x y2 off tgt hd ht kt kf
    by_cases z : x < y2
    · exact kt z
    · exact kf z
  · intro pc L st K I J F x off tgt hd ht kt kf
    by_cases z : 0 ≤ x
    · exact kt z
    · exact kf z
  · intro pc L st K I J F x y2 off tgt hd ht kt kf
    by_cases z : y2 ≤ x
    · exact kt z
    · exact kf z
  · intro pc L st K I J F x off tgt hd ht kt kf
    by_cases z : 0 < x
    · exact kt z
    · exact kf z
  · intro pc L st K I J F x y2 off tgt hd ht kt kf
    by_cases z : y2 < x
    · exact kt z
    · exact kf z
  · intro pc L st K I J F x off tgt hd ht kt kf
    by_cases z : x ≤ 0
    · exact kt z
    · exact kf z
  · intro pc L st K I J F x y2 off tgt hd ht kt kf
    by_cases z : x ≤ y2
    · exact kt z
    · exact kf z
  · intro pc L st K I J F off tgt hd ht k
    exact k
  · intro pc L st K I J F x off tgt hd ht k
    exact k
  · intro pc L st K I J F x d lo hi offs len tgt hd hh ht k
    exact k
  · intro pc L st K I J F x d lo hi off offs len tgt hd h1 h2 ho ht k
    exact k
  · intro pc L st K I J F x y2 i hd hw hs k
    exact k
  · intro pc L st K I J F x y2 i hd hw hs k
    exact k
  · intro pc L st K I J F x y2 i hd hw hs k
    exact k
  · intro pc L st K I J F a i hd hw hs k
    exact k
  · intro pc L st K I J F a i ci q n hd hf hk hq k
    exact k
  · intro pc L st K I J F a i ci q n hd hf hk hq k
    exact k
  · intro pc L st K I J F a i ci q n hd hf hk hq k
    exact k
  · intro pc L st K I J F a i ci q n x hd hf hk hq hfin k
    exact k
  · intro pc L st K I J F a i ci q n x hd hf hk hq hfin k
    exact k
  · intro pc L st K I J F a i ci q n x hd hin hf hk hq hfin hdc k
    exact k
  · intro pc L st K I J F a n i hd hk hin k
    exact k
  · intro pc L st K I J F a n i hd hk hin k
    exact k
  · intro pc L st K I J F a n i hd hk hin k
    exact k
  · intro pc L st K I J F a ci n hd hk hci k
    exact k
  · intro pc L st K I J F a n i x hd hk hin k
    exact k
  · intro pc L st K I J F a n i x hd hk hin hx01 k
    exact k
  · intro pc L st K I J F a n x n2 i hd hk hin hkx k
    exact k
  · intro pc L st K I J F n i xs hd hs hin k
    exact k
  · intro pc L st K I J F n xs hd hs k
    exact k
  · intro pc L st K I J F i ci Cn T n hd hcl hw k
    rw [List.length_append, ksum_push] at k
    exact ⟨by omega, by omega⟩
  · intro pc L st K I J F x n hd hx0 hxn hn9 k
    rw [List.length_append, ksum_push] at k
    exact ⟨by omega, by omega⟩
  · intro pc L st K I J F x n hd hx0 hxn hn9 k
    rw [List.length_append, ksum_push] at k
    exact ⟨by omega, by omega⟩
  · intro pc L st K I J F x n i hd hw hx0 hxn hn9 k
    rw [List.length_append, ksum_push] at k
    exact ⟨by omega, by omega⟩
  · intro pc L st K I J F ci n T n3 a i y2 as r K2 I2 J2 F2 hd hl hm hn hs hk hcl hC k
    exact ⟨Nat.le_trans hC.1 k.1, Nat.le_trans hC.2.1 k.2⟩
  · intro pc L st K I J F i y2 as r K2 I2 J2 F2 hd hl hm hn hs hC k
    exact ⟨Nat.le_trans hC.1 k.1, Nat.le_trans hC.2.1 k.2⟩
  · intro pc L st K I J F i y2 as r K2 I2 J2 F2 hd hl hm hn hs hC k
    exact ⟨Nat.le_trans hC.1 k.1, Nat.le_trans hC.2.1 k.2⟩
  · intro pc L st K I J F a i y2 as r K2 I2 J2 F2 hd hl hm hn hs hC k
    exact ⟨Nat.le_trans hC.1 k.1, Nat.le_trans hC.2.1 k.2⟩
  · intro pc L st K I J F a i y2 as r K2 I2 J2 F2 hd hl hm hn hs hC k
    exact ⟨Nat.le_trans hC.1 k.1, Nat.le_trans hC.2.1 k.2⟩
  · intro pc L st K I J F x hd hr hR 
    subst hR
    exact ⟨Nat.le_refl _, Nat.le_refl _⟩
  · intro pc L st K I J F x hd hr hR 
    subst hR
    exact ⟨Nat.le_refl _, Nat.le_refl _⟩
  · intro pc L st K I J F x hd hr hR 
    subst hR
    exact ⟨Nat.le_refl _, Nat.le_refl _⟩
  · intro pc L st K I J F  hd hr hR 
    subst hR
    exact ⟨Nat.le_refl _, Nat.le_refl _⟩
theorem argL_len (f : Nat → Nat) : ∀ (as : List VV), (lg_sl (as.map (vv f))).length = (argL as).length
  | [] => rfl
  | v :: vs => by
    have ih := argL_len f vs
    unfold lg_sl at ih ⊢
    unfold argL
    rw [List.map_cons, List.flatMap_cons, List.length_append, ih, vv_cat]
    by_cases h : cat v = 2
    · rw [if_pos h, if_pos h]
      simp only [List.length_cons, List.length_nil]
      omega
    · rw [if_neg h, if_neg h]
      simp only [List.length_cons, List.length_nil]
      omega
theorem argL_at (f : Nat → Nat) : ∀ (as : List VV) (o i : Nat) (v : VV), (argL as)[i]? = some (some v) → (o + i, vv f v) ∈ lv_args o (as.map (vv f))
  | [], o, i, v, h => by simp [argL] at h
  | w :: ws, o, i, v, h => by
    rw [List.map_cons]
    unfold lv_args
    unfold argL at h
    rw [vv_cat]
    by_cases h2 : cat w = 2
    · rw [if_pos h2] at h ⊢
      match i, h with
      | 0, h =>
        simp only [List.getElem?_cons_zero, Option.some.injEq] at h
        subst h
        exact List.mem_cons_self
      | 1, h => simp at h
      | j + 2, h =>
        simp only [List.getElem?_cons_succ] at h
        have := argL_at f ws (o + 2) j v h
        rw [show o + (j + 2) = o + 2 + j by omega]
        exact List.mem_cons_of_mem _ this
    · rw [if_neg h2] at h ⊢
      match i, h with
      | 0, h =>
        simp only [List.getElem?_cons_zero, Option.some.injEq] at h
        subst h
        exact List.mem_cons_self
      | j + 1, h =>
        simp only [List.getElem?_cons_succ] at h
        have := argL_at f ws (o + 1) j v h
        rw [show o + (j + 1) = o + 1 + j by omega]
        exact List.mem_cons_of_mem _ this
theorem ent_LR {f : Nat → Nat} {n : Nat} {as : List VV} {ls : Array Slot} (hl : (argL as).length ≤ n) (h : lv_has ls n (lv_args 0 (as.map (vv f)))) : LR f n (entL n as) ls := by
  refine ⟨h.1, h.2.1, fun i v hi => ?_⟩
  unfold entL at hi
  by_cases hlt : i < (argL as).length
  · rw [List.getElem?_append_left hlt] at hi
    have := argL_at f as 0 i v hi
    rw [Nat.zero_add] at this
    exact h.2.2 _ this
  · rw [List.getElem?_append_right (by omega), List.getElem?_replicate] at hi
    split at hi
    · cases hi
    · cases hi
theorem ent_len {n : Nat} {as : List VV} (hl : (argL as).length ≤ n) : (entL n as).length = n := by
  unfold entL
  rw [List.length_append, List.length_replicate]
  omega
theorem mK_pos : ∀ y, y < 166 → 1 ≤ mK y := by decide +kernel
/-- EVERY METHOD KEEPS WHAT ITS PURE RUN SAYS -/
theorem gg_all {l : Launch} {D : va_G} {cA : Nat → ClassId} {b base : Nat} (y : Nat) (as : List VV) (K : KT) (I : IT) (J : JT) (F : FT) (Rs : RT) (hl : (argL as).length ≤ mL y) (hE : Ex none (PM l D cA b base) y Rs 0 (entL (mL y) as) [] K I J F) : PM l D cA b base y as K I J F Rs := by
  have hg := hE _ gg_grow
  refine ⟨hg.1, hg.2, fun hy0 hy1 h99 => ?_⟩
  refine Met.ofW (cc := mB y) (maxL := mL y) (ret := mR y) (gg_plain y hy1) rfl ?_
  intro p e s m args below meth c s₁ B hml hv
  obtain ⟨rfl, hWD, hK, hnest, hAO⟩ := hv
  have hc : CX p l e (headSpec (gg_wsy y) { frames := mK y, cells := Rs.2.1.length - K.length, slots := ksum Rs.2.1 - ksum K, locals := 40 * mK y }).room s m (as.map (vv (ad b base))).toArray below meth c y b base D cA none :=
    ⟨B.exec, B.bytes, hml, B.returns, B.notSynchronized, fun w hw => atoms_spec (ws := gg_wsy y) B.pre w (List.mem_cons_of_mem _ hw), hnest, hAO, findClass_of_methodNamed B.named, hK, fun h => ((name_of_methodNamed B.named B.method).1).trans h, by have := hWD.2.1; have := k99_pos h99; omega, mK_pos y hy1, Nat.le_refl _, Nat.le_refl _, fun _ _ h => by cases h⟩
  have hX := hE _ (gg_clo (k0 := K.length) (n0 := ksum K) hc (by
    constructor
    · show Rs.2.1.length = K.length + (Rs.2.1.length - K.length)
      omega
    · show ksum Rs.2.1 = ksum K + (ksum Rs.2.1 - ksum K)
      omega))
  rw [lg_entry_eq]
  have hlen := argL_len (ad b base) as
  have hent := lv_entry (as.map (vv (ad b base))) (n := mL y) (by rw [hlen]; exact hl)
  exact hX.2 _ s.heap [] 0 0 ⟨ent_LR hl hent, ent_len hl, hWD, va_S.rf, rfl, rfl⟩
theorem gg_met {l : Launch} {D : va_G} {cA : Nat → ClassId} {b base : Nat} {y : Nat} {as : List VV} {K : KT} {I : IT} {J : JT} {F : FT} {Rs : RT} (h : Rn y as K I J F Rs) : PM l D cA b base y as K I J F Rs := h _ gg_all
