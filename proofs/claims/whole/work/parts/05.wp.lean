/-! RUNS TO A RESULT WITH A PROPERTY -/
def Wp (scr : Option (Nat × (Nat → Int32))) (y : Nat) (Po : RT → Prop) : XT := fun pc L st K I J F => ∃ Rs, Po Rs ∧ Ex scr Rn y Rs pc L st K I J F
def Sp (y : Nat) (as : List VV) (K : KT) (I : IT) (J : JT) (F : FT) (Po : RT → Prop) : Prop := ∃ Rs, Po Rs ∧ Rn y as K I J F Rs
theorem Sp.mk {y : Nat} {as : List VV} {K : KT} {I : IT} {J : JT} {F : FT} {Po : RT → Prop} (hl : (argL as).length ≤ mL y) (h : Wp none y Po 0 (entL (mL y) as) [] K I J F) : Sp y as K I J F Po := by
  obtain ⟨Rs, h1, h2⟩ := h
  exact ⟨Rs, h1, Rn.mk hl h2⟩
theorem Sp.weak {y : Nat} {as : List VV} {K : KT} {I : IT} {J : JT} {F : FT} {Po Po' : RT → Prop} (h : Sp y as K I J F Po) (hw : ∀ Rs, Po Rs → Po' Rs) : Sp y as K I J F Po' := by
  obtain ⟨Rs, h1, h2⟩ := h
  exact ⟨Rs, hw _ h1, h2⟩
theorem wp_iconst {scr : Option (Nat × (Nat → Int32))} {y : Nat} {Po : RT → Prop} {pc : Nat} {L : LL} {st : List VV} {K : KT} {I : IT} {J : JT} {F : FT} {n : Int} {v : Int32} (hd : decode (mB y) pc = .ok ((.iconst n), 1)) (hv : Int32.ofInt n = v) (k : Wp scr y Po (pc + 1) L (vI v :: st) K I J F) : Wp scr y Po pc L st K I J F := by
  obtain ⟨Rs, g1, g2⟩ := k
  exact ⟨Rs, g1, ex_iconst hd hv g2⟩
theorem wp_bipush {scr : Option (Nat × (Nat → Int32))} {y : Nat} {Po : RT → Prop} {pc : Nat} {L : LL} {st : List VV} {K : KT} {I : IT} {J : JT} {F : FT} {n : Int} {v : Int32} (hd : decode (mB y) pc = .ok ((.bipush n), 2)) (hv : (Int8.ofInt n).toInt32 = v) (k : Wp scr y Po (pc + 2) L (vI v :: st) K I J F) : Wp scr y Po pc L st K I J F := by
  obtain ⟨Rs, g1, g2⟩ := k
  exact ⟨Rs, g1, ex_bipush hd hv g2⟩
theorem wp_sipush {scr : Option (Nat × (Nat → Int32))} {y : Nat} {Po : RT → Prop} {pc : Nat} {L : LL} {st : List VV} {K : KT} {I : IT} {J : JT} {F : FT} {n : Int} {v : Int32} (hd : decode (mB y) pc = .ok ((.sipush n), 3)) (hv : (Int16.ofInt n).toInt32 = v) (k : Wp scr y Po (pc + 3) L (vI v :: st) K I J F) : Wp scr y Po pc L st K I J F := by
  obtain ⟨Rs, g1, g2⟩ := k
  exact ⟨Rs, g1, ex_sipush hd hv g2⟩
theorem wp_lconst {scr : Option (Nat × (Nat → Int32))} {y : Nat} {Po : RT → Prop} {pc : Nat} {L : LL} {st : List VV} {K : KT} {I : IT} {J : JT} {F : FT} {n : Fin 2} {v : Int64} (hd : decode (mB y) pc = .ok ((.lconst n), 1)) (hv : Int64.ofNat (n : Nat) = v) (k : Wp scr y Po (pc + 1) L (vL v :: st) K I J F) : Wp scr y Po pc L st K I J F := by
  obtain ⟨Rs, g1, g2⟩ := k
  exact ⟨Rs, g1, ex_lconst hd hv g2⟩
theorem wp_ldcw {scr : Option (Nat × (Nat → Int32))} {y : Nat} {Po : RT → Prop} {pc : Nat} {L : LL} {st : List VV} {K : KT} {I : IT} {J : JT} {F : FT} {i : Nat} {v : Int32} (hd : decode (mB y) pc = .ok ((.ldc_w i), 3)) (hw : Cond.constant (mN y).cls i v ∈ gg_GW) (k : Wp scr y Po (pc + 3) L (vI v :: st) K I J F) : Wp scr y Po pc L st K I J F := by
  obtain ⟨Rs, g1, g2⟩ := k
  exact ⟨Rs, g1, ex_ldcw hd hw g2⟩
theorem wp_ldc2 {scr : Option (Nat × (Nat → Int32))} {y : Nat} {Po : RT → Prop} {pc : Nat} {L : LL} {st : List VV} {K : KT} {I : IT} {J : JT} {F : FT} {i : Nat} {v : Int64} (hd : decode (mB y) pc = .ok ((.ldc2_w i), 3)) (hw : Cond.constantLong (mN y).cls i v ∈ gg_GW) (k : Wp scr y Po (pc + 3) L (vL v :: st) K I J F) : Wp scr y Po pc L st K I J F := by
  obtain ⟨Rs, g1, g2⟩ := k
  exact ⟨Rs, g1, ex_ldc2 hd hw g2⟩
theorem wp_iload_n {scr : Option (Nat × (Nat → Int32))} {y : Nat} {Po : RT → Prop} {pc : Nat} {L : LL} {st : List VV} {K : KT} {I : IT} {J : JT} {F : FT} {q : Fin 4} {i : Nat} {x : Int32} (hd : decode (mB y) pc = .ok ((.iload_n q), 1)) (hi : (q : Nat) = i) (hl : L[i]? = some (some (vI x))) (k : Wp scr y Po (pc + 1) L (vI x :: st) K I J F) : Wp scr y Po pc L st K I J F := by
  obtain ⟨Rs, g1, g2⟩ := k
  exact ⟨Rs, g1, ex_iload_n hd hi hl g2⟩
theorem wp_iload {scr : Option (Nat × (Nat → Int32))} {y : Nat} {Po : RT → Prop} {pc : Nat} {L : LL} {st : List VV} {K : KT} {I : IT} {J : JT} {F : FT} {i : Nat} {x : Int32} (hd : decode (mB y) pc = .ok ((.iload i), 2)) (hl : L[i]? = some (some (vI x))) (k : Wp scr y Po (pc + 2) L (vI x :: st) K I J F) : Wp scr y Po pc L st K I J F := by
  obtain ⟨Rs, g1, g2⟩ := k
  exact ⟨Rs, g1, ex_iload hd hl g2⟩
theorem wp_lload_n {scr : Option (Nat × (Nat → Int32))} {y : Nat} {Po : RT → Prop} {pc : Nat} {L : LL} {st : List VV} {K : KT} {I : IT} {J : JT} {F : FT} {q : Fin 4} {i : Nat} {x : Int64} (hd : decode (mB y) pc = .ok ((.lload_n q), 1)) (hi : (q : Nat) = i) (hl : L[i]? = some (some (vL x))) (k : Wp scr y Po (pc + 1) L (vL x :: st) K I J F) : Wp scr y Po pc L st K I J F := by
  obtain ⟨Rs, g1, g2⟩ := k
  exact ⟨Rs, g1, ex_lload_n hd hi hl g2⟩
theorem wp_lload {scr : Option (Nat × (Nat → Int32))} {y : Nat} {Po : RT → Prop} {pc : Nat} {L : LL} {st : List VV} {K : KT} {I : IT} {J : JT} {F : FT} {i : Nat} {x : Int64} (hd : decode (mB y) pc = .ok ((.lload i), 2)) (hl : L[i]? = some (some (vL x))) (k : Wp scr y Po (pc + 2) L (vL x :: st) K I J F) : Wp scr y Po pc L st K I J F := by
  obtain ⟨Rs, g1, g2⟩ := k
  exact ⟨Rs, g1, ex_lload hd hl g2⟩
theorem wp_aload_n {scr : Option (Nat × (Nat → Int32))} {y : Nat} {Po : RT → Prop} {pc : Nat} {L : LL} {st : List VV} {K : KT} {I : IT} {J : JT} {F : FT} {q : Fin 4} {i : Nat} {x : Nat} (hd : decode (mB y) pc = .ok ((.aload_n q), 1)) (hi : (q : Nat) = i) (hl : L[i]? = some (some (vR x))) (k : Wp scr y Po (pc + 1) L (vR x :: st) K I J F) : Wp scr y Po pc L st K I J F := by
  obtain ⟨Rs, g1, g2⟩ := k
  exact ⟨Rs, g1, ex_aload_n hd hi hl g2⟩
theorem wp_aload {scr : Option (Nat × (Nat → Int32))} {y : Nat} {Po : RT → Prop} {pc : Nat} {L : LL} {st : List VV} {K : KT} {I : IT} {J : JT} {F : FT} {i : Nat} {x : Nat} (hd : decode (mB y) pc = .ok ((.aload i), 2)) (hl : L[i]? = some (some (vR x))) (k : Wp scr y Po (pc + 2) L (vR x :: st) K I J F) : Wp scr y Po pc L st K I J F := by
  obtain ⟨Rs, g1, g2⟩ := k
  exact ⟨Rs, g1, ex_aload hd hl g2⟩
theorem wp_istore_n {scr : Option (Nat × (Nat → Int32))} {y : Nat} {Po : RT → Prop} {pc : Nat} {L : LL} {st : List VV} {K : KT} {I : IT} {J : JT} {F : FT} {q : Fin 4} {i : Nat} {x : Int32} (hd : decode (mB y) pc = .ok ((.istore_n q), 1)) (hi : (q : Nat) = i) (hn : i < L.length) (hp : pvB L i = true) (k : Wp scr y Po (pc + 1) (L.set i (some (vI x))) st K I J F) : Wp scr y Po pc L (vI x :: st) K I J F := by
  obtain ⟨Rs, g1, g2⟩ := k
  exact ⟨Rs, g1, ex_istore_n hd hi hn hp g2⟩
theorem wp_istore {scr : Option (Nat × (Nat → Int32))} {y : Nat} {Po : RT → Prop} {pc : Nat} {L : LL} {st : List VV} {K : KT} {I : IT} {J : JT} {F : FT} {i : Nat} {x : Int32} (hd : decode (mB y) pc = .ok ((.istore i), 2)) (hn : i < L.length) (hp : pvB L i = true) (k : Wp scr y Po (pc + 2) (L.set i (some (vI x))) st K I J F) : Wp scr y Po pc L (vI x :: st) K I J F := by
  obtain ⟨Rs, g1, g2⟩ := k
  exact ⟨Rs, g1, ex_istore hd hn hp g2⟩
theorem wp_astore_n {scr : Option (Nat × (Nat → Int32))} {y : Nat} {Po : RT → Prop} {pc : Nat} {L : LL} {st : List VV} {K : KT} {I : IT} {J : JT} {F : FT} {q : Fin 4} {i : Nat} {x : Nat} (hd : decode (mB y) pc = .ok ((.astore_n q), 1)) (hi : (q : Nat) = i) (hn : i < L.length) (hp : pvB L i = true) (k : Wp scr y Po (pc + 1) (L.set i (some (vR x))) st K I J F) : Wp scr y Po pc L (vR x :: st) K I J F := by
  obtain ⟨Rs, g1, g2⟩ := k
  exact ⟨Rs, g1, ex_astore_n hd hi hn hp g2⟩
theorem wp_astore {scr : Option (Nat × (Nat → Int32))} {y : Nat} {Po : RT → Prop} {pc : Nat} {L : LL} {st : List VV} {K : KT} {I : IT} {J : JT} {F : FT} {i : Nat} {x : Nat} (hd : decode (mB y) pc = .ok ((.astore i), 2)) (hn : i < L.length) (hp : pvB L i = true) (k : Wp scr y Po (pc + 2) (L.set i (some (vR x))) st K I J F) : Wp scr y Po pc L (vR x :: st) K I J F := by
  obtain ⟨Rs, g1, g2⟩ := k
  exact ⟨Rs, g1, ex_astore hd hn hp g2⟩
theorem wp_lstore_n {scr : Option (Nat × (Nat → Int32))} {y : Nat} {Po : RT → Prop} {pc : Nat} {L : LL} {st : List VV} {K : KT} {I : IT} {J : JT} {F : FT} {q : Fin 4} {i : Nat} {x : Int64} (hd : decode (mB y) pc = .ok ((.lstore_n q), 1)) (hi : (q : Nat) = i) (hn : i + 1 < L.length) (hp : pvB L i = true) (k : Wp scr y Po (pc + 1) ((L.set i (some (vL x))).set (i + 1) none) st K I J F) : Wp scr y Po pc L (vL x :: st) K I J F := by
  obtain ⟨Rs, g1, g2⟩ := k
  exact ⟨Rs, g1, ex_lstore_n hd hi hn hp g2⟩
theorem wp_lstore {scr : Option (Nat × (Nat → Int32))} {y : Nat} {Po : RT → Prop} {pc : Nat} {L : LL} {st : List VV} {K : KT} {I : IT} {J : JT} {F : FT} {i : Nat} {x : Int64} (hd : decode (mB y) pc = .ok ((.lstore i), 2)) (hn : i + 1 < L.length) (hp : pvB L i = true) (k : Wp scr y Po (pc + 2) ((L.set i (some (vL x))).set (i + 1) none) st K I J F) : Wp scr y Po pc L (vL x :: st) K I J F := by
  obtain ⟨Rs, g1, g2⟩ := k
  exact ⟨Rs, g1, ex_lstore hd hn hp g2⟩
theorem wp_iinc {scr : Option (Nat × (Nat → Int32))} {y : Nat} {Po : RT → Prop} {pc : Nat} {L : LL} {st : List VV} {K : KT} {I : IT} {J : JT} {F : FT} {i : Nat} {n : Int} {x v : Int32} (hd : decode (mB y) pc = .ok ((.iinc i n), 3)) (hl : L[i]? = some (some (vI x))) (hv : x + Int32.ofInt n = v) (hp : pvB L i = true) (k : Wp scr y Po (pc + 3) (L.set i (some (vI v))) st K I J F) : Wp scr y Po pc L st K I J F := by
  obtain ⟨Rs, g1, g2⟩ := k
  exact ⟨Rs, g1, ex_iinc hd hl hv hp g2⟩
theorem wp_iadd {scr : Option (Nat × (Nat → Int32))} {y : Nat} {Po : RT → Prop} {pc : Nat} {L : LL} {st : List VV} {K : KT} {I : IT} {J : JT} {F : FT} {x y2 : Int32} (hd : decode (mB y) pc = .ok (.iadd, 1)) (k : Wp scr y Po (pc + 1) L (vI (x + y2) :: st) K I J F) : Wp scr y Po pc L (vI y2 :: vI x :: st) K I J F := by
  obtain ⟨Rs, g1, g2⟩ := k
  exact ⟨Rs, g1, ex_iadd hd g2⟩
theorem wp_isub {scr : Option (Nat × (Nat → Int32))} {y : Nat} {Po : RT → Prop} {pc : Nat} {L : LL} {st : List VV} {K : KT} {I : IT} {J : JT} {F : FT} {x y2 : Int32} (hd : decode (mB y) pc = .ok (.isub, 1)) (k : Wp scr y Po (pc + 1) L (vI (x - y2) :: st) K I J F) : Wp scr y Po pc L (vI y2 :: vI x :: st) K I J F := by
  obtain ⟨Rs, g1, g2⟩ := k
  exact ⟨Rs, g1, ex_isub hd g2⟩
theorem wp_imul {scr : Option (Nat × (Nat → Int32))} {y : Nat} {Po : RT → Prop} {pc : Nat} {L : LL} {st : List VV} {K : KT} {I : IT} {J : JT} {F : FT} {x y2 : Int32} (hd : decode (mB y) pc = .ok (.imul, 1)) (k : Wp scr y Po (pc + 1) L (vI (x * y2) :: st) K I J F) : Wp scr y Po pc L (vI y2 :: vI x :: st) K I J F := by
  obtain ⟨Rs, g1, g2⟩ := k
  exact ⟨Rs, g1, ex_imul hd g2⟩
theorem wp_iand {scr : Option (Nat × (Nat → Int32))} {y : Nat} {Po : RT → Prop} {pc : Nat} {L : LL} {st : List VV} {K : KT} {I : IT} {J : JT} {F : FT} {x y2 : Int32} (hd : decode (mB y) pc = .ok (.iand, 1)) (k : Wp scr y Po (pc + 1) L (vI (x &&& y2) :: st) K I J F) : Wp scr y Po pc L (vI y2 :: vI x :: st) K I J F := by
  obtain ⟨Rs, g1, g2⟩ := k
  exact ⟨Rs, g1, ex_iand hd g2⟩
theorem wp_ior {scr : Option (Nat × (Nat → Int32))} {y : Nat} {Po : RT → Prop} {pc : Nat} {L : LL} {st : List VV} {K : KT} {I : IT} {J : JT} {F : FT} {x y2 : Int32} (hd : decode (mB y) pc = .ok (.ior, 1)) (k : Wp scr y Po (pc + 1) L (vI (x ||| y2) :: st) K I J F) : Wp scr y Po pc L (vI y2 :: vI x :: st) K I J F := by
  obtain ⟨Rs, g1, g2⟩ := k
  exact ⟨Rs, g1, ex_ior hd g2⟩
theorem wp_ixor {scr : Option (Nat × (Nat → Int32))} {y : Nat} {Po : RT → Prop} {pc : Nat} {L : LL} {st : List VV} {K : KT} {I : IT} {J : JT} {F : FT} {x y2 : Int32} (hd : decode (mB y) pc = .ok (.ixor, 1)) (k : Wp scr y Po (pc + 1) L (vI (x ^^^ y2) :: st) K I J F) : Wp scr y Po pc L (vI y2 :: vI x :: st) K I J F := by
  obtain ⟨Rs, g1, g2⟩ := k
  exact ⟨Rs, g1, ex_ixor hd g2⟩
theorem wp_ishl {scr : Option (Nat × (Nat → Int32))} {y : Nat} {Po : RT → Prop} {pc : Nat} {L : LL} {st : List VV} {K : KT} {I : IT} {J : JT} {F : FT} {x y2 : Int32} (hd : decode (mB y) pc = .ok (.ishl, 1)) (k : Wp scr y Po (pc + 1) L (vI (x <<< (y2 &&& 31)) :: st) K I J F) : Wp scr y Po pc L (vI y2 :: vI x :: st) K I J F := by
  obtain ⟨Rs, g1, g2⟩ := k
  exact ⟨Rs, g1, ex_ishl hd g2⟩
theorem wp_ishr {scr : Option (Nat × (Nat → Int32))} {y : Nat} {Po : RT → Prop} {pc : Nat} {L : LL} {st : List VV} {K : KT} {I : IT} {J : JT} {F : FT} {x y2 : Int32} (hd : decode (mB y) pc = .ok (.ishr, 1)) (k : Wp scr y Po (pc + 1) L (vI (x >>> (y2 &&& 31)) :: st) K I J F) : Wp scr y Po pc L (vI y2 :: vI x :: st) K I J F := by
  obtain ⟨Rs, g1, g2⟩ := k
  exact ⟨Rs, g1, ex_ishr hd g2⟩
theorem wp_iushr {scr : Option (Nat × (Nat → Int32))} {y : Nat} {Po : RT → Prop} {pc : Nat} {L : LL} {st : List VV} {K : KT} {I : IT} {J : JT} {F : FT} {x y2 : Int32} (hd : decode (mB y) pc = .ok (.iushr, 1)) (k : Wp scr y Po (pc + 1) L (vI ((x.toUInt32 >>> (y2.toUInt32 &&& Int32.toUInt32 31)).toInt32) :: st) K I J F) : Wp scr y Po pc L (vI y2 :: vI x :: st) K I J F := by
  obtain ⟨Rs, g1, g2⟩ := k
  exact ⟨Rs, g1, ex_iushr hd g2⟩
theorem wp_idiv {scr : Option (Nat × (Nat → Int32))} {y : Nat} {Po : RT → Prop} {pc : Nat} {L : LL} {st : List VV} {K : KT} {I : IT} {J : JT} {F : FT} {x y2 : Int32} (hd : decode (mB y) pc = .ok (.idiv, 1)) (hne : ¬ y2 = 0) (k : Wp scr y Po (pc + 1) L (vI (x / y2) :: st) K I J F) : Wp scr y Po pc L (vI y2 :: vI x :: st) K I J F := by
  obtain ⟨Rs, g1, g2⟩ := k
  exact ⟨Rs, g1, ex_idiv hd hne g2⟩
theorem wp_irem {scr : Option (Nat × (Nat → Int32))} {y : Nat} {Po : RT → Prop} {pc : Nat} {L : LL} {st : List VV} {K : KT} {I : IT} {J : JT} {F : FT} {x y2 : Int32} (hd : decode (mB y) pc = .ok (.irem, 1)) (hne : ¬ y2 = 0) (k : Wp scr y Po (pc + 1) L (vI (x - x / y2 * y2) :: st) K I J F) : Wp scr y Po pc L (vI y2 :: vI x :: st) K I J F := by
  obtain ⟨Rs, g1, g2⟩ := k
  exact ⟨Rs, g1, ex_irem hd hne g2⟩
theorem wp_ladd {scr : Option (Nat × (Nat → Int32))} {y : Nat} {Po : RT → Prop} {pc : Nat} {L : LL} {st : List VV} {K : KT} {I : IT} {J : JT} {F : FT} {x y2 : Int64} (hd : decode (mB y) pc = .ok (.ladd, 1)) (k : Wp scr y Po (pc + 1) L (vL (x + y2) :: st) K I J F) : Wp scr y Po pc L (vL y2 :: vL x :: st) K I J F := by
  obtain ⟨Rs, g1, g2⟩ := k
  exact ⟨Rs, g1, ex_ladd hd g2⟩
theorem wp_lmul {scr : Option (Nat × (Nat → Int32))} {y : Nat} {Po : RT → Prop} {pc : Nat} {L : LL} {st : List VV} {K : KT} {I : IT} {J : JT} {F : FT} {x y2 : Int64} (hd : decode (mB y) pc = .ok (.lmul, 1)) (k : Wp scr y Po (pc + 1) L (vL (x * y2) :: st) K I J F) : Wp scr y Po pc L (vL y2 :: vL x :: st) K I J F := by
  obtain ⟨Rs, g1, g2⟩ := k
  exact ⟨Rs, g1, ex_lmul hd g2⟩
theorem wp_land {scr : Option (Nat × (Nat → Int32))} {y : Nat} {Po : RT → Prop} {pc : Nat} {L : LL} {st : List VV} {K : KT} {I : IT} {J : JT} {F : FT} {x y2 : Int64} (hd : decode (mB y) pc = .ok (.land, 1)) (k : Wp scr y Po (pc + 1) L (vL (x &&& y2) :: st) K I J F) : Wp scr y Po pc L (vL y2 :: vL x :: st) K I J F := by
  obtain ⟨Rs, g1, g2⟩ := k
  exact ⟨Rs, g1, ex_land hd g2⟩
theorem wp_lor {scr : Option (Nat × (Nat → Int32))} {y : Nat} {Po : RT → Prop} {pc : Nat} {L : LL} {st : List VV} {K : KT} {I : IT} {J : JT} {F : FT} {x y2 : Int64} (hd : decode (mB y) pc = .ok (.lor, 1)) (k : Wp scr y Po (pc + 1) L (vL (x ||| y2) :: st) K I J F) : Wp scr y Po pc L (vL y2 :: vL x :: st) K I J F := by
  obtain ⟨Rs, g1, g2⟩ := k
  exact ⟨Rs, g1, ex_lor hd g2⟩
theorem wp_ldiv {scr : Option (Nat × (Nat → Int32))} {y : Nat} {Po : RT → Prop} {pc : Nat} {L : LL} {st : List VV} {K : KT} {I : IT} {J : JT} {F : FT} {x y2 : Int64} (hd : decode (mB y) pc = .ok (.ldiv, 1)) (hne : ¬ y2 = 0) (k : Wp scr y Po (pc + 1) L (vL (x / y2) :: st) K I J F) : Wp scr y Po pc L (vL y2 :: vL x :: st) K I J F := by
  obtain ⟨Rs, g1, g2⟩ := k
  exact ⟨Rs, g1, ex_ldiv hd hne g2⟩
theorem wp_lrem {scr : Option (Nat × (Nat → Int32))} {y : Nat} {Po : RT → Prop} {pc : Nat} {L : LL} {st : List VV} {K : KT} {I : IT} {J : JT} {F : FT} {x y2 : Int64} (hd : decode (mB y) pc = .ok (.lrem, 1)) (hne : ¬ y2 = 0) (k : Wp scr y Po (pc + 1) L (vL (x - x / y2 * y2) :: st) K I J F) : Wp scr y Po pc L (vL y2 :: vL x :: st) K I J F := by
  obtain ⟨Rs, g1, g2⟩ := k
  exact ⟨Rs, g1, ex_lrem hd hne g2⟩
theorem wp_lushr {scr : Option (Nat × (Nat → Int32))} {y : Nat} {Po : RT → Prop} {pc : Nat} {L : LL} {st : List VV} {K : KT} {I : IT} {J : JT} {F : FT} {x : Int64} {y2 : Int32} (hd : decode (mB y) pc = .ok (.lushr, 1)) (k : Wp scr y Po (pc + 1) L (vL ((x.toUInt64 >>> (y2.toInt64.toUInt64 &&& Int64.toUInt64 63)).toInt64) :: st) K I J F) : Wp scr y Po pc L (vI y2 :: vL x :: st) K I J F := by
  obtain ⟨Rs, g1, g2⟩ := k
  exact ⟨Rs, g1, ex_lushr hd g2⟩
theorem wp_lshl {scr : Option (Nat × (Nat → Int32))} {y : Nat} {Po : RT → Prop} {pc : Nat} {L : LL} {st : List VV} {K : KT} {I : IT} {J : JT} {F : FT} {x : Int64} {y2 : Int32} (hd : decode (mB y) pc = .ok (.lshl, 1)) (k : Wp scr y Po (pc + 1) L (vL (x <<< (y2.toInt64 &&& 63)) :: st) K I J F) : Wp scr y Po pc L (vI y2 :: vL x :: st) K I J F := by
  obtain ⟨Rs, g1, g2⟩ := k
  exact ⟨Rs, g1, ex_lshl hd g2⟩
theorem wp_lshr {scr : Option (Nat × (Nat → Int32))} {y : Nat} {Po : RT → Prop} {pc : Nat} {L : LL} {st : List VV} {K : KT} {I : IT} {J : JT} {F : FT} {x : Int64} {y2 : Int32} (hd : decode (mB y) pc = .ok (.lshr, 1)) (k : Wp scr y Po (pc + 1) L (vL (x >>> (y2.toInt64 &&& 63)) :: st) K I J F) : Wp scr y Po pc L (vI y2 :: vL x :: st) K I J F := by
  obtain ⟨Rs, g1, g2⟩ := k
  exact ⟨Rs, g1, ex_lshr hd g2⟩
theorem wp_lcmp {scr : Option (Nat × (Nat → Int32))} {y : Nat} {Po : RT → Prop} {pc : Nat} {L : LL} {st : List VV} {K : KT} {I : IT} {J : JT} {F : FT} {x y2 : Int64} (hd : decode (mB y) pc = .ok (.lcmp, 1)) (k : Wp scr y Po (pc + 1) L (vI (lg_cmp x y2) :: st) K I J F) : Wp scr y Po pc L (vL y2 :: vL x :: st) K I J F := by
  obtain ⟨Rs, g1, g2⟩ := k
  exact ⟨Rs, g1, ex_lcmp hd g2⟩
theorem wp_i2l {scr : Option (Nat × (Nat → Int32))} {y : Nat} {Po : RT → Prop} {pc : Nat} {L : LL} {st : List VV} {K : KT} {I : IT} {J : JT} {F : FT} {x : Int32} (hd : decode (mB y) pc = .ok (.i2l, 1)) (k : Wp scr y Po (pc + 1) L (vL x.toInt64 :: st) K I J F) : Wp scr y Po pc L (vI x :: st) K I J F := by
  obtain ⟨Rs, g1, g2⟩ := k
  exact ⟨Rs, g1, ex_i2l hd g2⟩
theorem wp_l2i {scr : Option (Nat × (Nat → Int32))} {y : Nat} {Po : RT → Prop} {pc : Nat} {L : LL} {st : List VV} {K : KT} {I : IT} {J : JT} {F : FT} {x : Int64} (hd : decode (mB y) pc = .ok (.l2i, 1)) (k : Wp scr y Po (pc + 1) L (vI x.toInt32 :: st) K I J F) : Wp scr y Po pc L (vL x :: st) K I J F := by
  obtain ⟨Rs, g1, g2⟩ := k
  exact ⟨Rs, g1, ex_l2i hd g2⟩
theorem wp_dup {scr : Option (Nat × (Nat → Int32))} {y : Nat} {Po : RT → Prop} {pc : Nat} {L : LL} {st : List VV} {K : KT} {I : IT} {J : JT} {F : FT} {v : VV} (hd : decode (mB y) pc = .ok (.dup, 1)) (hv : cat v = 1) (k : Wp scr y Po (pc + 1) L (v :: v :: st) K I J F) : Wp scr y Po pc L (v :: st) K I J F := by
  obtain ⟨Rs, g1, g2⟩ := k
  exact ⟨Rs, g1, ex_dup hd hv g2⟩
theorem wp_pop {scr : Option (Nat × (Nat → Int32))} {y : Nat} {Po : RT → Prop} {pc : Nat} {L : LL} {st : List VV} {K : KT} {I : IT} {J : JT} {F : FT} {v : VV} (hd : decode (mB y) pc = .ok (.pop, 1)) (hv : cat v = 1) (k : Wp scr y Po (pc + 1) L st K I J F) : Wp scr y Po pc L (v :: st) K I J F := by
  obtain ⟨Rs, g1, g2⟩ := k
  exact ⟨Rs, g1, ex_pop hd hv g2⟩
theorem wp_dup2a {scr : Option (Nat × (Nat → Int32))} {y : Nat} {Po : RT → Prop} {pc : Nat} {L : LL} {st : List VV} {K : KT} {I : IT} {J : JT} {F : FT} {v w : VV} (hd : decode (mB y) pc = .ok (.dup2, 1)) (hv : cat v = 1) (hw : cat w = 1) (k : Wp scr y Po (pc + 1) L (v :: w :: v :: w :: st) K I J F) : Wp scr y Po pc L (v :: w :: st) K I J F := by
  obtain ⟨Rs, g1, g2⟩ := k
  exact ⟨Rs, g1, ex_dup2a hd hv hw g2⟩
theorem wp_dup2b {scr : Option (Nat × (Nat → Int32))} {y : Nat} {Po : RT → Prop} {pc : Nat} {L : LL} {st : List VV} {K : KT} {I : IT} {J : JT} {F : FT} {v : VV} (hd : decode (mB y) pc = .ok (.dup2, 1)) (hv : cat v = 2) (k : Wp scr y Po (pc + 1) L (v :: v :: st) K I J F) : Wp scr y Po pc L (v :: st) K I J F := by
  obtain ⟨Rs, g1, g2⟩ := k
  exact ⟨Rs, g1, ex_dup2b hd hv g2⟩
theorem wp_if_eq {scr : Option (Nat × (Nat → Int32))} {y : Nat} {Po : RT → Prop} {pc : Nat} {L : LL} {st : List VV} {K : KT} {I : IT} {J : JT} {F : FT} {x : Int32} {off : Int} {tgt : Nat} (hd : decode (mB y) pc = .ok ((.ifCond .eq off), 3)) (ht : (pc : Int) + off = (tgt : Int)) (kt : x = 0 → Wp scr y Po tgt L st K I J F) (kf : ¬ x = 0 → Wp scr y Po (pc + 3) L st K I J F) : Wp scr y Po pc L (vI x :: st) K I J F := by
  by_cases z : x = 0
  · obtain ⟨Rs, h1, h2⟩ := kt z
    exact ⟨Rs, h1, ex_if_eq hd ht (fun _ => h2) (fun q => absurd z q)⟩
  · obtain ⟨Rs, h1, h2⟩ := kf z
    exact ⟨Rs, h1, ex_if_eq hd ht (fun q => absurd q z) (fun _ => h2)⟩
theorem wp_icmp_eq {scr : Option (Nat × (Nat → Int32))} {y : Nat} {Po : RT → Prop} {pc : Nat} {L : LL} {st : List VV} {K : KT} {I : IT} {J : JT} {F : FT} {x y2 : Int32} {off : Int} {tgt : Nat} (hd : decode (mB y) pc = .ok ((.if_icmp .eq off), 3)) (ht : (pc : Int) + off = (tgt : Int)) (kt : x = y2 → Wp scr y Po tgt L st K I J F) (kf : ¬ x = y2 → Wp scr y Po (pc + 3) L st K I J F) : Wp scr y Po pc L (vI y2 :: vI x :: st) K I J F := by
  by_cases z : x = y2
  · obtain ⟨Rs, h1, h2⟩ := kt z
    exact ⟨Rs, h1, ex_icmp_eq hd ht (fun _ => h2) (fun q => absurd z q)⟩
  · obtain ⟨Rs, h1, h2⟩ := kf z
    exact ⟨Rs, h1, ex_icmp_eq hd ht (fun q => absurd q z) (fun _ => h2)⟩
theorem wp_if_ne {scr : Option (Nat × (Nat → Int32))} {y : Nat} {Po : RT → Prop} {pc : Nat} {L : LL} {st : List VV} {K : KT} {I : IT} {J : JT} {F : FT} {x : Int32} {off : Int} {tgt : Nat} (hd : decode (mB y) pc = .ok ((.ifCond .ne off), 3)) (ht : (pc : Int) + off = (tgt : Int)) (kt : ¬ x = 0 → Wp scr y Po tgt L st K I J F) (kf : x = 0 → Wp scr y Po (pc + 3) L st K I J F) : Wp scr y Po pc L (vI x :: st) K I J F := by
  by_cases z : x = 0
  · obtain ⟨Rs, h1, h2⟩ := kf z
    exact ⟨Rs, h1, ex_if_ne hd ht (fun q => absurd z q) (fun _ => h2)⟩
  · obtain ⟨Rs, h1, h2⟩ := kt z
    exact ⟨Rs, h1, ex_if_ne hd ht (fun _ => h2) (fun q => absurd q z)⟩
theorem wp_icmp_ne {scr : Option (Nat × (Nat → Int32))} {y : Nat} {Po : RT → Prop} {pc : Nat} {L : LL} {st : List VV} {K : KT} {I : IT} {J : JT} {F : FT} {x y2 : Int32} {off : Int} {tgt : Nat} (hd : decode (mB y) pc = .ok ((.if_icmp .ne off), 3)) (ht : (pc : Int) + off = (tgt : Int)) (kt : ¬ x = y2 → Wp scr y Po tgt L st K I J F) (kf : x = y2 → Wp scr y Po (pc + 3) L st K I J F) : Wp scr y Po pc L (vI y2 :: vI x :: st) K I J F := by
  by_cases z : x = y2
  · obtain ⟨Rs, h1, h2⟩ := kf z
    exact ⟨Rs, h1, ex_icmp_ne hd ht (fun q => absurd z q) (fun _ => h2)⟩
  · obtain ⟨Rs, h1, h2⟩ := kt z
    exact ⟨Rs, h1, ex_icmp_ne hd ht (fun _ => h2) (fun q => absurd q z)⟩
theorem wp_if_lt {scr : Option (Nat × (Nat → Int32))} {y : Nat} {Po : RT → Prop} {pc : Nat} {L : LL} {st : List VV} {K : KT} {I : IT} {J : JT} {F : FT} {x : Int32} {off : Int} {tgt : Nat} (hd : decode (mB y) pc = .ok ((.ifCond .lt off), 3)) (ht : (pc : Int) + off = (tgt : Int)) (kt : x < 0 → Wp scr y Po tgt L st K I J F) (kf : ¬ x < 0 → Wp scr y Po (pc + 3) L st K I J F) : Wp scr y Po pc L (vI x :: st) K I J F := by
  by_cases z : x < 0
  · obtain ⟨Rs, h1, h2⟩ := kt z
    exact ⟨Rs, h1, ex_if_lt hd ht (fun _ => h2) (fun q => absurd z q)⟩
  · obtain ⟨Rs, h1, h2⟩ := kf z
    exact ⟨Rs, h1, ex_if_lt hd ht (fun q => absurd q z) (fun _ => h2)⟩
theorem wp_icmp_lt {scr : Option (Nat × (Nat → Int32))} {y : Nat} {Po : RT → Prop} {pc : Nat} {L : LL} {st : List VV} {K : KT} {I : IT} {J : JT} {F : FT} {x y2 : Int32} {off : Int} {tgt : Nat} (hd : decode (mB y) pc = .ok ((.if_icmp .lt off), 3)) (ht : (pc : Int) + off = (tgt : Int)) (kt : x < y2 → Wp scr y Po tgt L st K I J F) (kf : ¬ x < y2 → Wp scr y Po (pc + 3) L st K I J F) : Wp scr y Po pc L (vI y2 :: vI x :: st) K I J F := by
  by_cases z : x < y2
  · obtain ⟨Rs, h1, h2⟩ := kt z
    exact ⟨Rs, h1, ex_icmp_lt hd ht (fun _ => h2) (fun q => absurd z q)⟩
  · obtain ⟨Rs, h1, h2⟩ := kf z
    exact ⟨Rs, h1, ex_icmp_lt hd ht (fun q => absurd q z) (fun _ => h2)⟩
theorem wp_if_ge {scr : Option (Nat × (Nat → Int32))} {y : Nat} {Po : RT → Prop} {pc : Nat} {L : LL} {st : List VV} {K : KT} {I : IT} {J : JT} {F : FT} {x : Int32} {off : Int} {tgt : Nat} (hd : decode (mB y) pc = .ok ((.ifCond .ge off), 3)) (ht : (pc : Int) + off = (tgt : Int)) (kt : 0 ≤ x → Wp scr y Po tgt L st K I J F) (kf : ¬ 0 ≤ x → Wp scr y Po (pc + 3) L st K I J F) : Wp scr y Po pc L (vI x :: st) K I J F := by
  by_cases z : 0 ≤ x
  · obtain ⟨Rs, h1, h2⟩ := kt z
    exact ⟨Rs, h1, ex_if_ge hd ht (fun _ => h2) (fun q => absurd z q)⟩
  · obtain ⟨Rs, h1, h2⟩ := kf z
    exact ⟨Rs, h1, ex_if_ge hd ht (fun q => absurd q z) (fun _ => h2)⟩
theorem wp_icmp_ge {scr : Option (Nat × (Nat → Int32))} {y : Nat} {Po : RT → Prop} {pc : Nat} {L : LL} {st : List VV} {K : KT} {I : IT} {J : JT} {F : FT} {x y2 : Int32} {off : Int} {tgt : Nat} (hd : decode (mB y) pc = .ok ((.if_icmp .ge off), 3)) (ht : (pc : Int) + off = (tgt : Int)) (kt : y2 ≤ x → Wp scr y Po tgt L st K I J F) (kf : ¬ y2 ≤ x → Wp scr y Po (pc + 3) L st K I J F) : Wp scr y Po pc L (vI y2 :: vI x :: st) K I J F := by
  by_cases z : y2 ≤ x
  · obtain ⟨Rs, h1, h2⟩ := kt z
    exact ⟨Rs, h1, ex_icmp_ge hd ht (fun _ => h2) (fun q => absurd z q)⟩
  · obtain ⟨Rs, h1, h2⟩ := kf z
    exact ⟨Rs, h1, ex_icmp_ge hd ht (fun q => absurd q z) (fun _ => h2)⟩
theorem wp_if_gt {scr : Option (Nat × (Nat → Int32))} {y : Nat} {Po : RT → Prop} {pc : Nat} {L : LL} {st : List VV} {K : KT} {I : IT} {J : JT} {F : FT} {x : Int32} {off : Int} {tgt : Nat} (hd : decode (mB y) pc = .ok ((.ifCond .gt off), 3)) (ht : (pc : Int) + off = (tgt : Int)) (kt : 0 < x → Wp scr y Po tgt L st K I J F) (kf : ¬ 0 < x → Wp scr y Po (pc + 3) L st K I J F) : Wp scr y Po pc L (vI x :: st) K I J F := by
  by_cases z : 0 < x
  · obtain ⟨Rs, h1, h2⟩ := kt z
    exact ⟨Rs, h1, ex_if_gt hd ht (fun _ => h2) (fun q => absurd z q)⟩
  · obtain ⟨Rs, h1, h2⟩ := kf z
    exact ⟨Rs, h1, ex_if_gt hd ht (fun q => absurd q z) (fun _ => h2)⟩
theorem wp_icmp_gt {scr : Option (Nat × (Nat → Int32))} {y : Nat} {Po : RT → Prop} {pc : Nat} {L : LL} {st : List VV} {K : KT} {I : IT} {J : JT} {F : FT} {x y2 : Int32} {off : Int} {tgt : Nat} (hd : decode (mB y) pc = .ok ((.if_icmp .gt off), 3)) (ht : (pc : Int) + off = (tgt : Int)) (kt : y2 < x → Wp scr y Po tgt L st K I J F) (kf : ¬ y2 < x → Wp scr y Po (pc + 3) L st K I J F) : Wp scr y Po pc L (vI y2 :: vI x :: st) K I J F := by
  by_cases z : y2 < x
  · obtain ⟨Rs, h1, h2⟩ := kt z
    exact ⟨Rs, h1, ex_icmp_gt hd ht (fun _ => h2) (fun q => absurd z q)⟩
  · obtain ⟨Rs, h1, h2⟩ := kf z
    exact ⟨Rs, h1, ex_icmp_gt hd ht (fun q => absurd q z) (fun _ => h2)⟩
theorem wp_if_le {scr : Option (Nat × (Nat → Int32))} {y : Nat} {Po : RT → Prop} {pc : Nat} {L : LL} {st : List VV} {K : KT} {I : IT} {J : JT} {F : FT} {x : Int32} {off : Int} {tgt : Nat} (hd : decode (mB y) pc = .ok ((.ifCond .le off), 3)) (ht : (pc : Int) + off = (tgt : Int)) (kt : x ≤ 0 → Wp scr y Po tgt L st K I J F) (kf : ¬ x ≤ 0 → Wp scr y Po (pc + 3) L st K I J F) : Wp scr y Po pc L (vI x :: st) K I J F := by
  by_cases z : x ≤ 0
  · obtain ⟨Rs, h1, h2⟩ := kt z
    exact ⟨Rs, h1, ex_if_le hd ht (fun _ => h2) (fun q => absurd z q)⟩
  · obtain ⟨Rs, h1, h2⟩ := kf z
    exact ⟨Rs, h1, ex_if_le hd ht (fun q => absurd q z) (fun _ => h2)⟩
theorem wp_icmp_le {scr : Option (Nat × (Nat → Int32))} {y : Nat} {Po : RT → Prop} {pc : Nat} {L : LL} {st : List VV} {K : KT} {I : IT} {J : JT} {F : FT} {x y2 : Int32} {off : Int} {tgt : Nat} (hd : decode (mB y) pc = .ok ((.if_icmp .le off), 3)) (ht : (pc : Int) + off = (tgt : Int)) (kt : x ≤ y2 → Wp scr y Po tgt L st K I J F) (kf : ¬ x ≤ y2 → Wp scr y Po (pc + 3) L st K I J F) : Wp scr y Po pc L (vI y2 :: vI x :: st) K I J F := by
  by_cases z : x ≤ y2
  · obtain ⟨Rs, h1, h2⟩ := kt z
    exact ⟨Rs, h1, ex_icmp_le hd ht (fun _ => h2) (fun q => absurd z q)⟩
  · obtain ⟨Rs, h1, h2⟩ := kf z
    exact ⟨Rs, h1, ex_icmp_le hd ht (fun q => absurd q z) (fun _ => h2)⟩
theorem wp_goto {scr : Option (Nat × (Nat → Int32))} {y : Nat} {Po : RT → Prop} {pc : Nat} {L : LL} {st : List VV} {K : KT} {I : IT} {J : JT} {F : FT} {off : Int} {tgt : Nat} (hd : decode (mB y) pc = .ok ((.goto off), 3)) (ht : (pc : Int) + off = (tgt : Int)) (k : Wp scr y Po tgt L st K I J F) : Wp scr y Po pc L st K I J F := by
  obtain ⟨Rs, g1, g2⟩ := k
  exact ⟨Rs, g1, ex_goto hd ht g2⟩
theorem wp_ifnonnull {scr : Option (Nat × (Nat → Int32))} {y : Nat} {Po : RT → Prop} {pc : Nat} {L : LL} {st : List VV} {K : KT} {I : IT} {J : JT} {F : FT} {x : Nat} {off : Int} {tgt : Nat} (hd : decode (mB y) pc = .ok ((.ifnonnull off), 3)) (ht : (pc : Int) + off = (tgt : Int)) (k : Wp scr y Po tgt L st K I J F) : Wp scr y Po pc L (vR x :: st) K I J F := by
  obtain ⟨Rs, g1, g2⟩ := k
  exact ⟨Rs, g1, ex_ifnonnull hd ht g2⟩
theorem wp_tabOut {scr : Option (Nat × (Nat → Int32))} {y : Nat} {Po : RT → Prop} {pc : Nat} {L : LL} {st : List VV} {K : KT} {I : IT} {J : JT} {F : FT} {x : Int32} {d lo hi : Int} {offs : Array Int} {len tgt : Nat} (hd : decode (mB y) pc = .ok (.tableswitch d lo hi offs, len)) (hh : x.toInt < lo ∨ hi < x.toInt) (ht : (pc : Int) + d = (tgt : Int)) (k : Wp scr y Po tgt L st K I J F) : Wp scr y Po pc L (vI x :: st) K I J F := by
  obtain ⟨Rs, g1, g2⟩ := k
  exact ⟨Rs, g1, ex_tabOut hd hh ht g2⟩
theorem wp_tabIn {scr : Option (Nat × (Nat → Int32))} {y : Nat} {Po : RT → Prop} {pc : Nat} {L : LL} {st : List VV} {K : KT} {I : IT} {J : JT} {F : FT} {x : Int32} {d lo hi off : Int} {offs : Array Int} {len tgt : Nat} (hd : decode (mB y) pc = .ok (.tableswitch d lo hi offs, len)) (h1 : ¬ x.toInt < lo) (h2 : ¬ hi < x.toInt) (ho : offs[(x.toInt - lo).toNat]? = some off) (ht : (pc : Int) + off = (tgt : Int)) (k : Wp scr y Po tgt L st K I J F) : Wp scr y Po pc L (vI x :: st) K I J F := by
  obtain ⟨Rs, g1, g2⟩ := k
  exact ⟨Rs, g1, ex_tabIn hd h1 h2 ho ht g2⟩
theorem wp_mmax {scr : Option (Nat × (Nat → Int32))} {y : Nat} {Po : RT → Prop} {pc : Nat} {L : LL} {st : List VV} {K : KT} {I : IT} {J : JT} {F : FT} {x y2 : Int32} {i : Nat} (hd : decode (mB y) pc = .ok ((.invokestatic i), 3)) (hw : Cond.methodLink (mN y).cls i Lib.Math.max.name ∈ gg_GW) (hs : vcats st ≤ 8) (k : Wp scr y Po (pc + 3) L (vI (if x < y2 then y2 else x) :: st) K I J F) : Wp scr y Po pc L (vI y2 :: vI x :: st) K I J F := by
  obtain ⟨Rs, g1, g2⟩ := k
  exact ⟨Rs, g1, ex_mmax hd hw hs g2⟩
theorem wp_mmin {scr : Option (Nat × (Nat → Int32))} {y : Nat} {Po : RT → Prop} {pc : Nat} {L : LL} {st : List VV} {K : KT} {I : IT} {J : JT} {F : FT} {x y2 : Int32} {i : Nat} (hd : decode (mB y) pc = .ok ((.invokestatic i), 3)) (hw : Cond.methodLink (mN y).cls i Lib.Math.min.name ∈ gg_GW) (hs : vcats st ≤ 8) (k : Wp scr y Po (pc + 3) L (vI (if y2 < x then y2 else x) :: st) K I J F) : Wp scr y Po pc L (vI y2 :: vI x :: st) K I J F := by
  obtain ⟨Rs, g1, g2⟩ := k
  exact ⟨Rs, g1, ex_mmin hd hw hs g2⟩
theorem wp_mlmax {scr : Option (Nat × (Nat → Int32))} {y : Nat} {Po : RT → Prop} {pc : Nat} {L : LL} {st : List VV} {K : KT} {I : IT} {J : JT} {F : FT} {x y2 : Int64} {i : Nat} (hd : decode (mB y) pc = .ok ((.invokestatic i), 3)) (hw : Cond.methodLink (mN y).cls i Lib.MathLoose.max_long.x ∈ gg_GW) (hs : vcats st ≤ 8) (k : Wp scr y Po (pc + 3) L (vL (if y2 < x then x else y2) :: st) K I J F) : Wp scr y Po pc L (vL y2 :: vL x :: st) K I J F := by
  obtain ⟨Rs, g1, g2⟩ := k
  exact ⟨Rs, g1, ex_mlmax hd hw hs g2⟩
theorem wp_objInit {scr : Option (Nat × (Nat → Int32))} {y : Nat} {Po : RT → Prop} {pc : Nat} {L : LL} {st : List VV} {K : KT} {I : IT} {J : JT} {F : FT} {a i : Nat} (hd : decode (mB y) pc = .ok ((.invokespecial i), 3)) (hw : Cond.methodLink (mN y).cls i objectInit ∈ gg_GW) (hs : vcats st ≤ 8) (k : Wp scr y Po (pc + 3) L st K I J F) : Wp scr y Po pc L (vR a :: st) K I J F := by
  obtain ⟨Rs, g1, g2⟩ := k
  exact ⟨Rs, g1, ex_objInit hd hw hs g2⟩
theorem wp_getI {scr : Option (Nat × (Nat → Int32))} {y : Nat} {Po : RT → Prop} {pc : Nat} {L : LL} {st : List VV} {K : KT} {I : IT} {J : JT} {F : FT} {a i ci q n : Nat} (hd : decode (mB y) pc = .ok ((.getfield i), 3)) (hf : gg_FL (mN y).cls i ci q) (hk : K[a]? = some (ci, n)) (hq : fty ci q = 0) (k : Wp scr y Po (pc + 3) L (vI (I a q) :: st) K I J F) : Wp scr y Po pc L (vR a :: st) K I J F := by
  obtain ⟨Rs, g1, g2⟩ := k
  exact ⟨Rs, g1, ex_getI hd hf hk hq g2⟩
theorem wp_getL {scr : Option (Nat × (Nat → Int32))} {y : Nat} {Po : RT → Prop} {pc : Nat} {L : LL} {st : List VV} {K : KT} {I : IT} {J : JT} {F : FT} {a i ci q n : Nat} (hd : decode (mB y) pc = .ok ((.getfield i), 3)) (hf : gg_FL (mN y).cls i ci q) (hk : K[a]? = some (ci, n)) (hq : fty ci q = 1) (k : Wp scr y Po (pc + 3) L (vL (J a q) :: st) K I J F) : Wp scr y Po pc L (vR a :: st) K I J F := by
  obtain ⟨Rs, g1, g2⟩ := k
  exact ⟨Rs, g1, ex_getL hd hf hk hq g2⟩
theorem wp_getR {scr : Option (Nat × (Nat → Int32))} {y : Nat} {Po : RT → Prop} {pc : Nat} {L : LL} {st : List VV} {K : KT} {I : IT} {J : JT} {F : FT} {a i ci q n : Nat} (hd : decode (mB y) pc = .ok ((.getfield i), 3)) (hf : gg_FL (mN y).cls i ci q) (hk : K[a]? = some (ci, n)) (hq : fty ci q = 2) (k : Wp scr y Po (pc + 3) L (vQ (F a q) :: st) K I J F) : Wp scr y Po pc L (vR a :: st) K I J F := by
  obtain ⟨Rs, g1, g2⟩ := k
  exact ⟨Rs, g1, ex_getR hd hf hk hq g2⟩
theorem wp_putI {scr : Option (Nat × (Nat → Int32))} {y : Nat} {Po : RT → Prop} {pc : Nat} {L : LL} {st : List VV} {K : KT} {I : IT} {J : JT} {F : FT} {a i ci q n : Nat} {x : Int32} (hd : decode (mB y) pc = .ok ((.putfield i), 3)) (hf : gg_FL (mN y).cls i ci q) (hk : K[a]? = some (ci, n)) (hq : fty ci q = 0) (hfin : ((vwCl.getD ci ("", fun _ => ("", "", "", false), 0)).2.1 q).2.2.2 = false) (k : Wp scr y Po (pc + 3) L st K (va_up I a (upd (I a) q x)) J F) : Wp scr y Po pc L (vI x :: vR a :: st) K I J F := by
  obtain ⟨Rs, g1, g2⟩ := k
  exact ⟨Rs, g1, ex_putI hd hf hk hq hfin g2⟩
theorem wp_putL {scr : Option (Nat × (Nat → Int32))} {y : Nat} {Po : RT → Prop} {pc : Nat} {L : LL} {st : List VV} {K : KT} {I : IT} {J : JT} {F : FT} {a i ci q n : Nat} {x : Int64} (hd : decode (mB y) pc = .ok ((.putfield i), 3)) (hf : gg_FL (mN y).cls i ci q) (hk : K[a]? = some (ci, n)) (hq : fty ci q = 1) (hfin : ((vwCl.getD ci ("", fun _ => ("", "", "", false), 0)).2.1 q).2.2.2 = false) (k : Wp scr y Po (pc + 3) L st K I (va_up J a (vp_updL (J a) q x)) F) : Wp scr y Po pc L (vL x :: vR a :: st) K I J F := by
  obtain ⟨Rs, g1, g2⟩ := k
  exact ⟨Rs, g1, ex_putL hd hf hk hq hfin g2⟩
theorem wp_putF {scr : Option (Nat × (Nat → Int32))} {y : Nat} {Po : RT → Prop} {pc : Nat} {L : LL} {st : List VV} {K : KT} {I : IT} {J : JT} {F : FT} {a i ci q n x : Nat} (hd : decode (mB y) pc = .ok ((.putfield i), 3)) (hin : (mN y).name = "<init>") (hf : gg_FL (mN y).cls i ci q) (hk : K[a]? = some (ci, n)) (hq : fty ci q = 2) (hfin : ((vwCl.getD ci ("", fun _ => ("", "", "", false), 0)).2.1 q).2.2.2 = true) (hdc : ((vwCl.getD ci ("", fun _ => ("", "", "", false), 0)).2.1 q).1 = (mN y).cls) (k : Wp scr y Po (pc + 3) L st K I J (va_up F a (va_up (F a) q (some x)))) : Wp scr y Po pc L (vR x :: vR a :: st) K I J F := by
  obtain ⟨Rs, g1, g2⟩ := k
  exact ⟨Rs, g1, ex_putF hd hin hf hk hq hfin hdc g2⟩
theorem wp_iald {scr : Option (Nat × (Nat → Int32))} {y : Nat} {Po : RT → Prop} {pc : Nat} {L : LL} {st : List VV} {K : KT} {I : IT} {J : JT} {F : FT} {a n : Nat} {i : Int32} (hd : decode (mB y) pc = .ok (.iaload, 1)) (hk : K[a]? = some (10, n)) (hin : vp_in i n) (k : Wp scr y Po (pc + 1) L (vI (I a i.toNatClampNeg) :: st) K I J F) : Wp scr y Po pc L (vI i :: vR a :: st) K I J F := by
  obtain ⟨Rs, g1, g2⟩ := k
  exact ⟨Rs, g1, ex_iald hd hk hin g2⟩
theorem wp_zald {scr : Option (Nat × (Nat → Int32))} {y : Nat} {Po : RT → Prop} {pc : Nat} {L : LL} {st : List VV} {K : KT} {I : IT} {J : JT} {F : FT} {a n : Nat} {i : Int32} (hd : decode (mB y) pc = .ok (.baload, 1)) (hk : K[a]? = some (11, n)) (hin : vp_in i n) (k : Wp scr y Po (pc + 1) L (vI (I a i.toNatClampNeg) :: st) K I J F) : Wp scr y Po pc L (vI i :: vR a :: st) K I J F := by
  obtain ⟨Rs, g1, g2⟩ := k
  exact ⟨Rs, g1, ex_zald hd hk hin g2⟩
theorem wp_aald {scr : Option (Nat × (Nat → Int32))} {y : Nat} {Po : RT → Prop} {pc : Nat} {L : LL} {st : List VV} {K : KT} {I : IT} {J : JT} {F : FT} {a n : Nat} {i : Int32} (hd : decode (mB y) pc = .ok (.aaload, 1)) (hk : K[a]? = some (12, n)) (hin : vp_in i n) (k : Wp scr y Po (pc + 1) L (vQ (F a i.toNatClampNeg) :: st) K I J F) : Wp scr y Po pc L (vI i :: vR a :: st) K I J F := by
  obtain ⟨Rs, g1, g2⟩ := k
  exact ⟨Rs, g1, ex_aald hd hk hin g2⟩
theorem wp_alen {scr : Option (Nat × (Nat → Int32))} {y : Nat} {Po : RT → Prop} {pc : Nat} {L : LL} {st : List VV} {K : KT} {I : IT} {J : JT} {F : FT} {a ci n : Nat} (hd : decode (mB y) pc = .ok (.arraylength, 1)) (hk : K[a]? = some (ci, n)) (hci : 10 ≤ ci ∧ ci < 13) (k : Wp scr y Po (pc + 1) L (vI (Int32.ofNat n) :: st) K I J F) : Wp scr y Po pc L (vR a :: st) K I J F := by
  obtain ⟨Rs, g1, g2⟩ := k
  exact ⟨Rs, g1, ex_alen hd hk hci g2⟩
theorem wp_iast {scr : Option (Nat × (Nat → Int32))} {y : Nat} {Po : RT → Prop} {pc : Nat} {L : LL} {st : List VV} {K : KT} {I : IT} {J : JT} {F : FT} {a n : Nat} {i x : Int32} (hd : decode (mB y) pc = .ok (.iastore, 1)) (hk : K[a]? = some (10, n)) (hin : vp_in i n) (k : Wp scr y Po (pc + 1) L st K (va_up I a (upd (I a) i.toNatClampNeg x)) J F) : Wp scr y Po pc L (vI x :: vI i :: vR a :: st) K I J F := by
  obtain ⟨Rs, g1, g2⟩ := k
  exact ⟨Rs, g1, ex_iast hd hk hin g2⟩
theorem wp_zast {scr : Option (Nat × (Nat → Int32))} {y : Nat} {Po : RT → Prop} {pc : Nat} {L : LL} {st : List VV} {K : KT} {I : IT} {J : JT} {F : FT} {a n : Nat} {i x : Int32} (hd : decode (mB y) pc = .ok (.bastore, 1)) (hk : K[a]? = some (11, n)) (hin : vp_in i n) (hx01 : x = 0 ∨ x = 1) (k : Wp scr y Po (pc + 1) L st K (va_up I a (upd (I a) i.toNatClampNeg x)) J F) : Wp scr y Po pc L (vI x :: vI i :: vR a :: st) K I J F := by
  obtain ⟨Rs, g1, g2⟩ := k
  exact ⟨Rs, g1, ex_zast hd hk hin hx01 g2⟩
theorem wp_aast {scr : Option (Nat × (Nat → Int32))} {y : Nat} {Po : RT → Prop} {pc : Nat} {L : LL} {st : List VV} {K : KT} {I : IT} {J : JT} {F : FT} {a n x n2 : Nat} {i : Int32} (hd : decode (mB y) pc = .ok (.aastore, 1)) (hk : K[a]? = some (12, n)) (hin : vp_in i n) (hkx : K[x]? = some (7, n2)) (k : Wp scr y Po (pc + 1) L st K I J (va_up F a (va_up (F a) i.toNatClampNeg (some x)))) : Wp scr y Po pc L (vR x :: vI i :: vR a :: st) K I J F := by
  obtain ⟨Rs, g1, g2⟩ := k
  exact ⟨Rs, g1, ex_aast hd hk hin hkx g2⟩
theorem wp_sld {scr : Option (Nat × (Nat → Int32))} {y : Nat} {Po : RT → Prop} {pc : Nat} {L : LL} {st : List VV} {K : KT} {I : IT} {J : JT} {F : FT} {n : Nat} {i : Int32} {xs : Nat → Int32} (hd : decode (mB y) pc = .ok (.iaload, 1)) (hs : scr = some (n, xs)) (hin : vp_in i n) (k : Wp scr y Po (pc + 1) L (vI (xs i.toNatClampNeg) :: st) K I J F) : Wp scr y Po pc L (vI i :: vR 0 :: st) K I J F := by
  obtain ⟨Rs, g1, g2⟩ := k
  exact ⟨Rs, g1, ex_sld hd hs hin g2⟩
theorem wp_slen {scr : Option (Nat × (Nat → Int32))} {y : Nat} {Po : RT → Prop} {pc : Nat} {L : LL} {st : List VV} {K : KT} {I : IT} {J : JT} {F : FT} {n : Nat} {xs : Nat → Int32} (hd : decode (mB y) pc = .ok (.arraylength, 1)) (hs : scr = some (n, xs)) (k : Wp scr y Po (pc + 1) L (vI (Int32.ofNat n) :: st) K I J F) : Wp scr y Po pc L (vR 0 :: st) K I J F := by
  obtain ⟨Rs, g1, g2⟩ := k
  exact ⟨Rs, g1, ex_slen hd hs g2⟩
theorem wp_new {scr : Option (Nat × (Nat → Int32))} {y : Nat} {Po : RT → Prop} {pc : Nat} {L : LL} {st : List VV} {K : KT} {I : IT} {J : JT} {F : FT} {i ci : Nat} {Cn : String} {T : u_T} {n : Nat} (hd : decode (mB y) pc = .ok ((.new i), 3)) (hcl : vwCl[ci]? = some (Cn, T, n)) (hw : Cond.classLink (mN y).cls i Cn ∈ gg_GW) (k : Wp scr y Po (pc + 3) L (vR K.length :: st) (K ++ [(ci, 0)]) (va_up I K.length (fun _ => 0)) (va_up J K.length (fun _ => 0)) (va_up F K.length (fun _ => none))) : Wp scr y Po pc L st K I J F := by
  obtain ⟨Rs, g1, g2⟩ := k
  exact ⟨Rs, g1, ex_new hd hcl hw g2⟩
theorem wp_newI {scr : Option (Nat × (Nat → Int32))} {y : Nat} {Po : RT → Prop} {pc : Nat} {L : LL} {st : List VV} {K : KT} {I : IT} {J : JT} {F : FT} {x : Int32} {n : Nat} (hd : decode (mB y) pc = .ok ((.newarray .int), 2)) (hx0 : ¬ x < 0) (hxn : x.toNatClampNeg = n) (hn9 : n ≤ 100000) (k : Wp scr y Po (pc + 2) L (vR K.length :: st) (K ++ [(10, n)]) (va_up I K.length (fun _ => 0)) J F) : Wp scr y Po pc L (vI x :: st) K I J F := by
  obtain ⟨Rs, g1, g2⟩ := k
  exact ⟨Rs, g1, ex_newI hd hx0 hxn hn9 g2⟩
theorem wp_newZ {scr : Option (Nat × (Nat → Int32))} {y : Nat} {Po : RT → Prop} {pc : Nat} {L : LL} {st : List VV} {K : KT} {I : IT} {J : JT} {F : FT} {x : Int32} {n : Nat} (hd : decode (mB y) pc = .ok ((.newarray .boolean), 2)) (hx0 : ¬ x < 0) (hxn : x.toNatClampNeg = n) (hn9 : n ≤ 100000) (k : Wp scr y Po (pc + 2) L (vR K.length :: st) (K ++ [(11, n)]) (va_up I K.length (fun _ => 0)) J F) : Wp scr y Po pc L (vI x :: st) K I J F := by
  obtain ⟨Rs, g1, g2⟩ := k
  exact ⟨Rs, g1, ex_newZ hd hx0 hxn hn9 g2⟩
theorem wp_newA {scr : Option (Nat × (Nat → Int32))} {y : Nat} {Po : RT → Prop} {pc : Nat} {L : LL} {st : List VV} {K : KT} {I : IT} {J : JT} {F : FT} {x : Int32} {n i : Nat} (hd : decode (mB y) pc = .ok ((.anewarray i), 3)) (hw : Cond.classLink (mN y).cls i "GutterGardens$Waters" ∈ gg_GW) (hx0 : ¬ x < 0) (hxn : x.toNatClampNeg = n) (hn9 : n ≤ 100000) (k : Wp scr y Po (pc + 3) L (vR K.length :: st) (K ++ [(12, n)]) I J (va_up F K.length (fun _ => none))) : Wp scr y Po pc L (vI x :: st) K I J F := by
  obtain ⟨Rs, g1, g2⟩ := k
  exact ⟨Rs, g1, ex_newA hd hw hx0 hxn hn9 g2⟩
theorem wp_callV {scr : Option (Nat × (Nat → Int32))} {y : Nat} {Po : RT → Prop} {pc : Nat} {L : LL} {st : List VV} {K : KT} {I : IT} {J : JT} {F : FT} {ci n : Nat} {T : u_T} {n3 : Nat} {a : Nat} {i y2 : Nat} {as : List VV} {Pc : RT → Prop} (hd : decode (mB y) pc = .ok ((.invokevirtual i), 3)) (hl : gg_CV (mN y).cls i y2) (hm : mK y2 < mK y) (hn : as.length = mA y2) (hs : vcats st ≤ 8) (hk : K[a]? = some (ci, n)) (hcl : vwCl[ci]? = some ((mN y2).cls, T, n3)) (hC : Sp y2 (vR a :: as) K I J F Pc) (k : ∀ (r : Option VV) (K2 : KT) (I2 : IT) (J2 : JT) (F2 : FT), Pc (r, K2, I2, J2, F2) → Wp scr y Po (pc + 3) L (r.toList ++ st) K2 I2 J2 F2) : Wp scr y Po pc L (as.reverse ++ vR a :: st) K I J F := by
  obtain ⟨⟨r, K2, I2, J2, F2⟩, h1, h2⟩ := hC
  obtain ⟨Rs, h3, h4⟩ := k r K2 I2 J2 F2 h1
  exact ⟨Rs, h3, ex_callV hd hl hm hn hs hk hcl h2 h4⟩
theorem wp_callS {scr : Option (Nat × (Nat → Int32))} {y : Nat} {Po : RT → Prop} {pc : Nat} {L : LL} {st : List VV} {K : KT} {I : IT} {J : JT} {F : FT} {i y2 : Nat} {as : List VV} {Pc : RT → Prop} (hd : decode (mB y) pc = .ok ((.invokestatic i), 3)) (hl : gg_CS (mN y).cls i y2) (hm : mK y2 < mK y) (hn : as.length = mA y2) (hs : vcats st ≤ 8) (hC : Sp y2 as K I J F Pc) (k : ∀ (r : Option VV) (K2 : KT) (I2 : IT) (J2 : JT) (F2 : FT), Pc (r, K2, I2, J2, F2) → Wp scr y Po (pc + 3) L (r.toList ++ st) K2 I2 J2 F2) : Wp scr y Po pc L (as.reverse ++ st) K I J F := by
  obtain ⟨⟨r, K2, I2, J2, F2⟩, h1, h2⟩ := hC
  obtain ⟨Rs, h3, h4⟩ := k r K2 I2 J2 F2 h1
  exact ⟨Rs, h3, ex_callS hd hl hm hn hs h2 h4⟩
theorem wp_callSN {scr : Option (Nat × (Nat → Int32))} {y : Nat} {Po : RT → Prop} {pc : Nat} {L : LL} {st : List VV} {K : KT} {I : IT} {J : JT} {F : FT} {i y2 : Nat} {as : List VV} {Pc : RT → Prop} (hd : decode (mB y) pc = .ok ((.invokestatic i), 3)) (hl : gg_CSN (mN y).cls i y2) (hm : mK y2 < mK y) (hn : as.length = mA y2) (hs : vcats st ≤ 8) (hC : Sp y2 as K I J F Pc) (k : ∀ (r : Option VV) (K2 : KT) (I2 : IT) (J2 : JT) (F2 : FT), Pc (r, K2, I2, J2, F2) → Wp scr y Po (pc + 3) L (r.toList ++ st) K2 I2 J2 F2) : Wp scr y Po pc L (as.reverse ++ st) K I J F := by
  obtain ⟨⟨r, K2, I2, J2, F2⟩, h1, h2⟩ := hC
  obtain ⟨Rs, h3, h4⟩ := k r K2 I2 J2 F2 h1
  exact ⟨Rs, h3, ex_callSN hd hl hm hn hs h2 h4⟩
theorem wp_callI {scr : Option (Nat × (Nat → Int32))} {y : Nat} {Po : RT → Prop} {pc : Nat} {L : LL} {st : List VV} {K : KT} {I : IT} {J : JT} {F : FT} {a : Nat} {i y2 : Nat} {as : List VV} {Pc : RT → Prop} (hd : decode (mB y) pc = .ok ((.invokespecial i), 3)) (hl : gg_CI (mN y).cls i y2) (hm : mK y2 < mK y) (hn : as.length = mA y2) (hs : vcats st ≤ 8) (hC : Sp y2 (vR a :: as) K I J F Pc) (k : ∀ (r : Option VV) (K2 : KT) (I2 : IT) (J2 : JT) (F2 : FT), Pc (r, K2, I2, J2, F2) → Wp scr y Po (pc + 3) L (r.toList ++ st) K2 I2 J2 F2) : Wp scr y Po pc L (as.reverse ++ vR a :: st) K I J F := by
  obtain ⟨⟨r, K2, I2, J2, F2⟩, h1, h2⟩ := hC
  obtain ⟨Rs, h3, h4⟩ := k r K2 I2 J2 F2 h1
  exact ⟨Rs, h3, ex_callI hd hl hm hn hs h2 h4⟩
theorem wp_callIN {scr : Option (Nat × (Nat → Int32))} {y : Nat} {Po : RT → Prop} {pc : Nat} {L : LL} {st : List VV} {K : KT} {I : IT} {J : JT} {F : FT} {a : Nat} {i y2 : Nat} {as : List VV} {Pc : RT → Prop} (hd : decode (mB y) pc = .ok ((.invokespecial i), 3)) (hl : gg_CIN (mN y).cls i y2) (hm : mK y2 < mK y) (hn : as.length = mA y2) (hs : vcats st ≤ 8) (hC : Sp y2 (vR a :: as) K I J F Pc) (k : ∀ (r : Option VV) (K2 : KT) (I2 : IT) (J2 : JT) (F2 : FT), Pc (r, K2, I2, J2, F2) → Wp scr y Po (pc + 3) L (r.toList ++ st) K2 I2 J2 F2) : Wp scr y Po pc L (as.reverse ++ vR a :: st) K I J F := by
  obtain ⟨⟨r, K2, I2, J2, F2⟩, h1, h2⟩ := hC
  obtain ⟨Rs, h3, h4⟩ := k r K2 I2 J2 F2 h1
  exact ⟨Rs, h3, ex_callIN hd hl hm hn hs h2 h4⟩
theorem wp_iret {scr : Option (Nat × (Nat → Int32))} {y : Nat} {Po : RT → Prop} {pc : Nat} {L : LL} {K : KT} {I : IT} {J : JT} {F : FT} {x : Int32} (hd : decode (mB y) pc = .ok (.ireturn, 1)) (hr : rokI y x) (hP : Po (some (vI x), K, I, J, F)) : Wp scr y Po pc L [vI x] K I J F := ⟨_, hP, ex_iret hd hr rfl⟩
theorem wp_lret {scr : Option (Nat × (Nat → Int32))} {y : Nat} {Po : RT → Prop} {pc : Nat} {L : LL} {K : KT} {I : IT} {J : JT} {F : FT} {x : Int64} (hd : decode (mB y) pc = .ok (.lreturn, 1)) (hr : mR y = some .long) (hP : Po (some (vL x), K, I, J, F)) : Wp scr y Po pc L [vL x] K I J F := ⟨_, hP, ex_lret hd hr rfl⟩
theorem wp_aret {scr : Option (Nat × (Nat → Int32))} {y : Nat} {Po : RT → Prop} {pc : Nat} {L : LL} {K : KT} {I : IT} {J : JT} {F : FT} {x : Nat} (hd : decode (mB y) pc = .ok (.areturn, 1)) (hr : mR y = some (.object "GutterGardens$Waters") ∨ mR y = some (.object "GutterGardens$Roofs")) (hP : Po (some (vR x), K, I, J, F)) : Wp scr y Po pc L [vR x] K I J F := ⟨_, hP, ex_aret hd hr rfl⟩
theorem wp_vret {scr : Option (Nat × (Nat → Int32))} {y : Nat} {Po : RT → Prop} {pc : Nat} {L : LL} {K : KT} {I : IT} {J : JT} {F : FT}  (hd : decode (mB y) pc = .ok (.return_, 1)) (hr : mR y = none) (hP : Po (none, K, I, J, F)) : Wp scr y Po pc L [] K I J F := ⟨_, hP, ex_vret hd hr rfl⟩
/-- one place of one row is written -/
def Up (I I2 : IT) (a q : Nat) (x : Int32) : Prop := (∀ j, I2 a j = if j = q then x else I a j) ∧ ∀ a', a' ≠ a → I2 a' = I a'
theorem Up.of {I : IT} {a q : Nat} {x : Int32} : Up I (va_up I a (upd (I a) q x)) a q x := by
  refine ⟨fun j => ?_, fun a' h => up_ne h⟩
  rw [up_eq]
  rfl
theorem Up.at {I I2 : IT} {a q : Nat} {x : Int32} (h : Up I I2 a q x) : I2 a q = x := by rw [h.1, if_pos rfl]
theorem Up.ne {I I2 : IT} {a q j : Nat} {x : Int32} (h : Up I I2 a q x) (hj : j ≠ q) : I2 a j = I a j := by rw [h.1, if_neg hj]
theorem Up.off {I I2 : IT} {a q a' j : Nat} {x : Int32} (h : Up I I2 a q x) (hj : a' ≠ a) : I2 a' j = I a' j := by rw [h.2 a' hj]
def b2 (p : Bool) : Int32 := if p then nI 1 else nI 0
theorem nI_gt0 {a : Nat} (ha : a < 2 ^ 31) : (0 : Int32) < nI a ↔ 0 < a := by rw [← nI_0]; exact nI_ltI (by decide) ha
theorem nI_le0 {a : Nat} (ha : a < 2 ^ 31) : nI a ≤ (0 : Int32) ↔ a = 0 := by rw [← nI_0, nI_leI ha (by decide)]; omega
theorem b2_eq0 {p : Bool} : b2 p = 0 ↔ p = false := by cases p <;> decide
theorem b2_01 (p : Bool) : b2 p = 0 ∨ b2 p = 1 := by cases p <;> decide
theorem wp_gA {scr : Option (Nat × (Nat → Int32))} {y : Nat} {Po : RT → Prop} {pc : Nat} {L : LL} {st : List VV} {K : KT} {I : IT} {J : JT} {F : FT} {a i ci q n b : Nat} (hd : decode (mB y) pc = .ok (.getfield i, 3)) (hf : gg_FL (mN y).cls i ci q) (hk : K[a]? = some (ci, n)) (hq : fty ci q = 2) (hb : F a q = some b) (k : Wp scr y Po (pc + 3) L (vR b :: st) K I J F) : Wp scr y Po pc L (vR a :: st) K I J F := wp_getR hd hf hk hq (by rw [hb]; exact k)
theorem wp_gI {scr : Option (Nat × (Nat → Int32))} {y : Nat} {Po : RT → Prop} {pc : Nat} {L : LL} {st : List VV} {K : KT} {I : IT} {J : JT} {F : FT} {a i ci q n : Nat} {x : Int32} (hd : decode (mB y) pc = .ok (.getfield i, 3)) (hf : gg_FL (mN y).cls i ci q) (hk : K[a]? = some (ci, n)) (hq : fty ci q = 0) (hv : I a q = x) (k : Wp scr y Po (pc + 3) L (vI x :: st) K I J F) : Wp scr y Po pc L (vR a :: st) K I J F := wp_getI hd hf hk hq (by rw [hv]; exact k)
theorem wp_gL {scr : Option (Nat × (Nat → Int32))} {y : Nat} {Po : RT → Prop} {pc : Nat} {L : LL} {st : List VV} {K : KT} {I : IT} {J : JT} {F : FT} {a i ci q n : Nat} {x : Int64} (hd : decode (mB y) pc = .ok (.getfield i, 3)) (hf : gg_FL (mN y).cls i ci q) (hk : K[a]? = some (ci, n)) (hq : fty ci q = 1) (hv : J a q = x) (k : Wp scr y Po (pc + 3) L (vL x :: st) K I J F) : Wp scr y Po pc L (vR a :: st) K I J F := wp_getL hd hf hk hq (by rw [hv]; exact k)
theorem wp_pI {scr : Option (Nat × (Nat → Int32))} {y : Nat} {Po : RT → Prop} {pc : Nat} {L : LL} {st : List VV} {K : KT} {I : IT} {J : JT} {F : FT} {a i ci q n : Nat} {x : Int32} (hd : decode (mB y) pc = .ok (.putfield i, 3)) (hf : gg_FL (mN y).cls i ci q) (hk : K[a]? = some (ci, n)) (hq : fty ci q = 0) (hfin : ((vwCl.getD ci ("", fun _ => ("", "", "", false), 0)).2.1 q).2.2.2 = false) (k : ∀ I2, Up I I2 a q x → Wp scr y Po (pc + 3) L st K I2 J F) : Wp scr y Po pc L (vI x :: vR a :: st) K I J F := wp_putI hd hf hk hq hfin (k _ Up.of)
theorem wp_aL {scr : Option (Nat × (Nat → Int32))} {y : Nat} {Po : RT → Prop} {pc : Nat} {L : LL} {st : List VV} {K : KT} {I : IT} {J : JT} {F : FT} {a n j : Nat} {x i : Int32} (hd : decode (mB y) pc = .ok (.iaload, 1)) (hk : K[a]? = some (10, n)) (hi : i = nI j) (hj : j < n) (hn : n < 2 ^ 31) (hv : I a j = x) (k : Wp scr y Po (pc + 1) L (vI x :: st) K I J F) : Wp scr y Po pc L (vI i :: vR a :: st) K I J F := wp_iald hd hk (by rw [hi]; exact vp_in_nI hj hn) (by rw [hi, nI_clamp (Nat.lt_trans hj hn), hv]; exact k)
theorem wp_zL {scr : Option (Nat × (Nat → Int32))} {y : Nat} {Po : RT → Prop} {pc : Nat} {L : LL} {st : List VV} {K : KT} {I : IT} {J : JT} {F : FT} {a n j : Nat} {x i : Int32} (hd : decode (mB y) pc = .ok (.baload, 1)) (hk : K[a]? = some (11, n)) (hi : i = nI j) (hj : j < n) (hn : n < 2 ^ 31) (hv : I a j = x) (k : Wp scr y Po (pc + 1) L (vI x :: st) K I J F) : Wp scr y Po pc L (vI i :: vR a :: st) K I J F := wp_zald hd hk (by rw [hi]; exact vp_in_nI hj hn) (by rw [hi, nI_clamp (Nat.lt_trans hj hn), hv]; exact k)
theorem wp_rL {scr : Option (Nat × (Nat → Int32))} {y : Nat} {Po : RT → Prop} {pc : Nat} {L : LL} {st : List VV} {K : KT} {I : IT} {J : JT} {F : FT} {a n j b : Nat} {i : Int32} (hd : decode (mB y) pc = .ok (.aaload, 1)) (hk : K[a]? = some (12, n)) (hi : i = nI j) (hj : j < n) (hn : n < 2 ^ 31) (hv : F a j = some b) (k : Wp scr y Po (pc + 1) L (vR b :: st) K I J F) : Wp scr y Po pc L (vI i :: vR a :: st) K I J F := wp_aald hd hk (by rw [hi]; exact vp_in_nI hj hn) (by rw [hi, nI_clamp (Nat.lt_trans hj hn), hv]; exact k)
theorem wp_aS {scr : Option (Nat × (Nat → Int32))} {y : Nat} {Po : RT → Prop} {pc : Nat} {L : LL} {st : List VV} {K : KT} {I : IT} {J : JT} {F : FT} {a n j : Nat} {x i : Int32} (hd : decode (mB y) pc = .ok (.iastore, 1)) (hk : K[a]? = some (10, n)) (hi : i = nI j) (hj : j < n) (hn : n < 2 ^ 31) (k : ∀ I2, Up I I2 a j x → Wp scr y Po (pc + 1) L st K I2 J F) : Wp scr y Po pc L (vI x :: vI i :: vR a :: st) K I J F := wp_iast hd hk (by rw [hi]; exact vp_in_nI hj hn) (by rw [hi, nI_clamp (Nat.lt_trans hj hn)]; exact k _ Up.of)
theorem wp_zS {scr : Option (Nat × (Nat → Int32))} {y : Nat} {Po : RT → Prop} {pc : Nat} {L : LL} {st : List VV} {K : KT} {I : IT} {J : JT} {F : FT} {a n j : Nat} {x i : Int32} (hd : decode (mB y) pc = .ok (.bastore, 1)) (hk : K[a]? = some (11, n)) (hi : i = nI j) (hj : j < n) (hn : n < 2 ^ 31) (h01 : x = 0 ∨ x = 1) (k : ∀ I2, Up I I2 a j x → Wp scr y Po (pc + 1) L st K I2 J F) : Wp scr y Po pc L (vI x :: vI i :: vR a :: st) K I J F := wp_zast hd hk (by rw [hi]; exact vp_in_nI hj hn) h01 (by rw [hi, nI_clamp (Nat.lt_trans hj hn)]; exact k _ Up.of)
theorem wp_icN {scr : Option (Nat × (Nat → Int32))} {y : Nat} {Po : RT → Prop} {pc : Nat} {L : LL} {st : List VV} {K : KT} {I : IT} {J : JT} {F : FT} {n : Int} {m : Nat} (hd : decode (mB y) pc = .ok (.iconst n, 1)) (hv : Int32.ofInt n = nI m) (k : Wp scr y Po (pc + 1) L (vI (nI m) :: st) K I J F) : Wp scr y Po pc L st K I J F := wp_iconst hd hv k
theorem wp_bpN {scr : Option (Nat × (Nat → Int32))} {y : Nat} {Po : RT → Prop} {pc : Nat} {L : LL} {st : List VV} {K : KT} {I : IT} {J : JT} {F : FT} {n : Int} {m : Nat} (hd : decode (mB y) pc = .ok (.bipush n, 2)) (hv : (Int8.ofInt n).toInt32 = nI m) (k : Wp scr y Po (pc + 2) L (vI (nI m) :: st) K I J F) : Wp scr y Po pc L st K I J F := wp_bipush hd hv k
theorem wp_spN {scr : Option (Nat × (Nat → Int32))} {y : Nat} {Po : RT → Prop} {pc : Nat} {L : LL} {st : List VV} {K : KT} {I : IT} {J : JT} {F : FT} {n : Int} {m : Nat} (hd : decode (mB y) pc = .ok (.sipush n, 3)) (hv : (Int16.ofInt n).toInt32 = nI m) (k : Wp scr y Po (pc + 3) L (vI (nI m) :: st) K I J F) : Wp scr y Po pc L st K I J F := wp_sipush hd hv k
theorem wp_iaddN {scr : Option (Nat × (Nat → Int32))} {y : Nat} {Po : RT → Prop} {pc : Nat} {L : LL} {st : List VV} {K : KT} {I : IT} {J : JT} {F : FT} {a b : Nat} (hd : decode (mB y) pc = .ok (.iadd, 1)) (k : Wp scr y Po (pc + 1) L (vI (nI (a + b)) :: st) K I J F) : Wp scr y Po pc L (vI (nI b) :: vI (nI a) :: st) K I J F := wp_iadd hd (by rw [nI_add]; exact k)
theorem wp_isubN {scr : Option (Nat × (Nat → Int32))} {y : Nat} {Po : RT → Prop} {pc : Nat} {L : LL} {st : List VV} {K : KT} {I : IT} {J : JT} {F : FT} {a b : Nat} (hd : decode (mB y) pc = .ok (.isub, 1)) (hle : b ≤ a) (k : Wp scr y Po (pc + 1) L (vI (nI (a - b)) :: st) K I J F) : Wp scr y Po pc L (vI (nI b) :: vI (nI a) :: st) K I J F := wp_isub hd (by rw [pk_sub hle]; exact k)
theorem wp_imulN {scr : Option (Nat × (Nat → Int32))} {y : Nat} {Po : RT → Prop} {pc : Nat} {L : LL} {st : List VV} {K : KT} {I : IT} {J : JT} {F : FT} {a b : Nat} (hd : decode (mB y) pc = .ok (.imul, 1)) (k : Wp scr y Po (pc + 1) L (vI (nI (a * b)) :: st) K I J F) : Wp scr y Po pc L (vI (nI b) :: vI (nI a) :: st) K I J F := wp_imul hd (by rw [pk_mul]; exact k)
theorem wp_idivN {scr : Option (Nat × (Nat → Int32))} {y : Nat} {Po : RT → Prop} {pc : Nat} {L : LL} {st : List VV} {K : KT} {I : IT} {J : JT} {F : FT} {a b : Nat} (hd : decode (mB y) pc = .ok (.idiv, 1)) (ha : a < 2 ^ 31) (h0 : 0 < b) (hb : b < 2 ^ 31) (k : Wp scr y Po (pc + 1) L (vI (nI (a / b)) :: st) K I J F) : Wp scr y Po pc L (vI (nI b) :: vI (nI a) :: st) K I J F := wp_idiv hd (nI_ne0 h0 hb) (by rw [pk_div ha h0 hb]; exact k)
theorem wp_iremN {scr : Option (Nat × (Nat → Int32))} {y : Nat} {Po : RT → Prop} {pc : Nat} {L : LL} {st : List VV} {K : KT} {I : IT} {J : JT} {F : FT} {a b : Nat} (hd : decode (mB y) pc = .ok (.irem, 1)) (ha : a < 2 ^ 31) (h0 : 0 < b) (hb : b < 2 ^ 31) (k : Wp scr y Po (pc + 1) L (vI (nI (a % b)) :: st) K I J F) : Wp scr y Po pc L (vI (nI b) :: vI (nI a) :: st) K I J F := wp_irem hd (nI_ne0 h0 hb) (by rw [pk_rem ha h0 hb]; exact k)
theorem wp_iincN {scr : Option (Nat × (Nat → Int32))} {y : Nat} {Po : RT → Prop} {pc : Nat} {L : LL} {st : List VV} {K : KT} {I : IT} {J : JT} {F : FT} {i a b : Nat} {n : Int} (hd : decode (mB y) pc = .ok (.iinc i n, 3)) (hl : L[i]? = some (some (vI (nI a)))) (hv : Int32.ofInt n = nI b) (hp : pvB L i = true) (k : Wp scr y Po (pc + 3) (L.set i (some (vI (nI (a + b))))) st K I J F) : Wp scr y Po pc L st K I J F := wp_iinc hd hl (by rw [hv, nI_add]) hp k
theorem wp_icmpN_eq {scr : Option (Nat × (Nat → Int32))} {y : Nat} {Po : RT → Prop} {pc : Nat} {L : LL} {st : List VV} {K : KT} {I : IT} {J : JT} {F : FT} {a b tgt : Nat} {off : Int} (hd : decode (mB y) pc = .ok (.if_icmp .eq off, 3)) (ht : (pc : Int) + off = (tgt : Int)) (ha : a < 2 ^ 31) (hb : b < 2 ^ 31) (kt : a = b → Wp scr y Po tgt L st K I J F) (kf : a ≠ b → Wp scr y Po (pc + 3) L st K I J F) : Wp scr y Po pc L (vI (nI b) :: vI (nI a) :: st) K I J F := wp_icmp_eq hd ht (fun z => kt ((nI_eq ha hb).mp z)) (fun z => kf (by have := mt (nI_eq ha hb).mpr z; omega))
theorem wp_icmpN_lt {scr : Option (Nat × (Nat → Int32))} {y : Nat} {Po : RT → Prop} {pc : Nat} {L : LL} {st : List VV} {K : KT} {I : IT} {J : JT} {F : FT} {a b tgt : Nat} {off : Int} (hd : decode (mB y) pc = .ok (.if_icmp .lt off, 3)) (ht : (pc : Int) + off = (tgt : Int)) (ha : a < 2 ^ 31) (hb : b < 2 ^ 31) (kt : a < b → Wp scr y Po tgt L st K I J F) (kf : b ≤ a → Wp scr y Po (pc + 3) L st K I J F) : Wp scr y Po pc L (vI (nI b) :: vI (nI a) :: st) K I J F := wp_icmp_lt hd ht (fun z => kt ((nI_ltI ha hb).mp z)) (fun z => kf (by have := mt (nI_ltI ha hb).mpr z; omega))
theorem wp_icmpN_ge {scr : Option (Nat × (Nat → Int32))} {y : Nat} {Po : RT → Prop} {pc : Nat} {L : LL} {st : List VV} {K : KT} {I : IT} {J : JT} {F : FT} {a b tgt : Nat} {off : Int} (hd : decode (mB y) pc = .ok (.if_icmp .ge off, 3)) (ht : (pc : Int) + off = (tgt : Int)) (ha : a < 2 ^ 31) (hb : b < 2 ^ 31) (kt : b ≤ a → Wp scr y Po tgt L st K I J F) (kf : a < b → Wp scr y Po (pc + 3) L st K I J F) : Wp scr y Po pc L (vI (nI b) :: vI (nI a) :: st) K I J F := wp_icmp_ge hd ht (fun z => kt ((nI_leI hb ha).mp z)) (fun z => kf (by have := mt (nI_leI hb ha).mpr z; omega))
theorem wp_icmpN_gt {scr : Option (Nat × (Nat → Int32))} {y : Nat} {Po : RT → Prop} {pc : Nat} {L : LL} {st : List VV} {K : KT} {I : IT} {J : JT} {F : FT} {a b tgt : Nat} {off : Int} (hd : decode (mB y) pc = .ok (.if_icmp .gt off, 3)) (ht : (pc : Int) + off = (tgt : Int)) (ha : a < 2 ^ 31) (hb : b < 2 ^ 31) (kt : b < a → Wp scr y Po tgt L st K I J F) (kf : a ≤ b → Wp scr y Po (pc + 3) L st K I J F) : Wp scr y Po pc L (vI (nI b) :: vI (nI a) :: st) K I J F := wp_icmp_gt hd ht (fun z => kt ((nI_ltI hb ha).mp z)) (fun z => kf (by have := mt (nI_ltI hb ha).mpr z; omega))
theorem wp_icmpN_le {scr : Option (Nat × (Nat → Int32))} {y : Nat} {Po : RT → Prop} {pc : Nat} {L : LL} {st : List VV} {K : KT} {I : IT} {J : JT} {F : FT} {a b tgt : Nat} {off : Int} (hd : decode (mB y) pc = .ok (.if_icmp .le off, 3)) (ht : (pc : Int) + off = (tgt : Int)) (ha : a < 2 ^ 31) (hb : b < 2 ^ 31) (kt : a ≤ b → Wp scr y Po tgt L st K I J F) (kf : b < a → Wp scr y Po (pc + 3) L st K I J F) : Wp scr y Po pc L (vI (nI b) :: vI (nI a) :: st) K I J F := wp_icmp_le hd ht (fun z => kt ((nI_leI ha hb).mp z)) (fun z => kf (by have := mt (nI_leI ha hb).mpr z; omega))
theorem wp_icmpN_ne {scr : Option (Nat × (Nat → Int32))} {y : Nat} {Po : RT → Prop} {pc : Nat} {L : LL} {st : List VV} {K : KT} {I : IT} {J : JT} {F : FT} {a b tgt : Nat} {off : Int} (hd : decode (mB y) pc = .ok (.if_icmp .ne off, 3)) (ht : (pc : Int) + off = (tgt : Int)) (ha : a < 2 ^ 31) (hb : b < 2 ^ 31) (kt : a ≠ b → Wp scr y Po tgt L st K I J F) (kf : a = b → Wp scr y Po (pc + 3) L st K I J F) : Wp scr y Po pc L (vI (nI b) :: vI (nI a) :: st) K I J F := wp_icmp_ne hd ht (fun z => kt (mt (nI_eq ha hb).mpr z)) (fun z => kf ((nI_eq ha hb).mp z))
theorem wp_ifN_eq {scr : Option (Nat × (Nat → Int32))} {y : Nat} {Po : RT → Prop} {pc : Nat} {L : LL} {st : List VV} {K : KT} {I : IT} {J : JT} {F : FT} {a tgt : Nat} {off : Int} (hd : decode (mB y) pc = .ok (.ifCond .eq off, 3)) (ht : (pc : Int) + off = (tgt : Int)) (ha : a < 2 ^ 31) (kt : a = 0 → Wp scr y Po tgt L st K I J F) (kf : a ≠ 0 → Wp scr y Po (pc + 3) L st K I J F) : Wp scr y Po pc L (vI (nI a) :: st) K I J F := wp_if_eq hd ht (fun z => kt ((nI_eq ha (by decide)).mp (z.trans nI_0.symm))) (fun z => kf (fun q => z (by rw [q]; rfl)))
theorem wp_ifN_ne {scr : Option (Nat × (Nat → Int32))} {y : Nat} {Po : RT → Prop} {pc : Nat} {L : LL} {st : List VV} {K : KT} {I : IT} {J : JT} {F : FT} {a tgt : Nat} {off : Int} (hd : decode (mB y) pc = .ok (.ifCond .ne off, 3)) (ht : (pc : Int) + off = (tgt : Int)) (ha : a < 2 ^ 31) (kt : a ≠ 0 → Wp scr y Po tgt L st K I J F) (kf : a = 0 → Wp scr y Po (pc + 3) L st K I J F) : Wp scr y Po pc L (vI (nI a) :: st) K I J F := wp_if_ne hd ht (fun z => kt (fun q => z (by rw [q]; rfl))) (fun z => kf ((nI_eq ha (by decide)).mp (z.trans nI_0.symm)))
theorem wp_ifN_lt {scr : Option (Nat × (Nat → Int32))} {y : Nat} {Po : RT → Prop} {pc : Nat} {L : LL} {st : List VV} {K : KT} {I : IT} {J : JT} {F : FT} {a tgt : Nat} {off : Int} (hd : decode (mB y) pc = .ok (.ifCond .lt off, 3)) (ht : (pc : Int) + off = (tgt : Int)) (ha : a < 2 ^ 31) (kf : Wp scr y Po (pc + 3) L st K I J F) : Wp scr y Po pc L (vI (nI a) :: st) K I J F := wp_if_lt hd ht (fun z => absurd z (nI_pos ha)) (fun _ => kf)
theorem wp_ifN_ge {scr : Option (Nat × (Nat → Int32))} {y : Nat} {Po : RT → Prop} {pc : Nat} {L : LL} {st : List VV} {K : KT} {I : IT} {J : JT} {F : FT} {a tgt : Nat} {off : Int} (hd : decode (mB y) pc = .ok (.ifCond .ge off, 3)) (ht : (pc : Int) + off = (tgt : Int)) (ha : a < 2 ^ 31) (kt : Wp scr y Po tgt L st K I J F) : Wp scr y Po pc L (vI (nI a) :: st) K I J F := wp_if_ge hd ht (fun _ => kt) (fun z => absurd (nI_pos' ha) z)
theorem wp_ifN_gt {scr : Option (Nat × (Nat → Int32))} {y : Nat} {Po : RT → Prop} {pc : Nat} {L : LL} {st : List VV} {K : KT} {I : IT} {J : JT} {F : FT} {a tgt : Nat} {off : Int} (hd : decode (mB y) pc = .ok (.ifCond .gt off, 3)) (ht : (pc : Int) + off = (tgt : Int)) (ha : a < 2 ^ 31) (kt : 0 < a → Wp scr y Po tgt L st K I J F) (kf : a = 0 → Wp scr y Po (pc + 3) L st K I J F) : Wp scr y Po pc L (vI (nI a) :: st) K I J F := wp_if_gt hd ht (fun z => kt ((nI_gt0 ha).mp z)) (fun z => kf (by have := mt (nI_gt0 ha).mpr z; omega))
theorem wp_ifN_le {scr : Option (Nat × (Nat → Int32))} {y : Nat} {Po : RT → Prop} {pc : Nat} {L : LL} {st : List VV} {K : KT} {I : IT} {J : JT} {F : FT} {a tgt : Nat} {off : Int} (hd : decode (mB y) pc = .ok (.ifCond .le off, 3)) (ht : (pc : Int) + off = (tgt : Int)) (ha : a < 2 ^ 31) (kt : a = 0 → Wp scr y Po tgt L st K I J F) (kf : 0 < a → Wp scr y Po (pc + 3) L st K I J F) : Wp scr y Po pc L (vI (nI a) :: st) K I J F := wp_if_le hd ht (fun z => kt ((nI_le0 ha).mp z)) (fun z => kf (by have := mt (nI_le0 ha).mpr z; omega))
theorem wp_ifB_eq {scr : Option (Nat × (Nat → Int32))} {y : Nat} {Po : RT → Prop} {pc : Nat} {L : LL} {st : List VV} {K : KT} {I : IT} {J : JT} {F : FT} {p : Bool} {tgt : Nat} {off : Int} (hd : decode (mB y) pc = .ok (.ifCond .eq off, 3)) (ht : (pc : Int) + off = (tgt : Int)) (kt : p = false → Wp scr y Po tgt L st K I J F) (kf : p = true → Wp scr y Po (pc + 3) L st K I J F) : Wp scr y Po pc L (vI (b2 p) :: st) K I J F := wp_if_eq hd ht (fun z => kt (b2_eq0.mp z)) (fun z => kf (by have := mt b2_eq0.mpr z; simpa using this))
theorem wp_ifB_ne {scr : Option (Nat × (Nat → Int32))} {y : Nat} {Po : RT → Prop} {pc : Nat} {L : LL} {st : List VV} {K : KT} {I : IT} {J : JT} {F : FT} {p : Bool} {tgt : Nat} {off : Int} (hd : decode (mB y) pc = .ok (.ifCond .ne off, 3)) (ht : (pc : Int) + off = (tgt : Int)) (kt : p = true → Wp scr y Po tgt L st K I J F) (kf : p = false → Wp scr y Po (pc + 3) L st K I J F) : Wp scr y Po pc L (vI (b2 p) :: st) K I J F := wp_if_ne hd ht (fun z => kt (by have := mt b2_eq0.mpr z; simpa using this)) (fun z => kf (b2_eq0.mp z))
theorem ft_0_0 : fty 0 0 = 2 := by decide +kernel
theorem ft_0_1 : fty 0 1 = 0 := by decide +kernel
theorem ft_0_2 : fty 0 2 = 0 := by decide +kernel
theorem ft_1_0 : fty 1 0 = 2 := by decide +kernel
theorem ft_1_1 : fty 1 1 = 2 := by decide +kernel
theorem ft_1_2 : fty 1 2 = 2 := by decide +kernel
theorem ft_1_3 : fty 1 3 = 0 := by decide +kernel
theorem ft_1_4 : fty 1 4 = 0 := by decide +kernel
theorem ft_1_5 : fty 1 5 = 0 := by decide +kernel
theorem ft_1_6 : fty 1 6 = 0 := by decide +kernel
theorem ft_2_0 : fty 2 0 = 2 := by decide +kernel
theorem ft_2_1 : fty 2 1 = 2 := by decide +kernel
theorem ft_2_2 : fty 2 2 = 2 := by decide +kernel
theorem ft_2_3 : fty 2 3 = 2 := by decide +kernel
theorem ft_2_4 : fty 2 4 = 0 := by decide +kernel
theorem ft_2_5 : fty 2 5 = 0 := by decide +kernel
theorem ft_3_0 : fty 3 0 = 2 := by decide +kernel
theorem ft_3_1 : fty 3 1 = 2 := by decide +kernel
theorem ft_3_2 : fty 3 2 = 0 := by decide +kernel
theorem ft_3_3 : fty 3 3 = 0 := by decide +kernel
theorem ft_3_4 : fty 3 4 = 0 := by decide +kernel
theorem ft_4_0 : fty 4 0 = 2 := by decide +kernel
theorem ft_4_1 : fty 4 1 = 2 := by decide +kernel
theorem ft_4_2 : fty 4 2 = 2 := by decide +kernel
theorem ft_4_3 : fty 4 3 = 2 := by decide +kernel
theorem ft_4_4 : fty 4 4 = 2 := by decide +kernel
theorem ft_4_5 : fty 4 5 = 0 := by decide +kernel
theorem ft_5_0 : fty 5 0 = 2 := by decide +kernel
theorem ft_5_1 : fty 5 1 = 2 := by decide +kernel
theorem ft_5_2 : fty 5 2 = 2 := by decide +kernel
theorem ft_6_0 : fty 6 0 = 2 := by decide +kernel
theorem ft_6_1 : fty 6 1 = 0 := by decide +kernel
theorem ft_7_0 : fty 7 0 = 2 := by decide +kernel
theorem ft_7_1 : fty 7 1 = 2 := by decide +kernel
theorem ft_7_2 : fty 7 2 = 2 := by decide +kernel
theorem ft_7_3 : fty 7 3 = 2 := by decide +kernel
theorem ft_7_4 : fty 7 4 = 0 := by decide +kernel
theorem ft_7_5 : fty 7 5 = 0 := by decide +kernel
theorem ft_7_6 : fty 7 6 = 0 := by decide +kernel
theorem ft_7_7 : fty 7 7 = 0 := by decide +kernel
theorem ft_8_0 : fty 8 0 = 2 := by decide +kernel
theorem ft_8_1 : fty 8 1 = 2 := by decide +kernel
theorem ft_8_2 : fty 8 2 = 2 := by decide +kernel
theorem ft_8_3 : fty 8 3 = 2 := by decide +kernel
theorem ft_8_4 : fty 8 4 = 2 := by decide +kernel
theorem ft_8_5 : fty 8 5 = 2 := by decide +kernel
theorem ft_8_6 : fty 8 6 = 2 := by decide +kernel
theorem ft_8_7 : fty 8 7 = 2 := by decide +kernel
theorem ft_8_8 : fty 8 8 = 1 := by decide +kernel
theorem ft_9_0 : fty 9 0 = 2 := by decide +kernel
theorem ft_9_1 : fty 9 1 = 2 := by decide +kernel
theorem ft_9_2 : fty 9 2 = 0 := by decide +kernel
theorem ft_9_3 : fty 9 3 = 2 := by decide +kernel
theorem ft_9_4 : fty 9 4 = 2 := by decide +kernel
theorem ft_9_5 : fty 9 5 = 0 := by decide +kernel
theorem ft_9_6 : fty 9 6 = 0 := by decide +kernel
theorem ft_9_7 : fty 9 7 = 0 := by decide +kernel
theorem ft_9_8 : fty 9 8 = 2 := by decide +kernel
theorem ft_9_9 : fty 9 9 = 0 := by decide +kernel
theorem ft_9_10 : fty 9 10 = 0 := by decide +kernel
theorem ft_9_11 : fty 9 11 = 0 := by decide +kernel
theorem ft_9_12 : fty 9 12 = 0 := by decide +kernel
theorem ft_9_13 : fty 9 13 = 0 := by decide +kernel
theorem ft_9_14 : fty 9 14 = 2 := by decide +kernel
theorem ft_9_15 : fty 9 15 = 2 := by decide +kernel
theorem ft_9_16 : fty 9 16 = 2 := by decide +kernel
theorem ft_9_17 : fty 9 17 = 0 := by decide +kernel
theorem ft_9_18 : fty 9 18 = 2 := by decide +kernel
theorem ft_9_19 : fty 9 19 = 0 := by decide +kernel
theorem ft_9_20 : fty 9 20 = 2 := by decide +kernel
theorem ft_9_21 : fty 9 21 = 2 := by decide +kernel
theorem ft_9_22 : fty 9 22 = 2 := by decide +kernel
theorem ft_9_23 : fty 9 23 = 1 := by decide +kernel
theorem ft_9_24 : fty 9 24 = 2 := by decide +kernel
theorem ft_9_25 : fty 9 25 = 2 := by decide +kernel
