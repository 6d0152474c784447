def R_law : String := "GutterGardensLaw"
def lw_P (b : Addr) (xs : List Int32) (args : Array Value) (s : State) : Prop := args = #[.ref b] ∧ s.IntsAt b xs ∧ xs.length ≤ 3072 ∧ (Jvm.Cond.and given_1 narrow_1).before args s = true
def lw_Q (_ : Array Value) (s : State) (o : Outcome) (t : State) : Prop := o = .returned (some (.int 1)) ∧ Framed s o t [] 600000 7302249
def lw_Z (below : List Frame) (a : Array Value) (s : State) : State → Prop := fun t => ∃ o, t.status = .running ∧ Ended t below o ∧ lw_Q a s o t
/-- the law's own end, with 1 on the stack, nothing written that was there before, its room as the claim has it -/
theorem lw_ret {p : Program} {l : Launch} {e : Env} {s : State} {m : MethodId} {below : List Frame} {meth : Method} {c : Code} {b : Nat} (hx : p.tables.exec = Jvm.exec) (hb : c.code = code) (hr : meth.sig.returnType = ret) (hlocks : meth.locks = false) {pc : Nat} {H : Heap} {ls : Array Slot} (hdg : decode code pc = .ok (.ireturn, 1)) : W p l e room_1 s m #[Value.ref b] below meth c H [] 600000 7302249 (lw_Z below #[Value.ref b] s) (F0 m pc ls [.int 1]) := by
  intro T hT X
  obtain ⟨fs, hret, hrun, hended, hW, hframe⟩ := X.leave (v := some (.int 1)) (hlocks := hlocks) (fun h => by rw [hr] at h; cases h)
  have hmeth' : T.vm.method? m = some meth := X.method'
  refine ⟨T.setFrames fs, ?_, .returned (some (.int 1)), hrun, hended, rfl, ⟨_, rfl⟩, hW, hframe⟩
  jvm_step X.here [X.here.top, hx, hb, hdg, hmeth', hr, ret, narrow_b1]
  (try refine ⟨rfl, ?_⟩); (try refine ⟨rfl, ?_⟩)
  first | (intro acts; rw [hret _ acts rfl rfl rfl]) | rw [hret _ _ rfl rfl rfl]
  exact Steps.refl _
/-- what holds at the law's entry: the machine, the code, the tables' words (any of lw_tbl by 'hts w (by decide +kernel)'), the script of L ints xs at the cell b, what the Statement gives of the start (any of its parts by flat_of_before) -/
def lw_At (p : Program) (s : State) (m : MethodId) (meth : Method) (c : Code) (b L : Nat) (xs : Nat → Int32) : Prop :=
  p.tables.exec = Jvm.exec ∧ c.code = code ∧ meth.sig.returnType = ret ∧ c.maxLocals = 4 ∧ s.vm.findClass R_law = some m.cls ∧ (∀ w ∈ lw_tbl, w.before #[Value.ref b] s = true) ∧ va_X b L xs s s.heap ∧ b < s.heap.size ∧ meth.locks = false ∧ (Jvm.Cond.and given_1 narrow_1).before #[Value.ref b] s = true
section GLAW
variable {p : Program} {l : Launch} {e : Env} {s : State} {m : MethodId} {below : List Frame} {meth : Method} {c : Code} {b base : Nat} {D : va_G} {cA : Nat → ClassId} {scr : Option (Nat × (Nat → Int32))} {Rs : RT}
theorem sl_iret (hc : CX p l e room_1 s m #[Value.ref b] below meth c 0 b base D cA scr) (hbs : base + 1 = s.heap.size) (hend : Rs.1 = some (vI 1) ∧ Rs.2.1.length ≤ 1 + 600000 ∧ ksum Rs.2.1 ≤ 0 + 7302249) : r_iret Rs 0 (XX p l e room_1 s m #[Value.ref b] below meth c (lw_Z below #[Value.ref b] s) 0 b base 1 0 D cA) := by
  obtain ⟨hx, hb, hml, hret, hlk, hts, hnest, hAO, hown, hK, hinit, hbase, hrk, hfr, hlo, hscr⟩ := id hc
  intro pc L st K I J F x hd hr hR
  subst hR
  dsimp only at hend
  obtain ⟨h1, h2, h3⟩ := hend
  have hx1 : x = 1 := by
    have := Option.some.inj h1
    exact Sum.inl.inj this
  subst hx1
  refine ⟨⟨h2, h3⟩, fun ls H locs kk nn h => ?_⟩
  refine W.widen (k := 600000) (n := 7302249) (by have := h.2.2.2.2.1; omega) (by have := h.2.2.2.2.2; omega) ?_
  refine va_forget (fun z hz => by have h9 : base + 1 ≤ z.base := h.2.2.2.1.2.2 z hz; omega) ?_
  exact lw_ret hx hb hret hlk hd
theorem sl_lret : r_lret Rs 0 (XX p l e room_1 s m #[Value.ref b] below meth c (lw_Z below #[Value.ref b] s) 0 b base 1 0 D cA) := by
  intro pc L st K I J F x hd hr hR
  have h0 : mR 0 = some .boolean := rfl
  rw [h0] at hr
  cases hr
theorem sl_aret : r_aret Rs 0 (XX p l e room_1 s m #[Value.ref b] below meth c (lw_Z below #[Value.ref b] s) 0 b base 1 0 D cA) := by
  intro pc L st K I J F x hd hr hR
  have h0 : mR 0 = some .boolean := rfl
  rw [h0] at hr
  rcases hr with hr | hr <;> cases hr
theorem sl_vret : r_vret Rs 0 (XX p l e room_1 s m #[Value.ref b] below meth c (lw_Z below #[Value.ref b] s) 0 b base 1 0 D cA) := by
  intro pc L st K I J F hd hr hR
  have h0 : mR 0 = some .boolean := rfl
  rw [h0] at hr
  cases hr
theorem gg_clo0 (hc : CX p l e room_1 s m #[Value.ref b] below meth c 0 b base D cA scr) (hbs : base + 1 = s.heap.size) (hend : Rs.1 = some (vI 1) ∧ Rs.2.1.length ≤ 1 + 600000 ∧ ksum Rs.2.1 ≤ 0 + 7302249) : Clo scr (PM l D cA b base) 0 Rs (XX p l e room_1 s m #[Value.ref b] below meth c (lw_Z below #[Value.ref b] s) 0 b base 1 0 D cA) :=
  ⟨sm_iconst hc, sm_bipush hc, sm_sipush hc, sm_lconst hc, sm_ldcw hc, sm_ldc2 hc, sm_iload_n hc, sm_iload hc, sm_lload_n hc, sm_lload hc, sm_aload_n hc, sm_aload hc, sm_istore_n hc, sm_istore hc, sm_astore_n hc, sm_astore hc, sm_lstore_n hc, sm_lstore hc, sm_iinc hc, sm_iadd hc, sm_isub hc, sm_imul hc, sm_iand hc, sm_ior hc, sm_ixor hc, sm_ishl hc, sm_ishr hc, sm_iushr hc, sm_idiv hc, sm_irem hc, sm_ladd hc, sm_lmul hc, sm_land hc, sm_lor hc, sm_ldiv hc, sm_lrem hc, sm_lushr hc, sm_lshl hc, sm_lshr hc, sm_lcmp hc, sm_i2l hc, sm_l2i hc, sm_dup hc, sm_pop hc, sm_dup2a hc, sm_dup2b hc, sm_if_eq hc, sm_icmp_eq hc, sm_if_ne hc, sm_icmp_ne hc, sm_if_lt hc, sm_icmp_lt hc, sm_if_ge hc, sm_icmp_ge hc, sm_if_gt hc, sm_icmp_gt hc, sm_if_le hc, sm_icmp_le hc, sm_goto hc, sm_ifnonnull hc, sm_tabOut hc, sm_tabIn hc, sm_mmax hc, sm_mmin hc, sm_mlmax hc, sm_objInit hc, sm_getI hc, sm_getL hc, sm_getR hc, sm_putI hc, sm_putL hc, sm_putF hc, sm_iald hc, sm_zald hc, sm_aald hc, sm_alen hc, sm_iast hc, sm_zast hc, sm_aast hc, sm_sld hc, sm_slen hc, sm_new hc, sm_newI hc, sm_newZ hc, sm_newA hc, sm_callV hc, sm_callS hc, sm_callSN hc, sm_callI hc, sm_callIN hc, sl_iret hc hbs hend, sl_lret, sl_aret, sl_vret⟩
end GLAW
theorem gg_tblm {w : Cond} (h : w ∈ gg_GW) : w ∈ lw_tbl := (List.mem_filter.mp h).1
theorem gg_nq : ∀ q ∈ gg_NQ, (Cond.methodLinkNest q.1 q.2.1 q.2.2.1 q.2.2.2) ∈ lw_tbl := by decide +kernel
theorem gg_ao : (Cond.arrayOver (.object "GutterGardens$Waters")) ∈ lw_tbl := by decide +kernel
theorem gg_law {p : Program} {l : Launch} {e : Env} {s : State} {m : MethodId} {below : List Frame} {meth : Method} {c : Code} {b L : Nat} {xs : Nat → Int32} {I : IT} {J : JT} {F : FT} {Rs : RT} (hend : Rs.1 = some (vI 1) ∧ Rs.2.1.length ≤ 1 + 600000 ∧ ksum Rs.2.1 ≤ 0 + 7302249) (hE : Ex (some (L, xs)) Rn 0 Rs 0 [some (vR 0), none, none, none] [] [(99, 0)] I J F) (C0 : lw_At p s m meth c b L xs) : W p l e room_1 s m #[Value.ref b] below meth c s.heap [] 0 0 (lw_Z below #[Value.ref b] s) (entryFrame m ([Value.ref b] : List Value).toArray 4) := by
  obtain ⟨hx, hb, hr, hml, hown, hts, hX, hbl, hlocks, hgv⟩ := C0
  obtain ⟨c0, i0, hKn0⟩ := u_known (C := RX0) (T := TX0) (N := 3) (n := 3) hts (fun w hw => gg_tblm (wsin_0 w hw)) (hts _ (gg_tblm in_0))
  obtain ⟨c1, i1, hKn1⟩ := u_known (C := RX1) (T := TX1) (N := 7) (n := 7) hts (fun w hw => gg_tblm (wsin_1 w hw)) (hts _ (gg_tblm in_1))
  obtain ⟨c2, i2, hKn2⟩ := u_known (C := RX2) (T := TX2) (N := 6) (n := 6) hts (fun w hw => gg_tblm (wsin_2 w hw)) (hts _ (gg_tblm in_2))
  obtain ⟨c3, i3, hKn3⟩ := u_known (C := RX3) (T := TX3) (N := 5) (n := 5) hts (fun w hw => gg_tblm (wsin_3 w hw)) (hts _ (gg_tblm in_3))
  obtain ⟨c4, i4, hKn4⟩ := u_known (C := RX4) (T := TX4) (N := 6) (n := 6) hts (fun w hw => gg_tblm (wsin_4 w hw)) (hts _ (gg_tblm in_4))
  obtain ⟨c5, i5, hKn5⟩ := u_known (C := RX5) (T := TX5) (N := 3) (n := 3) hts (fun w hw => gg_tblm (wsin_5 w hw)) (hts _ (gg_tblm in_5))
  obtain ⟨c6, i6, hKn6⟩ := u_known (C := RX6) (T := TX6) (N := 2) (n := 2) hts (fun w hw => gg_tblm (wsin_6 w hw)) (hts _ (gg_tblm in_6))
  obtain ⟨c7, i7, hKn7⟩ := u_known (C := RX7) (T := TX7) (N := 8) (n := 8) hts (fun w hw => gg_tblm (wsin_7 w hw)) (hts _ (gg_tblm in_7))
  obtain ⟨c8, i8, hKn8⟩ := u_known (C := RX8) (T := TX8) (N := 9) (n := 9) hts (fun w hw => gg_tblm (wsin_8 w hw)) (hts _ (gg_tblm in_8))
  obtain ⟨c9, i9, hKn9⟩ := u_known (C := RX9) (T := TX9) (N := 26) (n := 26) hts (fun w hw => gg_tblm (wsin_9 w hw)) (hts _ (gg_tblm in_9))
  obtain ⟨D, hKc⟩ : ∃ (D : va_G), ∀ (k : Nat) (q : vw_C), vwCl[k]? = some q → u_Kn s q.1 q.2.1 q.2.2 (D.1 k) (D.2 k) := by
    refine ⟨(fun k => if k = 0 then c0 else if k = 1 then c1 else if k = 2 then c2 else if k = 3 then c3 else if k = 4 then c4 else if k = 5 then c5 else if k = 6 then c6 else if k = 7 then c7 else if k = 8 then c8 else c9, fun k => if k = 0 then i0 else if k = 1 then i1 else if k = 2 then i2 else if k = 3 then i3 else if k = 4 then i4 else if k = 5 then i5 else if k = 6 then i6 else if k = 7 then i7 else if k = 8 then i8 else i9), ?_⟩
    intro k q hq
    match k, hq with
    | 0, hq => cases hq; exact hKn0
    | 1, hq => cases hq; exact hKn1
    | 2, hq => cases hq; exact hKn2
    | 3, hq => cases hq; exact hKn3
    | 4, hq => cases hq; exact hKn4
    | 5, hq => cases hq; exact hKn5
    | 6, hq => cases hq; exact hKn6
    | 7, hq => cases hq; exact hKn7
    | 8, hq => cases hq; exact hKn8
    | 9, hq => cases hq; exact hKn9
    | k + 10, hq => simp [vwCl] at hq
  obtain ⟨cI, kI, pI, hI1, hI2, hI3⟩ := Cond.arrayClass_spec (hts _ (gg_tblm ac_int))
  obtain ⟨cZ, kZ, pZ, hZ1, hZ2, hZ3⟩ := Cond.arrayClass_spec (hts _ (gg_tblm ac_boolean))
  obtain ⟨pW, cW, kW, hW1, -, hW2, hW3, hW4⟩ := Cond.arrayOver_spec (hts _ gg_ao)
  have hK : va_K D vwCl (gg_tys (fun k => if k = 0 then cI else if k = 1 then cZ else cW)) s := by
    refine ⟨hKc, fun k q hq => ?_⟩
    match k, hq with
    | 0, hq => cases hq; exact ⟨fun n z => ⟨fun k h => (by cases h), kI, hI2, pI, hI3⟩, hI1⟩
    | 1, hq => cases hq; exact ⟨fun n z => ⟨fun k h => (by cases h), kZ, hZ2, pZ, hZ3⟩, hZ1⟩
    | 2, hq => cases hq; exact ⟨fun n z => ⟨fun k h => (by cases h), kW, hW2, pW, hW3⟩, kW, pW, hW2, hW3, hW1, hW4⟩
    | k + 3, hq => simp at hq
  have hbs : (s.heap.size - 1) + 1 = s.heap.size := by omega
  have hc : CX p l e room_1 s m #[Value.ref b] below meth c 0 b (s.heap.size - 1) D (fun k => if k = 0 then cI else if k = 1 then cZ else cW) (some (L, xs)) :=
    ⟨hx, hb, hml, hr, hlocks, fun w hw => hts w (gg_tblm hw), fun q hq => va_Nw.of rfl (hts _ (gg_nq q hq)), va_AO.of (hts _ gg_ao), hown, hK, fun h => absurd h (by decide +kernel), by omega, by decide +kernel, by decide +kernel, by decide +kernel, fun n xs2 h => by cases h; exact ⟨hX, hbl, by show ¬ (s.heap.size - 1) + 1 ≤ b; omega⟩⟩
  have hX2 := (hE.mono (fun _ _ _ _ _ _ _ h => gg_met (l := l) (D := D) (cA := (fun k => if k = 0 then cI else if k = 1 then cZ else cW)) (b := b) (base := s.heap.size - 1) h)) _ (gg_clo0 hc hbs hend)
  rw [lg_entry_eq]
  have hent := lv_entry ([vR 0].map (vv (ad b (s.heap.size - 1)))) (n := 4) (by rw [argL_len]; decide)
  have hLR : LR (ad b (s.heap.size - 1)) 4 (entL 4 [vR 0]) _ := ent_LR (by decide) hent
  exact hX2.2 _ s.heap [] 0 0 ⟨hLR, rfl, ⟨fun k q h => by simp [wd] at h, by show s.heap.size = (s.heap.size - 1) + 1; omega, rfl⟩, va_S.rf, rfl, rfl⟩
