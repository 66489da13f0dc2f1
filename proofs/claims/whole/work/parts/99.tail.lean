/-! THE CLAIM OUT OF ONE WALK OF THE LAW'S BODY. Your part is whole_start (and what it stands on); all else here is the same for every law, but numbers. -/
def R_law : String := "OrderChainsLaw"
def lw_P (b : Addr) (xs : List Int32) (args : Array Value) (s : State) : Prop := args = #[.ref b] ∧ s.IntsAt b xs ∧ xs.length ≤ 3072 ∧ (Jvm.Cond.and given_1 narrow_1).before args s = true
def lw_Q (_ : Array Value) (s : State) (o : Outcome) (t : State) : Prop := o = .returned (some (.int 1)) ∧ Framed s o t [] 601024 7293034
def lw_Z (below : List Frame) (a : Array Value) (s : State) : State → Prop := fun t => ∃ o, t.status = .running ∧ Ended t below o ∧ lw_Q a s o t
/-- the law's own end, with 1 on the stack, nothing written that was there before, its room as the claim has it -/
theorem lw_ret {p : Program} {l : Launch} {e : Env} {s : State} {m : MethodId} {below : List Frame} {meth : Method} {c : Code} {b : Nat} (hx : p.tables.exec = Jvm.exec) (hb : c.code = code) (hr : meth.sig.returnType = ret) (hlocks : meth.locks = false) {pc : Nat} {H : Heap} {ls : Array Slot} (hdg : decode code pc = .ok (.ireturn, 1)) : W p l e room_1 s m #[Value.ref b] below meth c H [] 601024 7293034 (lw_Z below #[Value.ref b] s) (F0 m pc ls [.int 1]) := by
  intro T hT X
  obtain ⟨fs, hret, hrun, hended, hW, hframe⟩ := X.leave (v := some (.int 1)) (hlocks := hlocks) (fun h => by rw [hr] at h; cases h)
  have hmeth' : T.vm.method? m = some meth := X.method'
  refine ⟨T.setFrames fs, ?_, .returned (some (.int 1)), hrun, hended, rfl, ⟨_, rfl⟩, hW, hframe⟩
  jvm_step X.here [X.here.top, hx, hb, hdg, hmeth', hr, ret, narrow_b1]
  (try refine ⟨rfl, ?_⟩); (try refine ⟨rfl, ?_⟩)
  first | (intro acts; rw [hret _ acts rfl rfl rfl]) | rw [hret _ _ rfl rfl rfl]
  exact Steps.refl _
/-- what holds at the law's entry: the machine, the code, the tables' words (any of lw_tbl by 'hts w (by decide +kernel)'), the script of L ints xs at the cell b, what the Statement gives of the start (any of its parts by flat_of_before) -/
def lw_At (p : Program) (s : State) (m : MethodId) (meth : Method) (c : Code) (b L : Nat) (xs : Nat → Int32) : Prop :=
  p.tables.exec = Jvm.exec ∧ c.code = code ∧ meth.sig.returnType = ret ∧ c.maxLocals = 7 ∧ s.vm.findClass R_law = some m.cls ∧ (∀ w ∈ lw_tbl, w.before #[Value.ref b] s = true) ∧ va_X b L xs s s.heap ∧ b < s.heap.size ∧ meth.locks = false ∧ (Jvm.Cond.and given_1 narrow_1).before #[Value.ref b] s = true
section TAIL
/-- the place of a string constant -/
def saOf (s : State) (k : Nat) : Nat := match (Term.string RX6 k).eval #[] s none [] s with
  | some (.ref a) => a
  | _ => 0
theorem vk_sa {s : State} {args : Array Value} {k : Nat} {tx : String} (h1 : (Cond.stringRef RX6 k tx).before args s = true) (h2 : (Cond.exactly (.string RX6 k) "java/lang/String").before args s = true) : vk_R RX6 k tx (saOf s k) s := by
  obtain ⟨a, c0, cell, kA, ha, -⟩ := Cond.exactly_spec h2
  have hv := vk_R.of (a := a) h1 ha
  have e : saOf s k = a := by
    unfold saOf
    rw [hv.2]
  rw [e]
  exact hv
theorem t_kn_X0 : Cond.instantiable RX0 3 ∈ lw_tbl := (List.mem_of_getElem? (i := 228) (by decide +kernel))
theorem t_kn_X1 : Cond.instantiable RX1 13 ∈ lw_tbl := (List.mem_of_getElem? (i := 88) (by decide +kernel))
theorem t_kn_X2 : Cond.instantiable RX2 11 ∈ lw_tbl := (List.mem_of_getElem? (i := 81) (by decide +kernel))
theorem t_kn_X3 : Cond.instantiable RX3 3 ∈ lw_tbl := (List.mem_of_getElem? (i := 208) (by decide +kernel))
theorem t_kn_X5 : Cond.instantiable RX5 5 ∈ lw_tbl := (List.mem_of_getElem? (i := 58) (by decide +kernel))
theorem t_kn_X6 : Cond.instantiable RX6 9 ∈ lw_tbl := (List.mem_of_getElem? (i := 50) (by decide +kernel))
theorem t_kn_X7 : Cond.instantiable RX7 17 ∈ lw_tbl := (List.mem_of_getElem? (i := 799) (by decide +kernel))
theorem t_ar_int : Cond.arrayClass .int ∈ lw_tbl := (List.mem_of_getElem? (i := 79) (by decide +kernel))
theorem t_ar_boolean : Cond.arrayClass .boolean ∈ lw_tbl := (List.mem_of_getElem? (i := 245) (by decide +kernel))
theorem t_ar_long : Cond.arrayClass .long ∈ lw_tbl := (List.mem_of_getElem? (i := 1079) (by decide +kernel))
theorem t_ao_X1 : Cond.arrayOver (.object RX1) ∈ lw_tbl := (List.mem_of_getElem? (i := 87) (by decide +kernel))
theorem t_ao_X2 : Cond.arrayOver (.object RX2) ∈ lw_tbl := (List.mem_of_getElem? (i := 214) (by decide +kernel))
theorem t_nl_0 : Cond.methodLinkNest RX6 19 yX5_init RX6 ∈ lw_tbl := (List.mem_of_getElem? (i := 59) (by decide +kernel))
theorem t_nl_1 : Cond.methodLinkNest RX6 51 yX0_init RX6 ∈ lw_tbl := (List.mem_of_getElem? (i := 229) (by decide +kernel))
theorem t_nl_2 : Cond.methodLinkNest RX2 49 yX1_init RX6 ∈ lw_tbl := (List.mem_of_getElem? (i := 89) (by decide +kernel))
theorem t_nl_3 : Cond.methodLinkNest RX4 32 yX6_isCell RX6 ∈ lw_tbl := (List.mem_of_getElem? (i := 755) (by decide +kernel))
theorem t_nl_4 : Cond.methodLinkNest RX4 40 yX6_isChannel RX6 ∈ lw_tbl := (List.mem_of_getElem? (i := 760) (by decide +kernel))
theorem t_nl_5 : Cond.methodLinkNest RX5 49 yX6_isCell RX6 ∈ lw_tbl := (List.mem_of_getElem? (i := 313) (by decide +kernel))
theorem t_nl_6 : Cond.methodLinkNest RX5 74 yX6_isChannel RX6 ∈ lw_tbl := (List.mem_of_getElem? (i := 336) (by decide +kernel))
theorem t_dRTE : dRTE ∈ lw_tbl := (List.mem_of_getElem? (i := 440) (by decide +kernel))
theorem t_dEXC : dEXC ∈ lw_tbl := (List.mem_of_getElem? (i := 442) (by decide +kernel))
theorem t_dTHR : dTHR ∈ lw_tbl := (List.mem_of_getElem? (i := 444) (by decide +kernel))
theorem t_ca_sIAE : Cond.castable sIAE sIAE ∈ lw_tbl := (List.mem_of_getElem? (i := 438) (by decide +kernel))
theorem t_ca_sISE : Cond.castable sISE sISE ∈ lw_tbl := (List.mem_of_getElem? (i := 506) (by decide +kernel))
theorem t_ca_sIOB : Cond.castable sIOB sIOB ∈ lw_tbl := (List.mem_of_getElem? (i := 568) (by decide +kernel))
theorem t_st_107 : Cond.stringRef RX6 107 "no such number" ∈ lw_tbl := (List.mem_of_getElem? (i := 556) (by decide +kernel))
theorem t_ex_107 : Cond.exactly (.string RX6 107) "java/lang/String" ∈ flatC (Jvm.Cond.and given_1 narrow_1) := by decide +kernel
theorem t_st_115 : Cond.stringRef RX6 115 "no such cell" ∈ lw_tbl := (List.mem_of_getElem? (i := 575) (by decide +kernel))
theorem t_ex_115 : Cond.exactly (.string RX6 115) "java/lang/String" ∈ flatC (Jvm.Cond.and given_1 narrow_1) := by decide +kernel
theorem t_st_130 : Cond.stringRef RX6 130 "no such number of a cell" ∈ lw_tbl := (List.mem_of_getElem? (i := 582) (by decide +kernel))
theorem t_ex_130 : Cond.exactly (.string RX6 130) "java/lang/String" ∈ flatC (Jvm.Cond.and given_1 narrow_1) := by decide +kernel
theorem t_st_135 : Cond.stringRef RX6 135 "no such channel" ∈ lw_tbl := (List.mem_of_getElem? (i := 591) (by decide +kernel))
theorem t_ex_135 : Cond.exactly (.string RX6 135) "java/lang/String" ∈ flatC (Jvm.Cond.and given_1 narrow_1) := by decide +kernel
theorem t_st_171 : Cond.stringRef RX6 171 "no such number of a channel" ∈ lw_tbl := (List.mem_of_getElem? (i := 593) (by decide +kernel))
theorem t_ex_171 : Cond.exactly (.string RX6 171) "java/lang/String" ∈ flatC (Jvm.Cond.and given_1 narrow_1) := by decide +kernel
theorem t_st_173 : Cond.stringRef RX6 173 "no such number of a chain" ∈ lw_tbl := (List.mem_of_getElem? (i := 601) (by decide +kernel))
theorem t_ex_173 : Cond.exactly (.string RX6 173) "java/lang/String" ∈ flatC (Jvm.Cond.and given_1 narrow_1) := by decide +kernel
theorem t_st_188 : Cond.stringRef RX6 188 "no such value" ∈ lw_tbl := (List.mem_of_getElem? (i := 617) (by decide +kernel))
theorem t_ex_188 : Cond.exactly (.string RX6 188) "java/lang/String" ∈ flatC (Jvm.Cond.and given_1 narrow_1) := by decide +kernel
theorem t_st_193 : Cond.stringRef RX6 193 "no order fits there" ∈ lw_tbl := (List.mem_of_getElem? (i := 630) (by decide +kernel))
theorem t_ex_193 : Cond.exactly (.string RX6 193) "java/lang/String" ∈ flatC (Jvm.Cond.and given_1 narrow_1) := by decide +kernel
theorem t_st_195 : Cond.stringRef RX6 195 "no such number of cells, or no such owner" ∈ lw_tbl := (List.mem_of_getElem? (i := 638) (by decide +kernel))
theorem t_ex_195 : Cond.exactly (.string RX6 195) "java/lang/String" ∈ flatC (Jvm.Cond.and given_1 narrow_1) := by decide +kernel
theorem t_st_201 : Cond.stringRef RX6 201 "no such channel or cell" ∈ lw_tbl := (List.mem_of_getElem? (i := 650) (by decide +kernel))
theorem t_ex_201 : Cond.exactly (.string RX6 201) "java/lang/String" ∈ flatC (Jvm.Cond.and given_1 narrow_1) := by decide +kernel
theorem t_st_207 : Cond.stringRef RX6 207 "the channel is not busy" ∈ lw_tbl := (List.mem_of_getElem? (i := 659) (by decide +kernel))
theorem t_ex_207 : Cond.exactly (.string RX6 207) "java/lang/String" ∈ flatC (Jvm.Cond.and given_1 narrow_1) := by decide +kernel
theorem t_st_215 : Cond.stringRef RX6 215 "no such number of ticks" ∈ lw_tbl := (List.mem_of_getElem? (i := 673) (by decide +kernel))
theorem t_ex_215 : Cond.exactly (.string RX6 215) "java/lang/String" ∈ flatC (Jvm.Cond.and given_1 narrow_1) := by decide +kernel
theorem t_st_217 : Cond.stringRef RX6 217 "no channel is busy" ∈ lw_tbl := (List.mem_of_getElem? (i := 674) (by decide +kernel))
theorem t_ex_217 : Cond.exactly (.string RX6 217) "java/lang/String" ∈ flatC (Jvm.Cond.and given_1 narrow_1) := by decide +kernel
theorem t_st_225 : Cond.stringRef RX6 225 "no state is remembered" ∈ lw_tbl := (List.mem_of_getElem? (i := 682) (by decide +kernel))
theorem t_ex_225 : Cond.exactly (.string RX6 225) "java/lang/String" ∈ flatC (Jvm.Cond.and given_1 narrow_1) := by decide +kernel
theorem t_st_245 : Cond.stringRef RX6 245 "no such number of commands" ∈ lw_tbl := (List.mem_of_getElem? (i := 743) (by decide +kernel))
theorem t_ex_245 : Cond.exactly (.string RX6 245) "java/lang/String" ∈ flatC (Jvm.Cond.and given_1 narrow_1) := by decide +kernel
theorem t_st_251 : Cond.stringRef RX6 251 "no such script" ∈ lw_tbl := (List.mem_of_getElem? (i := 748) (by decide +kernel))
theorem t_ex_251 : Cond.exactly (.string RX6 251) "java/lang/String" ∈ flatC (Jvm.Cond.and given_1 narrow_1) := by decide +kernel
theorem t_st_261 : Cond.stringRef RX6 261 "no such number of rounds" ∈ lw_tbl := (List.mem_of_getElem? (i := 777) (by decide +kernel))
theorem t_ex_261 : Cond.exactly (.string RX6 261) "java/lang/String" ∈ flatC (Jvm.Cond.and given_1 narrow_1) := by decide +kernel
theorem t_st_269 : Cond.stringRef RX6 269 "no such save slot" ∈ lw_tbl := (List.mem_of_getElem? (i := 789) (by decide +kernel))
theorem t_ex_269 : Cond.exactly (.string RX6 269) "java/lang/String" ∈ flatC (Jvm.Cond.and given_1 narrow_1) := by decide +kernel
theorem t_st_271 : Cond.stringRef RX6 271 "nothing has been saved there" ∈ lw_tbl := (List.mem_of_getElem? (i := 797) (by decide +kernel))
theorem t_ex_271 : Cond.exactly (.string RX6 271) "java/lang/String" ∈ flatC (Jvm.Cond.and given_1 narrow_1) := by decide +kernel
theorem t_st_58 : Cond.stringRef RX6 58 "no such character code" ∈ lw_tbl := (List.mem_of_getElem? (i := 477) (by decide +kernel))
theorem t_ex_58 : Cond.exactly (.string RX6 58) "java/lang/String" ∈ flatC (Jvm.Cond.and given_1 narrow_1) := by decide +kernel
theorem t_st_65 : Cond.stringRef RX6 65 "the text is full" ∈ lw_tbl := (List.mem_of_getElem? (i := 513) (by decide +kernel))
theorem t_ex_65 : Cond.exactly (.string RX6 65) "java/lang/String" ∈ flatC (Jvm.Cond.and given_1 narrow_1) := by decide +kernel
theorem t_st_72 : Cond.stringRef RX6 72 "the text is not an engine" ∈ lw_tbl := (List.mem_of_getElem? (i := 527) (by decide +kernel))
theorem t_ex_72 : Cond.exactly (.string RX6 72) "java/lang/String" ∈ flatC (Jvm.Cond.and given_1 narrow_1) := by decide +kernel
theorem t_ls_U : Cond.laysStatic Bundle.tN "UNASSIGNED_STACK" Bundle.steD ∈ lw_tbl := (List.mem_of_getElem? (i := 463) (by decide +kernel))
theorem t_ir_U : Cond.isRef (.static Bundle.tN "UNASSIGNED_STACK" Bundle.steD) ∈ flatC (Jvm.Cond.and given_1 narrow_1) := by decide +kernel
theorem t_ls_S : Cond.laysStatic Bundle.tN "SUPPRESSED_SENTINEL" Bundle.listD ∈ lw_tbl := (List.mem_of_getElem? (i := 465) (by decide +kernel))
theorem t_ir_S : Cond.isRef (.static Bundle.tN "SUPPRESSED_SENTINEL" Bundle.listD) ∈ flatC (Jvm.Cond.and given_1 narrow_1) := by decide +kernel
theorem t_in_T : Cond.initialized Bundle.tN ∈ lw_tbl := (List.mem_of_getElem? (i := 40) (by decide +kernel))
theorem t_nc_0 : Cond.not (.castable sISE sIAE) ∈ flatC (Jvm.Cond.and given_1 narrow_1) := by decide +kernel
theorem t_nc_1 : Cond.not (.castable sIAE sIOB) ∈ flatC (Jvm.Cond.and given_1 narrow_1) := by decide +kernel
theorem t_nc_2 : Cond.not (.castable sISE sIOB) ∈ flatC (Jvm.Cond.and given_1 narrow_1) := by decide +kernel
/-- what is known at the start -/
theorem start_K {s : State} {args : Array Value} (hts : ∀ w ∈ lw_tbl, w.before args s = true) : ∃ G : vG, vK G s := by
  obtain ⟨c0, i0, k0⟩ := u_known (C := RX0) (T := TX0) (N := 3) (n := 3) hts inX0 (hts _ t_kn_X0)
  obtain ⟨c1, i1, k1⟩ := u_known (C := RX1) (T := TX1) (N := 13) (n := 13) hts inX1 (hts _ t_kn_X1)
  obtain ⟨c2, i2, k2⟩ := u_known (C := RX2) (T := TX2) (N := 11) (n := 11) hts inX2 (hts _ t_kn_X2)
  obtain ⟨c3, i3, k3⟩ := u_known (C := RX3) (T := TX3) (N := 3) (n := 3) hts inX3 (hts _ t_kn_X3)
  obtain ⟨c4, i4, k4⟩ := u_known (C := RX5) (T := TX5) (N := 5) (n := 5) hts inX5 (hts _ t_kn_X5)
  obtain ⟨c5, i5, k5⟩ := u_known (C := RX6) (T := TX6) (N := 9) (n := 9) hts inX6 (hts _ t_kn_X6)
  obtain ⟨c6, i6, k6⟩ := u_known (C := RX7) (T := TX7) (N := 17) (n := 17) hts inX7 (hts _ t_kn_X7)
  obtain ⟨a0, ka0, co0, fi0, hk0, hd0⟩ := Cond.arrayClass_spec (hts _ t_ar_int)
  obtain ⟨a1, ka1, co1, fi1, hk1, hd1⟩ := Cond.arrayClass_spec (hts _ t_ar_boolean)
  obtain ⟨a4, ka4, co4, fi4, hk4, hd4⟩ := Cond.arrayClass_spec (hts _ t_ar_long)
  obtain ⟨co2, a2, ka2, hc2, -, hk2, hd2, fi2⟩ := Cond.arrayOver_spec (hts _ t_ao_X1)
  obtain ⟨co3, a3, ka3, hc3, -, hk3, hd3, fi3⟩ := Cond.arrayOver_spec (hts _ t_ao_X2)
  refine ⟨(((fun c => if c = 0 then c0 else if c = 1 then c1 else if c = 2 then c2 else if c = 3 then c3 else if c = 4 then c4 else if c = 5 then c5 else c6), (fun c => if c = 0 then i0 else if c = 1 then i1 else if c = 2 then i2 else if c = 3 then i3 else if c = 4 then i4 else if c = 5 then i5 else i6)), (fun t => if t = 0 then a0 else if t = 1 then a1 else if t = 2 then a2 else if t = 3 then a3 else a4)), ⟨fun c q hq => ?_, fun k q hq => ?_⟩, ?_⟩
  · match c, hq with
    | 0, hq => cases hq; exact k0
    | 1, hq => cases hq; exact k1
    | 2, hq => cases hq; exact k2
    | 3, hq => cases hq; exact k3
    | 4, hq => cases hq; exact k4
    | 5, hq => cases hq; exact k5
    | 6, hq => cases hq; exact k6
    | _ + 7, hq => cases hq
  · match k, hq with
    | 0, hq => cases hq; exact ⟨fun n z => ⟨fun k h => (by cases h), ka0, hk0, co0, hd0⟩, fi0⟩
    | 1, hq => cases hq; exact ⟨fun n z => ⟨fun k h => (by cases h), ka1, hk1, co1, hd1⟩, fi1⟩
    | 2, hq => cases hq; exact ⟨fun n z => ⟨fun k h => (by cases h), ka2, hk2, co2, hd2⟩, ka2, co2, hk2, hd2, hc2, fi2⟩
    | 3, hq => cases hq; exact ⟨fun n z => ⟨fun k h => (by cases h), ka3, hk3, co3, hd3⟩, ka3, co3, hk3, hd3, hc3, fi3⟩
    | 4, hq => cases hq; exact ⟨fun n z => ⟨fun k h => (by cases h), ka4, hk4, co4, hd4⟩, fi4⟩
    | _ + 5, hq => cases hq
  · exact ⟨va_Nw.of rfl (hts _ t_nl_0), va_Nw.of rfl (hts _ t_nl_1), va_Nw.of rfl (hts _ t_nl_2), va_Nw.of rfl (hts _ t_nl_3), va_Nw.of rfl (hts _ t_nl_4), va_Nw.of rfl (hts _ t_nl_5), va_Nw.of rfl (hts _ t_nl_6), va_AO.of (hts _ t_ao_X1), va_AO.of (hts _ t_ao_X2)⟩
theorem start_E {s : State} {args : Array Value} (hts : ∀ w ∈ lw_tbl, w.before args s = true) (hg : ∀ w ∈ flatC (Jvm.Cond.and given_1 narrow_1), w.before args s = true) : vE9 s := by
  refine ⟨va_Nw.of rfl (hts _ t_dRTE), va_Nw.of rfl (hts _ t_dEXC), va_Nw.of rfl (hts _ t_dTHR), va_Nw.of rfl (hts _ t_ca_sIAE), va_Nw.of rfl (hts _ t_ca_sISE), va_Nw.of rfl (hts _ t_ca_sIOB), saOf s, ?_⟩
  refine List.forall_mem_cons.mpr ⟨vk_sa (hts _ t_st_107) (hg _ t_ex_107), List.forall_mem_cons.mpr ⟨vk_sa (hts _ t_st_115) (hg _ t_ex_115), List.forall_mem_cons.mpr ⟨vk_sa (hts _ t_st_130) (hg _ t_ex_130), List.forall_mem_cons.mpr ⟨vk_sa (hts _ t_st_135) (hg _ t_ex_135), List.forall_mem_cons.mpr ⟨vk_sa (hts _ t_st_171) (hg _ t_ex_171), List.forall_mem_cons.mpr ⟨vk_sa (hts _ t_st_173) (hg _ t_ex_173), List.forall_mem_cons.mpr ⟨vk_sa (hts _ t_st_188) (hg _ t_ex_188), List.forall_mem_cons.mpr ⟨vk_sa (hts _ t_st_193) (hg _ t_ex_193), List.forall_mem_cons.mpr ⟨vk_sa (hts _ t_st_195) (hg _ t_ex_195), List.forall_mem_cons.mpr ⟨vk_sa (hts _ t_st_201) (hg _ t_ex_201), List.forall_mem_cons.mpr ⟨vk_sa (hts _ t_st_207) (hg _ t_ex_207), List.forall_mem_cons.mpr ⟨vk_sa (hts _ t_st_215) (hg _ t_ex_215), List.forall_mem_cons.mpr ⟨vk_sa (hts _ t_st_217) (hg _ t_ex_217), List.forall_mem_cons.mpr ⟨vk_sa (hts _ t_st_225) (hg _ t_ex_225), List.forall_mem_cons.mpr ⟨vk_sa (hts _ t_st_245) (hg _ t_ex_245), List.forall_mem_cons.mpr ⟨vk_sa (hts _ t_st_251) (hg _ t_ex_251), List.forall_mem_cons.mpr ⟨vk_sa (hts _ t_st_261) (hg _ t_ex_261), List.forall_mem_cons.mpr ⟨vk_sa (hts _ t_st_269) (hg _ t_ex_269), List.forall_mem_cons.mpr ⟨vk_sa (hts _ t_st_271) (hg _ t_ex_271), List.forall_mem_cons.mpr ⟨vk_sa (hts _ t_st_58) (hg _ t_ex_58), List.forall_mem_cons.mpr ⟨vk_sa (hts _ t_st_65) (hg _ t_ex_65), List.forall_mem_cons.mpr ⟨vk_sa (hts _ t_st_72) (hg _ t_ex_72), fun _ h => absurd h List.not_mem_nil⟩⟩⟩⟩⟩⟩⟩⟩⟩⟩⟩⟩⟩⟩⟩⟩⟩⟩⟩⟩⟩⟩
theorem start_Z {s : State} {args : Array Value} (hts : ∀ w ∈ lw_tbl, w.before args s = true) (hg : ∀ w ∈ flatC (Jvm.Cond.and given_1 narrow_1), w.before args s = true) : vZ (fun q => s.heap.size ≤ q) s s.heap :=
  ⟨vx_Zqof (hts _ t_ls_U) (hts _ t_in_T) (hg _ t_ir_U) (fun a h1 h2 => absurd h1 (Nat.not_lt.mpr h2)), vx_Zqof (hts _ t_ls_S) (hts _ t_in_T) (hg _ t_ir_S) (fun a h1 h2 => absurd h1 (Nat.not_lt.mpr h2))⟩
theorem start_N {s : State} {args : Array Value} (hg : ∀ w ∈ flatC (Jvm.Cond.and given_1 narrow_1), w.before args s = true) : vNC s := ⟨va_Nc.of (hg _ t_nc_0), va_Nc.of (hg _ t_nc_1), va_Nc.of (hg _ t_nc_2)⟩
theorem st_off {l : Launch} (hflags : l.flags = flags0) : l.stackTraces = false := by
  unfold Launch.stackTraces
  rw [hflags]
  decide +kernel
end TAIL
theorem whole_start {p : Program} {e : Env} {s : State} {m : MethodId} {below : List Frame} {meth : Method} {c : Code} (l : Launch) (hflags : l.flags = flags0) {b L : Nat} {xs : Nat → Int32} (hL : L ≤ 3072) (C0 : lw_At p s m meth c b L xs) : W p l e room_1 s m #[Value.ref b] below meth c s.heap [] 0 0 (lw_Z below #[Value.ref b] s) (entryFrame m ([Value.ref b] : List Value).toArray 7) := by
  obtain ⟨hx, hb, hr, hml, hown, hts, hX, hbl, hlk, hg⟩ := C0
  have hgv := flat_of_before _ hg
  obtain ⟨G, hK⟩ := start_K hts
  have hE9 := start_E hts hgv
  have hZ9 := start_Z hts hgv
  have hN9 := start_N hgv
  have hst := st_off hflags
  have hl := lv_entry [Value.ref b] (n := 7) (show 1 ≤ 7 by decide)
  rw [lg_entry_eq]
  have hend : ∀ (k n : Nat) (L : List (Option Value)) (X : List va_W), k ≤ 601024 → n ≤ 7293034 → V l G (cL_law, 7, wsL_law, RL, room_1) (p, e, s, m, #[Value.ref b], below, meth, c, lw_Z below #[Value.ref b] s, fun q => s.heap.size ≤ q) k n 1642 L [.int (nI 1)] X := fun k n L X hk hn => by
    intro ok H locs ls hl hP hD hS
    refine va_forget (fun q hq => hS.2.2 q hq) ?_
    refine W.widen hk hn ?_
    exact lw_ret hx hb hr hlk dL_law_1642
  have hV := law_main l hst G (p, e, s, m, #[Value.ref b], below, meth, c, lw_Z below #[Value.ref b] s, fun q => s.heap.size ≤ q) b L xs ⟨hX, hbl, Nat.not_le.mpr hbl, hL⟩ hE9 hZ9 hN9 hend
  exact hV ⟨hx, hb, hml, hown, fun w hw => hts w (wsL_law_in w hw), hK, fun q h => h, hlk⟩ s.heap [] _ (vL_of hl (fun i v h => by have := vEn_mem [Value.ref b] 7 i 0 v h; rwa [Nat.add_zero] at this)) (fun k q h => by cases h) ⟨fun i j p q h => (by cases h), fun k q h => (by cases h)⟩ va_S.rf
set_option maxHeartbeats 4000000 in
theorem lw_walk (l : Launch) (hflags : l.flags = flags0) (b : Addr) (xs : List Int32) : MetFree l x (headSpec (Jvm.Cond.code x code maxLocals ret :: tables_1) room_1) (lw_P b xs) (fun _ _ _ _ _ => True) lw_Q := by
  refine MetFree.of_bodyS (code := code) (maxLocals := maxLocals) (ret := ret) (by decide) ?_ ?_
  · intro args s m h hn
    obtain ⟨meth, c, h1, h2, h3, h4, h5, h6, -, -⟩ := Cond.code_spec hn (atoms_spec (ws := Jvm.Cond.code x code maxLocals ret :: tables_1) h _ List.mem_cons_self)
    exact ⟨meth, c, h1, h2, h3, h4, h5, h6⟩
  · intro p e s m args below meth c s₁ B hml0 hP _
    obtain ⟨rfl, hx, hbd, hgv⟩ := hP
    obtain ⟨scr, harrAt, hlist, hof, hsmall⟩ := hx
    obtain ⟨hcb, hkn, -, -⟩ := State.arrayAt?_spec harrAt
    have hown : s.vm.findClass R_law = some m.cls := findClass_of_methodNamed B.named
    have hts0 : ∀ c ∈ (Jvm.Cond.code x code maxLocals ret :: tables_1), c.before #[Value.ref b] s = true := atoms_spec (ws := Jvm.Cond.code x code maxLocals ret :: tables_1) B.pre
    have hts : ∀ w ∈ lw_tbl, w.before #[Value.ref b] s = true := k2_hts_sels lw_privs (fun w hw => hts0 w (List.mem_cons_of_mem _ hw)) lw_privs_ok
    have hml : c.maxLocals = 7 := B.maxLocals_eq (hts0 _ List.mem_cons_self)
    have X₀ : Stand p l e room_1 s m #[Value.ref b] below meth c s₁ [] 0 0 := Stand.of_body B
    have hh0 : s₁.heap = s.heap := by rw [B.state]; rfl
    have hsz : scr.slots.size = xs.length := by rw [← Array.length_toList, hlist, List.length_map]
    have hval : ∀ j : Nat, j < xs.length → scr.slots[j]? = some (.int (xs.getD j 0)) := fun j hj => by
      rw [← Array.getElem?_toList, hlist]
      simp [hj]
    have hbl : b < s.heap.size := (Array.getElem?_eq_some_iff.mp hcb).1
    have hX : va_X b xs.length (fun j => xs.getD j 0) s s.heap := ⟨scr, hcb, hof, hkn, hsz, hval⟩
    have K : W p l e room_1 s m #[Value.ref b] below meth c s₁.heap [] 0 0 (lw_Z below #[Value.ref b] s) (entryFrame m ([Value.ref b] : List Value).toArray 7) := by
      rw [hh0]
      exact whole_start l hflags hbd ⟨B.exec, B.bytes, B.returns, hml, hown, hts, hX, hbl, B.notSynchronized, hgv⟩
    obtain ⟨t, a1, o, b1, b2, b3⟩ := K s₁ rfl X₀
    exact ⟨t, o, a1, b1, b2, b3⟩
theorem lw_pre_spec {args : Array Value} {s : State} (h : (Jvm.Cond.and given_1 narrow_1).before args s = true) (hr : rest_1_c.before args s = true) : ∃ (b : Addr) (xs : List Int32), lw_P b xs args s := by
  have hs := flat_of_before _ h
  have hq := flat_of_before _ hr
  have hc : (Cond.count 1).before args s = true := hs _ (by decide +kernel)
  have harr : (Cond.arrayOf (.arg 0) .int).before args s = true := hs _ (by decide +kernel)
  have hle : (Cond.le (.length (.arg 0)) (.int 3072)).before args s = true := hs _ (by decide +kernel)
  have hlen : (Cond.isInt (.length (.arg 0))).before args s = true := hq _ (by decide +kernel)
  have hall : (Cond.all (.arg 0) (.isInt (.elem (.arg 0) (.index 0)))).before args s = true := hq _ (by decide +kernel)
  obtain ⟨b, xs, hb, hx⟩ := State.ints_of_pre rfl harr hlen hall
  have hsm : xs.length < 2 ^ 31 := hx.choose_spec.2.2.2
  have hev : (Term.length (.arg 0)).eval args s none [] s = some (.int xs.length.toInt32) := hx.length_eval hb
  have hv := Cond.le_ints hev (show (Term.int 3072).eval args s none [] s = some (.int 3072) from rfl)
  have hd : xs.length.toInt32 ≤ 3072 := by
    simpa [Cond.before, Cond.holds, hv] using hle
  have hN : xs.length ≤ 3072 := (Int32.ofNat_le_ofNat hsm (by decide)).mp (show Int32.ofNat xs.length ≤ Int32.ofNat 3072 from hd)
  exact ⟨b, xs, Cond.one_arg hc (show args[0]? = some (.ref b) from hb), hx, hN, h⟩
theorem lw_comes (l : Launch) (hflags : l.flags = flags0) : Comes l x (Jvm.Cond.code x code maxLocals ret :: tables_1) room_1 (fun tb e args s => Calls_1 tb e args s ∧ rest_1 tb e args s ∧ Pre_1 tb e args s)
    (fun _ _ args s o t => lw_Q args s o t) := by
  intro p e ha hc hk s m args below hf hfit hheap happ hpre
  obtain ⟨b, xs, hP⟩ := lw_pre_spec hpre.2.2 hpre.2.1
  obtain ⟨k, o, h1, h2, h3, hQ⟩ := lw_walk l hflags b xs p e ha hc hk s m args below hf ((Spec.applies_iff_loose hf).mp happ).1 hP trivial
  exact ⟨k, o, h1, h2, h3, hQ⟩
theorem lw_frame {s t : State} {o : Outcome} {args : Array Value} (h : Framed s o t [] 601024 7293034) :
    Framed s o t (fieldLocs frame_1_writes args s ++ arrayLocs frame_1_arrays args s ++ staticLocs frame_1_statics s) 601024 7293034 := h
theorem lw_limb (L : Cond) (hL : ∀ (args : Array Value) (s t : State), L.after args s (.returned (some (.int 1))) t = true) :
    ArmFor flags0 classFile x code maxLocals ret World_1 tables_1 room_1 Calls_1 rest_1 Pre_1
      (fun tb e a s o t => postC L tb e a s o t ∧ Framed s o t (fieldLocs frame_1_writes a s ++ arrayLocs frame_1_arrays a s ++ staticLocs frame_1_statics s) 601024 7293034) := by
  intro l hflags _ _ p e ha hc hk s m args below hf hfit hheap happ hpre
  obtain ⟨k, o, h1, h2, h3, rfl, hF⟩ := lw_comes l hflags p e ha hc hk s m args below hf hfit hheap happ hpre
  exact ⟨k, _, h1, h2, h3, hL args s _, lw_frame hF⟩
theorem i_vc : Claimed_1_1 ∧ Claimed_1_2 := ⟨lw_limb limb_1_1 (fun args s t => by simp [limb_1_1, Cond.after, Cond.holds, Cond.value]), lw_limb limb_1_2 (fun args s t => Cond.after_iff.mpr (by
  first | (rw [show limb_1_2 = Cond.eq .result (.int 1) from rfl, Cond.eq_ints (x := 1) (y := 1) rfl rfl]; simp; done) | (simp [limb_1_2, Cond.value, Term.eval]; done)))⟩

