section VWRAP
theorem vE9.same {s U : State} (h : U.vm = s.vm) (q : vE9 s) : vE9 U := by
  obtain ⟨g1, g2, g3, h1, h2, h3, sa, h4⟩ := q
  exact ⟨g1.same rfl h.symm, g2.same rfl h.symm, g3.same rfl h.symm, h1.same rfl h.symm, h2.same rfl h.symm, h3.same rfl h.symm, sa, fun q hq => vk_R.same h (h4 q hq)⟩
theorem vZ.moved {A : Nat → Prop} {u U : State} {H : Heap} (hvm : u.vm.Alike U.vm) (h : vZ A u H) : vZ A U H := ⟨h.1.moved hvm, h.2.moved hvm⟩
theorem vZ.kept {A : Nat → Prop} {U : State} {H H1 : Heap} (h : vZ A U H) (hq : ∀ a : Nat, a < H.size → ¬ A a → H1[a]? = H[a]?) : vZ A U H1 := ⟨h.1.kept hq, h.2.kept hq⟩
theorem vZ.narrow {A B : Nat → Prop} {U : State} {H : Heap} (h : vZ A U H) (hAB : ∀ q, B q → A q) : vZ B U H := ⟨h.1.narrow hAB, h.2.narrow hAB⟩
/-- which of the exceptions is not the other -/
def vNC (U : State) : Prop := va_Nc sISE sIAE U ∧ va_Nc sIAE sIOB U ∧ va_Nc sISE sIOB U
theorem vNC.moved {u U : State} (hvm : u.vm.Alike U.vm) (h : vNC u) : vNC U := ⟨h.1.moved hvm, h.2.1.moved hvm, h.2.2.moved hvm⟩
def vPreW (G : vG) (as : List Value) (X : List va_W) (sz : Nat) : Array Value → State → Prop := va_Pc as (fun U => U.heap.size = sz ∧ va_P G.1 vwCl X.flatten U.heap ∧ vK G U ∧ va_D (fun _ => True) X.flatten ∧ vE9 U ∧ vZ (va_A X.flatten sz) U U.heap ∧ vNC U)
/-- y catches what it calls throws, and returns with E -/
def Kw (l : Launch) (G : vG) (y : MethodName) (ws : List Cond) (rm : Room) (as : List Value) (X : List va_W) (E : Option Value → List va_W → Prop) (mc ms : Nat) : Prop :=
  ∀ sz : Nat, Met l y ws rm (vPreW G as X sz) (vQE G E (va_A X.flatten sz)) mc ms (va_A X.flatten sz)
def vCat (l : Launch) (Γ : vF) (hh : List (Nat × Nat × Nat × Nat)) : Prop :=
  l.stackTraces = false ∧ vE9 Γ.2.2.1 ∧ vZ Γ.2.2.2.2.2.2.2.2.2 Γ.2.2.1 Γ.2.2.1.heap ∧ vNC Γ.2.2.1 ∧ Γ.2.2.2.2.2.2.2.1.exceptionTable.toList = tableOf hh
variable {l : Launch} {G : vG} {M : vM} {Γ : vF} {k n pc : Nat} {L : List (Option Value)} {st : List Value} {X : List va_W}
theorem V_enterH {y : MethodName} {cc : ByteArray} {maxL : Nat} {ret : Option FieldType} {ws ws' : List Cond} {rm : Room} {as : List Value} {E : Option Value → List va_W → Prop} {mc ms : Nat} {own : String} {hh : List (Nat × Nat × Nat × Nat)} (L0 : List (Option Value))
    (hst : l.stackTraces = false) (hy : plainName y.cls = true) (hw : ws = Cond.codeWith y cc maxL ret hh :: ws') (ho : y.cls = own) (hn : (lg_sl as).length ≤ maxL) (hL0 : vEn as maxL = L0)
    (body : ∀ Γ : vF, vRet G Γ ret E mc ms → vCat l Γ hh → V l G (cc, maxL, ws, own, rm) Γ 0 0 0 L0 [] X) : Kw l G y ws rm as X E mc ms := by
  subst hL0
  intro sz
  have h : vx_Met l y ws rm (vPreW G as X sz) (vQE G E (va_A X.flatten sz)) (fun _ _ _ => False) mc ms (va_A X.flatten sz) := by
    refine vx_ofWH (cc := cc) (maxL := maxL) (ret := ret) (hh := hh) hy hw ?_
    intro p e s m args below meth c s₁ B hml hv
    obtain ⟨rfl, hsz, hP, hK, hD0, hE9, hZ, hN⟩ := hv
    have hD := hD0.self (sz := sz)
    subst hsz
    have hl := lv_entry as (n := maxL) hn
    rw [lg_entry_eq]
    have htab := vx_table (x := y) B (atoms_spec (ws := ws) B.pre _ (by rw [hw]; exact List.mem_cons_self))
    have h0 := body (p, e, s, m, as.toArray, below, meth, c, vx_MQ below (vQE G E (va_A X.flatten s.heap.size)) (fun _ _ _ => False) as.toArray s mc ms (va_A X.flatten s.heap.size), va_A X.flatten s.heap.size) ⟨B.returns, Or.inr ⟨_, rfl⟩⟩ ⟨hst, hE9, hZ, hN, htab⟩
    exact h0 ⟨B.exec, B.bytes, hml, by rw [← ho]; exact findClass_of_methodNamed B.named, atoms_spec (ws := ws) B.pre, hK, fun q h => Or.inr h, B.notSynchronized⟩ s.heap [] _ (vL_of hl (fun i v h => by have := vEn_mem as maxL i 0 v h; rwa [Nat.add_zero] at this)) hP hD va_S.rf
  refine MetFree.mono h (fun _ _ h => h) (fun _ _ _ _ _ h => h) (fun a st o t _ hq => ?_)
  rcases hq with hq | ⟨q, _, E9, ce, L9, hx, _⟩
  · exact hq
  · exact hx.elim
theorem vPreX_blind {as : List Value} {sz : Nat} : FrameBlind (vPreX G as X sz) := fun a U g mk q => by
  obtain ⟨h1, h2, h3, ⟨h4, h5⟩, h6, h7, h8⟩ := q
  exact ⟨h1, h2, h3, ⟨va_K.moved (u := U) (U := U.calling g mk a) (Vm.Alike.refl U.vm) h4, h5.same rfl⟩, h6, h7.same rfl, h8.moved (Vm.Alike.refl U.vm)⟩
theorem vPreW_blind {as : List Value} {sz : Nat} : FrameBlind (vPreW G as X sz) := fun a U g mk q => by
  obtain ⟨h1, h2, h3, ⟨h4, h5⟩, h6, h7, h8, h9⟩ := q
  exact ⟨h1, h2, h3, ⟨va_K.moved (u := U) (U := U.calling g mk a) (Vm.Alike.refl U.vm) h4, h5.same rfl⟩, h6, h7.same rfl, h8.moved (Vm.Alike.refl U.vm), h9.moved (Vm.Alike.refl U.vm)⟩
section
variable {y : MethodName} {ws : List Cond} {bytes : ByteArray} {maxL index na mc ms : Nat} {ret : Option FieldType} {rm : Room} {As rest : List Value} {Xc : List va_W} {E : Option Value → List va_W → Prop} {EX : String → List va_W → Prop}
/-- a call that may throw; what it throws is caught here -/
theorem V_callVX {C : String} {b q ci : Nat} {fs : List Value} {T : u_T} {N : Nat} {hh : List (Nat × Nat × Nat × Nat)} (is : List Nat) (hC9 : vCat l Γ hh) (hM : Kx l G y ws rm (.ref b :: As) Xc E EX mc ms) (hY : vY y ws bytes maxL ret na) (hT : GoodIn M.2.2.1 (wsV M.2.2.2.1 index C y ws)) (hC : y.cls = C) (hc : vwCl[ci]? = some (C, T, N)) (hst : st = As.reverse ++ .ref b :: rest) (hna : As.length = na) (hi : vIdx is X.length = true) (hXc9 : is.map (fun i => X.getD i []) = Xc) (hq : Xc.flatten[q]? = some (b, .inr (ci, fs)))
    (hcs : rm.cells = mc ∧ rm.slots = ms) (hR : Nat.ble (rm.frames + 1) M.2.2.2.2.frames = true ∧ Nat.ble (8 + (maxL + 11) + rm.locals) M.2.2.2.2.locals = true) (hk : k + mc ≤ M.2.2.2.2.cells ∧ n + ms ≤ M.2.2.2.2.slots) (hr : Nat.ble (rest.map fun v => v.category).sum 8 = true)
    (d : decode M.1 pc = .ok (.invokevirtual index, 3)) (kk : ∀ (v : Option Value) (Y : List va_W), E v Y → Y.length = is.length ∧ V l G M Γ (k + mc) (n + ms) (pc + 3) L (v.toList ++ rest) (vfill X is Y))
    (kx : ∀ (c : String) (Y : List va_W), EX c Y → Y.length = is.length ∧ ∃ (pre : List ExceptionTableEntry) (x : ExceptionTableEntry) (suf : List ExceptionTableEntry) (nm : String), tableOf hh = pre ++ x :: suf ∧ (∀ z ∈ pre, covers z pc = false ∨ (z.catchType ≠ 0 ∧ ∃ n9 : String, Cond.classLink M.2.2.2.1 z.catchType n9 ∈ M.2.2.1 ∧ ∀ U, vNC U → va_Nc c n9 U)) ∧ covers x pc = true ∧ x.catchType ≠ 0 ∧ Cond.classLink M.2.2.2.1 x.catchType nm ∈ M.2.2.1 ∧ (∀ U, vE9 U → va_Nw (.castable c nm) U) ∧ ∀ q9 : Nat, V l G M Γ (k + mc) (n + ms) x.handlerPc L [.ref q9] (vfill X is Y)) : V l G M Γ k n pc L st X := by
  intro ok H locs ls hl hP hD hS
  obtain ⟨hx, hb, hml, hown, hts, ⟨hK, hN⟩, hA, hlk⟩ := id ok
  obtain ⟨hst9, hE9, hZ9, hN9, htab⟩ := id hC9
  have hXc : vpick X is = Xc.flatten := by rw [vpick_map is X hi, hXc9]
  obtain ⟨hDc, hF⟩ := vgone hD hXc hS hA
  have hPc := vtake hP hXc
  obtain ⟨⟨ws', hw⟩, hd1, hd2, hd3⟩ := hY
  have hZH : vZ Γ.2.2.2.2.2.2.2.2.2 Γ.2.2.1 H := hZ9.kept (fun a h1 h2 => hS.2.1 a h1 h2)
  have hr9 := vx_runV (As := As) (rest := rest) (g := F0 Γ.2.2.2.1 pc ls st) (locs := locs) (cells := k) (slots := n) (l := l) (e := Γ.2.1) (R := M.2.2.2.2) (below := Γ.2.2.2.2.2.1) (meth := Γ.2.2.2.2.2.2.1) ⟨hx, hb, hml, hown, hts⟩ (hM H.size) (cwV na hts hT hw hcs.1 hcs.2 ⟨hC, hd1, hd2, hd3⟩ ⟨Nat.le_of_ble_eq_true hR.1, Nat.le_of_ble_eq_true hR.2⟩) ⟨vPreX_blind, va_recv hK hPc hc hq, fun U hU hW => ⟨rfl, by rw [hU], by rw [hU]; exact hPc, ⟨va_K.moved hW.alike hK, hN.warm hW⟩, hDc.weaken (fun _ _ _ _ => trivial), hE9.warm hW, by rw [hU]; exact (hZH.moved hW.alike).narrow hF⟩⟩ rfl hna hl.1 hst (lv_room (Nat.le_of_ble_eq_true hr)) d hk
  intro T hT9 X9
  rcases hr9 T hT9 X9 with ⟨v, st₀, t, T', L9, h0, X', hL, e1, e2, ⟨⟨v', Y, hv, hp, hb9, hd⟩, hF9⟩, st9⟩ | ⟨q9, st₀, t, T', L9, E9, ce, h0, X', hL, e1, e2, ⟨⟨Y, hex, hb9, hd⟩, hF9⟩, hce, hcv, hcl, st9⟩
  · cases hv
    obtain ⟨k1, k2, k3⟩ := vx_keep h0 e1 hS (fun q _ h => hF q h) hF hL hF9
    obtain ⟨g1, g3⟩ := kk v Y hp
    obtain ⟨f1, f2⟩ := vback hP hD hXc (vfill_pick hi g1) (vhole_fill is X Y) k2 hF (by rw [e1]; exact hb9) hd
    obtain ⟨t2, a1, b1⟩ := g3 ok T'.heap (locs ++ L9) ls hl f1 f2 k3 T' rfl X'
    exact ⟨t2, st9 t2 a1, b1⟩
  · obtain ⟨k1, k2, k3⟩ := vx_keep h0 e1 hS (fun q _ h => hF q h) hF hL hF9
    obtain ⟨g1, pre, x, suf, nm, hsp, hpass, hcov, h09, hlink, hcast, g3⟩ := kx E9 Y hex
    obtain ⟨f1, f2⟩ := vback hP hD hXc (vfill_pick hi g1) (vhole_fill is X Y) k2 hF (by rw [e1]; exact hb9) hd
    have hcatch := vx_catch (ls := ls) (rest := rest) (pc := pc) (H := T'.heap) (locs := locs ++ L9) (cells := k + mc) (slots := n + ms) (q := q9) (l := l) (e := Γ.2.1) (R := M.2.2.2.2) (below := Γ.2.2.2.2.2.1) (meth := Γ.2.2.2.2.2.2.1) (Q := Γ.2.2.2.2.2.2.2.2.1) hown pre x suf (htab.trans hsp)
      (fun z hz => (hpass z hz).elim Or.inl (fun ⟨z0, n9, hl9, hnc⟩ => Or.inr ⟨z0, n9, hts _ hl9, hnc _ hN9⟩)) hcov h09 (hts _ hlink) (va_Nw.use rfl (hcast _ hE9)) (by rw [e1]; exact hce) hcv hcl (g3 q9 ok T'.heap (locs ++ L9) ls hl f1 f2 k3)
    obtain ⟨t2, a1, b1⟩ := hcatch T' rfl X'
    exact ⟨t2, st9.trans a1, b1⟩
/-- a call of a static method that catches -/
theorem V_callSW {hh : List (Nat × Nat × Nat × Nat)} {ws' : List Cond} (is : List Nat) (hE9 : vE9 Γ.2.2.1) (hZ9 : vZ Γ.2.2.2.2.2.2.2.2.2 Γ.2.2.1 Γ.2.2.1.heap) (hN9 : vNC Γ.2.2.1) (hM : Kw l G y ws rm As Xc E mc ms) (hw : ws = Cond.codeWith y bytes maxL ret hh :: ws') (hd9 : y.cls ≠ "java/lang/invoke/MethodHandle" ∧ y.cls ≠ "java/lang/invoke/VarHandle" ∧ (parseMethodDescriptor y.desc).map (fun d => d.parameters.length) = some na) (hT : GoodIn M.2.2.1 (va_wsS M.2.2.2.1 index y ws)) (hst : st = As.reverse ++ rest) (hna : As.length = na) (hi : vIdx is X.length = true) (hXc9 : is.map (fun i => X.getD i []) = Xc)
    (hcs : rm.cells = mc ∧ rm.slots = ms) (hR : Nat.ble (rm.frames + 1) M.2.2.2.2.frames = true ∧ Nat.ble (8 + (maxL + 11) + rm.locals) M.2.2.2.2.locals = true) (hk : k + mc ≤ M.2.2.2.2.cells ∧ n + ms ≤ M.2.2.2.2.slots) (hr : Nat.ble (rest.map fun v => v.category).sum 8 = true)
    (d : decode M.1 pc = .ok (.invokestatic index, 3)) (kk : ∀ (v : Option Value) (Y : List va_W), E v Y → Y.length = is.length ∧ V l G M Γ (k + mc) (n + ms) (pc + 3) L (v.toList ++ rest) (vfill X is Y)) : V l G M Γ k n pc L st X := by
  intro ok H locs ls hl hP hD hS
  obtain ⟨hx, hb, hml, hown, hts, ⟨hK, hN⟩, hA, hlk⟩ := id ok
  have hXc : vpick X is = Xc.flatten := by rw [vpick_map is X hi, hXc9]
  obtain ⟨hDc, hF⟩ := vgone hD hXc hS hA
  have hPc := vtake hP hXc
  have hZH : vZ Γ.2.2.2.2.2.2.2.2.2 Γ.2.2.1 H := hZ9.kept (fun a h1 h2 => hS.2.1 a h1 h2)
  refine vcall (vx_runSW (As := As) (rest := rest) ⟨hx, hb, hml, hown, hts⟩ (hM H.size) (vx_cwSW na hts hT hw hcs.1 hcs.2 hd9 ⟨Nat.le_of_ble_eq_true hR.1, Nat.le_of_ble_eq_true hR.2⟩) ⟨vPreW_blind, fun U hU hW => ⟨rfl, by rw [hU], by rw [hU]; exact hPc, ⟨va_K.moved hW.alike hK, hN.warm hW⟩, hDc.weaken (fun _ _ _ _ => trivial), hE9.warm hW, by rw [hU]; exact (hZH.moved hW.alike).narrow hF, hN9.moved hW.alike⟩⟩ rfl hna hl.1 hst (lv_room (Nat.le_of_ble_eq_true hr)) d hk) hS (fun q _ h => hF q h) hF (fun v Y H1 l1 hE p1 d1 z1 k1 s1 => ?_)
  obtain ⟨g1, g3⟩ := kk v Y hE
  obtain ⟨f1, f2⟩ := vback hP hD hXc (vfill_pick hi g1) (vhole_fill is X Y) k1 hF p1 d1
  exact g3 ok H1 l1 ls hl f1 f2 s1
end
end VWRAP
