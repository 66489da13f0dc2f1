section VTHROW
def nms : List String := ["java/lang/RuntimeException", "java/lang/Exception"]
def sIAE : String := "java/lang/IllegalArgumentException"
def sISE : String := "java/lang/IllegalStateException"
def sIOB : String := "java/lang/IndexOutOfBoundsException"
def strs : List (Nat × String) := [(107, "no such number"), (115, "no such cell"), (130, "no such number of a cell"), (135, "no such channel"), (171, "no such number of a channel"), (173, "no such number of a chain"), (188, "no such value"), (193, "no order fits there"), (195, "no such number of cells, or no such owner"), (201, "no such channel or cell"), (207, "the channel is not busy"), (215, "no such number of ticks"), (217, "no channel is busy"), (225, "no state is remembered"), (245, "no such number of commands"), (251, "no such script"), (261, "no such number of rounds"), (269, "no such save slot"), (271, "nothing has been saved there"), (58, "no such character code"), (65, "the text is full"), (72, "the text is not an engine")]
def dRTE : Cond := .declares (Bundle.initS "java/lang/RuntimeException")
def dEXC : Cond := .declares (Bundle.initS "java/lang/Exception")
def dTHR : Cond := .declares (Bundle.initS Bundle.tN)
/-- what a throw needs of the tables -/
def vE9 (U : State) : Prop := va_Nw dRTE U ∧ va_Nw dEXC U ∧ va_Nw dTHR U ∧ va_Nw (.castable sIAE sIAE) U ∧ va_Nw (.castable sISE sISE) U ∧ va_Nw (.castable sIOB sIOB) U ∧ ∃ sa : Nat → Nat, ∀ q ∈ strs, vk_R RX6 q.1 q.2 (sa q.1) U
theorem vE9.warm {s U : State} (hW : s.WarmedH U.vm) (h : vE9 s) : vE9 U := by
  obtain ⟨g1, g2, g3, h1, h2, h3, sa, h4⟩ := h
  exact ⟨g1.warmD hW, g2.warmD hW, g3.warmD hW, h1.warmC hW, h2.warmC hW, h3.warmC hW, sa, fun q hq => vk_R.warm hW (h4 q hq)⟩
/-- .. and of the statics that lie in the heap -/
def vZ (A : Nat → Prop) (U : State) (H : Heap) : Prop := vx_Zq Bundle.tN "UNASSIGNED_STACK" Bundle.steD A U H ∧ vx_Zq Bundle.tN "SUPPRESSED_SENTINEL" Bundle.listD A U H
def vPreX (G : vG) (as : List Value) (X : List va_W) (sz : Nat) : Array Value → State → Prop := va_Pc as (fun U => U.heap.size = sz ∧ va_P G.1 vwCl X.flatten U.heap ∧ vK G U ∧ va_D (fun _ => True) X.flatten ∧ vE9 U ∧ vZ (va_A X.flatten sz) U U.heap)
/-- y returns with E, or throws a class with EX -/
def Kx (l : Launch) (G : vG) (y : MethodName) (ws : List Cond) (rm : Room) (as : List Value) (X : List va_W) (E : Option Value → List va_W → Prop) (EX : String → List va_W → Prop) (mc ms : Nat) : Prop :=
  ∀ sz : Nat, vx_Met l y ws rm (vPreX G as X sz) (vQE G E (va_A X.flatten sz)) (vXC G EX (va_A X.flatten sz)) mc ms (va_A X.flatten sz)
def vThr (l : Launch) (G : vG) (Γ : vF) (E : Option Value → List va_W → Prop) (EX : String → List va_W → Prop) (mc ms : Nat) : Prop :=
  Γ.2.2.2.2.2.2.2.2.1 = vx_MQ Γ.2.2.2.2.2.1 (vQE G E Γ.2.2.2.2.2.2.2.2.2) (vXC G EX Γ.2.2.2.2.2.2.2.2.2) Γ.2.2.2.2.1 Γ.2.2.1 mc ms Γ.2.2.2.2.2.2.2.2.2 ∧ l.stackTraces = false ∧ vE9 Γ.2.2.1 ∧ vZ Γ.2.2.2.2.2.2.2.2.2 Γ.2.2.1 Γ.2.2.1.heap ∧ ∀ x ∈ Γ.2.2.2.2.2.2.2.1.exceptionTable.toList, False
variable {l : Launch} {G : vG} {M : vM} {Γ : vF} {k n pc : Nat} {L : List (Option Value)} {st : List Value} {X : List va_W}
theorem V_enterX {y : MethodName} {cc : ByteArray} {maxL : Nat} {ret : Option FieldType} {ws ws' : List Cond} {rm : Room} {as : List Value} {E : Option Value → List va_W → Prop} {EX : String → List va_W → Prop} {mc ms : Nat} {own : String} (L0 : List (Option Value))
    (hst : l.stackTraces = false) (hy : plainName y.cls = true) (hw : ws = Cond.code y cc maxL ret :: ws') (ho : y.cls = own) (hn : (lg_sl as).length ≤ maxL) (hL0 : vEn as maxL = L0)
    (body : ∀ Γ : vF, vRet G Γ ret E mc ms → vThr l G Γ E EX mc ms → V l G (cc, maxL, ws, own, rm) Γ 0 0 0 L0 [] X) : Kx l G y ws rm as X E EX mc ms := by
  subst hL0
  intro sz
  refine vx_ofW (cc := cc) (maxL := maxL) (ret := ret) hy hw ?_
  intro p e s m args below meth c s₁ B hml htab hv
  obtain ⟨rfl, hsz, hP, hK, hD0, hE9, hZ⟩ := hv
  have hD := hD0.self (sz := sz)
  subst hsz
  have hl := lv_entry as (n := maxL) hn
  rw [lg_entry_eq]
  have h0 := body (p, e, s, m, as.toArray, below, meth, c, vx_MQ below (vQE G E (va_A X.flatten s.heap.size)) (vXC G EX (va_A X.flatten s.heap.size)) as.toArray s mc ms (va_A X.flatten s.heap.size), va_A X.flatten s.heap.size) ⟨B.returns, Or.inr ⟨_, rfl⟩⟩ ⟨rfl, hst, hE9, hZ, htab⟩
  exact h0 ⟨B.exec, B.bytes, hml, by rw [← ho]; exact findClass_of_methodNamed B.named, atoms_spec (ws := ws) B.pre, hK, fun q h => Or.inr h, B.notSynchronized⟩ s.heap [] _ (vL_of hl (fun i v h => by have := vEn_mem as maxL i 0 v h; rwa [Nat.add_zero] at this)) hP hD va_S.rf
/-- throw new cls(text) -/
theorem V_throw {cls text : String} {ik is ic mc ms : Nat} {E : Option Value → List va_W → Prop} {EX : String → List va_W → Prop} (hT : vThr l G Γ E EX mc ms) (ho : M.2.2.2.1 = RX6) (hfit : Bundle.fit cls = true) (hnm : ∀ n ∈ nms, Bundle.fit n = true)
    (hg : ∀ w ∈ Cond.classLink RX6 ik cls :: Cond.initialized cls :: vx_atS RX6 ic cls nms, vx_ot w = true) (hbad : ∀ w ∈ (vx_atS RX6 ic cls nms).filter (fun w => !goodWord w), w ∈ [.castable cls cls, dRTE, dEXC, dTHR]) (hcast : ∀ U, vE9 U → va_Nw (.castable cls cls) U)
    (hk : Cond.classLink RX6 ik cls ∈ M.2.2.1) (hi : Cond.initialized cls ∈ M.2.2.1) (hin : ∀ w ∈ (vx_atS RX6 ic cls nms).filter goodWord, w ∈ M.2.2.1) (hstr : (is, text) ∈ strs)
    (hR : Nat.ble 6 M.2.2.2.2.frames = true ∧ Nat.ble ((st.map fun v => v.category).sum + 82) M.2.2.2.2.locals = true) (hc : k + 1 ≤ M.2.2.2.2.cells ∧ n + 6 ≤ M.2.2.2.2.slots) (hmc : k + 1 ≤ mc ∧ n + 6 ≤ ms)
    (d0 : decode M.1 pc = .ok (.new ik, 3)) (d3 : decode M.1 (pc + 3) = .ok (.dup, 1)) (d4 : decode M.1 (pc + 4) = .ok (.ldc is, 2)) (d6 : decode M.1 (pc + 6) = .ok (.invokespecial ic, 3)) (d9 : decode M.1 (pc + 9) = .ok (.athrow, 1))
    (hE : EX cls X) : V l G M Γ k n pc L st X := by
  intro ok H locs ls hl hP hD hS
  obtain ⟨hx, hb, hml, hown, hts, ⟨hK, hNst⟩, hA, hlk⟩ := id ok
  obtain ⟨hQ, hstk, hE9, hZ, htab⟩ := hT
  obtain ⟨g1, g2, g3, -, -, -, sa, hsa⟩ := id hE9
  rw [ho] at hown
  have hat : ∀ w ∈ vx_atS RX6 ic cls nms, w.before Γ.2.2.2.2.1 Γ.2.2.1 = true := vx_hat (B := [.castable cls cls, dRTE, dEXC, dTHR]) (fun w hw => hts w (hin w hw)) hbad (vx_c (va_Nw.use rfl (hcast _ hE9)) (vx_c (va_Nw.use rfl g1) (vx_c (va_Nw.use rfl g2) (vx_c (va_Nw.use rfl g3) vx_n))))
  rw [hQ]
  have h6 := Nat.le_of_ble_eq_true hR.1
  have h82 := Nat.le_of_ble_eq_true hR.2
  refine vx_throwS (names := nms) (sa := sa is) (A := Γ.2.2.2.2.2.2.2.2.2) (H := H) hx hb hstk hown hfit hnm (hts _ hk) (hts _ hi) (hsa _ hstr) hat hg hZ.1 hZ.2 hS (by rw [hml]; exact hl.1) d0 d3 d4 d6 d9 (fun x hx9 => (htab x hx9).elim) (show 2 + 3 < _ by omega) (show _ + (13 * (2 + 1) + 43) ≤ _ by omega) hc.1 hc.2 hlk (fun t ht hsz hsame => ?_) hS.2.2 hmc.1 hmc.2
  refine ⟨⟨X, hE, hP.kept (fun k9 q9 hq9 => hsame q9.1 ((hP k9 q9 hq9).lt)), hD⟩, Nat.le_trans hS.1 hsz, fun q h1 h2 => ?_⟩
  rw [hsame q (Nat.lt_of_lt_of_le h1 hS.1)]
  exact hS.2.1 q h1 h2
theorem fit_nms : ∀ n ∈ nms, Bundle.fit n = true := by decide +kernel
theorem bad_IAE : ∀ w ∈ (vx_atS RX6 60 sIAE nms).filter (fun w => !goodWord w), w ∈ [.castable sIAE sIAE, dRTE, dEXC, dTHR] := by decide +kernel
theorem bad_ISE : ∀ w ∈ (vx_atS RX6 67 sISE nms).filter (fun w => !goodWord w), w ∈ [.castable sISE sISE, dRTE, dEXC, dTHR] := by decide +kernel
theorem bad_IOB : ∀ w ∈ (vx_atS RX6 117 sIOB nms).filter (fun w => !goodWord w), w ∈ [.castable sIOB sIOB, dRTE, dEXC, dTHR] := by decide +kernel
theorem ot_IAE : ∀ w ∈ Cond.classLink RX6 56 sIAE :: Cond.initialized sIAE :: vx_atS RX6 60 sIAE nms, vx_ot w = true := by decide +kernel
theorem ot_ISE : ∀ w ∈ Cond.classLink RX6 63 sISE :: Cond.initialized sISE :: vx_atS RX6 67 sISE nms, vx_ot w = true := by decide +kernel
theorem ot_IOB : ∀ w ∈ Cond.classLink RX6 113 sIOB :: Cond.initialized sIOB :: vx_atS RX6 117 sIOB nms, vx_ot w = true := by decide +kernel
theorem V_IAE {text : String} {is mc ms : Nat} {E : Option Value → List va_W → Prop} {EX : String → List va_W → Prop} (hT : vThr l G Γ E EX mc ms) (ho : M.2.2.2.1 = RX6) (hk : Cond.classLink RX6 56 sIAE ∈ M.2.2.1) (hi : Cond.initialized sIAE ∈ M.2.2.1) (hin : ∀ w ∈ (vx_atS RX6 60 sIAE nms).filter goodWord, w ∈ M.2.2.1) (hstr : (is, text) ∈ strs)
    (hR : Nat.ble 6 M.2.2.2.2.frames = true ∧ Nat.ble ((st.map fun v => v.category).sum + 82) M.2.2.2.2.locals = true) (hc : k + 1 ≤ M.2.2.2.2.cells ∧ n + 6 ≤ M.2.2.2.2.slots) (hmc : k + 1 ≤ mc ∧ n + 6 ≤ ms)
    (d0 : decode M.1 pc = .ok (.new 56, 3)) (d3 : decode M.1 (pc + 3) = .ok (.dup, 1)) (d4 : decode M.1 (pc + 4) = .ok (.ldc is, 2)) (d6 : decode M.1 (pc + 6) = .ok (.invokespecial 60, 3)) (d9 : decode M.1 (pc + 9) = .ok (.athrow, 1)) (hE : EX sIAE X) : V l G M Γ k n pc L st X :=
  V_throw hT ho (by decide +kernel) fit_nms ot_IAE bad_IAE (fun U h => h.2.2.2.1) hk hi hin hstr hR hc hmc d0 d3 d4 d6 d9 hE
theorem V_ISE {text : String} {is mc ms : Nat} {E : Option Value → List va_W → Prop} {EX : String → List va_W → Prop} (hT : vThr l G Γ E EX mc ms) (ho : M.2.2.2.1 = RX6) (hk : Cond.classLink RX6 63 sISE ∈ M.2.2.1) (hi : Cond.initialized sISE ∈ M.2.2.1) (hin : ∀ w ∈ (vx_atS RX6 67 sISE nms).filter goodWord, w ∈ M.2.2.1) (hstr : (is, text) ∈ strs)
    (hR : Nat.ble 6 M.2.2.2.2.frames = true ∧ Nat.ble ((st.map fun v => v.category).sum + 82) M.2.2.2.2.locals = true) (hc : k + 1 ≤ M.2.2.2.2.cells ∧ n + 6 ≤ M.2.2.2.2.slots) (hmc : k + 1 ≤ mc ∧ n + 6 ≤ ms)
    (d0 : decode M.1 pc = .ok (.new 63, 3)) (d3 : decode M.1 (pc + 3) = .ok (.dup, 1)) (d4 : decode M.1 (pc + 4) = .ok (.ldc is, 2)) (d6 : decode M.1 (pc + 6) = .ok (.invokespecial 67, 3)) (d9 : decode M.1 (pc + 9) = .ok (.athrow, 1)) (hE : EX sISE X) : V l G M Γ k n pc L st X :=
  V_throw hT ho (by decide +kernel) fit_nms ot_ISE bad_ISE (fun U h => h.2.2.2.2.1) hk hi hin hstr hR hc hmc d0 d3 d4 d6 d9 hE
theorem V_IOB {text : String} {is mc ms : Nat} {E : Option Value → List va_W → Prop} {EX : String → List va_W → Prop} (hT : vThr l G Γ E EX mc ms) (ho : M.2.2.2.1 = RX6) (hk : Cond.classLink RX6 113 sIOB ∈ M.2.2.1) (hi : Cond.initialized sIOB ∈ M.2.2.1) (hin : ∀ w ∈ (vx_atS RX6 117 sIOB nms).filter goodWord, w ∈ M.2.2.1) (hstr : (is, text) ∈ strs)
    (hR : Nat.ble 6 M.2.2.2.2.frames = true ∧ Nat.ble ((st.map fun v => v.category).sum + 82) M.2.2.2.2.locals = true) (hc : k + 1 ≤ M.2.2.2.2.cells ∧ n + 6 ≤ M.2.2.2.2.slots) (hmc : k + 1 ≤ mc ∧ n + 6 ≤ ms)
    (d0 : decode M.1 pc = .ok (.new 113, 3)) (d3 : decode M.1 (pc + 3) = .ok (.dup, 1)) (d4 : decode M.1 (pc + 4) = .ok (.ldc is, 2)) (d6 : decode M.1 (pc + 6) = .ok (.invokespecial 117, 3)) (d9 : decode M.1 (pc + 9) = .ok (.athrow, 1)) (hE : EX sIOB X) : V l G M Γ k n pc L st X :=
  V_throw hT ho (by decide +kernel) fit_nms ot_IOB bad_IOB (fun U h => h.2.2.2.2.2.1) hk hi hin hstr hR hc hmc d0 d3 d4 d6 d9 hE
/-- throw new cls(text) -/
theorem V_throwW {cls text : String} {ik is ic mc ms : Nat} {E : Option Value → List va_W → Prop} {EX : String → List va_W → Prop} (hT : vThr l G Γ E EX mc ms) (ho : M.2.2.2.1 = RX6) (hfit : Bundle.fit cls = true) (hnm : ∀ n ∈ nms, Bundle.fit n = true)
    (hg : ∀ w ∈ Cond.classLink RX6 ik cls :: Cond.initialized cls :: vx_atS RX6 ic cls nms, vx_ot w = true) (hbad : ∀ w ∈ (vx_atS RX6 ic cls nms).filter (fun w => !goodWord w), w ∈ [.castable cls cls, dRTE, dEXC, dTHR]) (hcast : ∀ U, vE9 U → va_Nw (.castable cls cls) U)
    (hk : Cond.classLink RX6 ik cls ∈ M.2.2.1) (hi : Cond.initialized cls ∈ M.2.2.1) (hin : ∀ w ∈ (vx_atS RX6 ic cls nms).filter goodWord, w ∈ M.2.2.1) (hstr : (is, text) ∈ strs)
    (hR : Nat.ble 6 M.2.2.2.2.frames = true ∧ Nat.ble ((st.map fun v => v.category).sum + 82) M.2.2.2.2.locals = true) (hc : k + 1 ≤ M.2.2.2.2.cells ∧ n + 6 ≤ M.2.2.2.2.slots) (hmc : k + 1 ≤ mc ∧ n + 6 ≤ ms)
    (d0 : decode M.1 pc = .ok (.new ik, 3)) (d3 : decode M.1 (pc + 3) = .ok (.dup, 1)) (d4 : decode M.1 (pc + 4) = .ok (.ldc_w is, 3)) (d6 : decode M.1 (pc + 7) = .ok (.invokespecial ic, 3)) (d9 : decode M.1 (pc + 10) = .ok (.athrow, 1))
    (hE : EX cls X) : V l G M Γ k n pc L st X := by
  intro ok H locs ls hl hP hD hS
  obtain ⟨hx, hb, hml, hown, hts, ⟨hK, hNst⟩, hA, hlk⟩ := id ok
  obtain ⟨hQ, hstk, hE9, hZ, htab⟩ := hT
  obtain ⟨g1, g2, g3, -, -, -, sa, hsa⟩ := id hE9
  rw [ho] at hown
  have hat : ∀ w ∈ vx_atS RX6 ic cls nms, w.before Γ.2.2.2.2.1 Γ.2.2.1 = true := vx_hat (B := [.castable cls cls, dRTE, dEXC, dTHR]) (fun w hw => hts w (hin w hw)) hbad (vx_c (va_Nw.use rfl (hcast _ hE9)) (vx_c (va_Nw.use rfl g1) (vx_c (va_Nw.use rfl g2) (vx_c (va_Nw.use rfl g3) vx_n))))
  rw [hQ]
  have h6 := Nat.le_of_ble_eq_true hR.1
  have h82 := Nat.le_of_ble_eq_true hR.2
  refine vx_throwSW (names := nms) (sa := sa is) (A := Γ.2.2.2.2.2.2.2.2.2) (H := H) hx hb hstk hown hfit hnm (hts _ hk) (hts _ hi) (hsa _ hstr) hat hg hZ.1 hZ.2 hS (by rw [hml]; exact hl.1) d0 d3 d4 d6 d9 (fun x hx9 => (htab x hx9).elim) (show 2 + 3 < _ by omega) (show _ + (13 * (2 + 1) + 43) ≤ _ by omega) hc.1 hc.2 hlk (fun t ht hsz hsame => ?_) hS.2.2 hmc.1 hmc.2
  refine ⟨⟨X, hE, hP.kept (fun k9 q9 hq9 => hsame q9.1 ((hP k9 q9 hq9).lt)), hD⟩, Nat.le_trans hS.1 hsz, fun q h1 h2 => ?_⟩
  rw [hsame q (Nat.lt_of_lt_of_le h1 hS.1)]
  exact hS.2.1 q h1 h2
theorem V_IAEW {text : String} {is mc ms : Nat} {E : Option Value → List va_W → Prop} {EX : String → List va_W → Prop} (hT : vThr l G Γ E EX mc ms) (ho : M.2.2.2.1 = RX6) (hk : Cond.classLink RX6 56 sIAE ∈ M.2.2.1) (hi : Cond.initialized sIAE ∈ M.2.2.1) (hin : ∀ w ∈ (vx_atS RX6 60 sIAE nms).filter goodWord, w ∈ M.2.2.1) (hstr : (is, text) ∈ strs)
    (hR : Nat.ble 6 M.2.2.2.2.frames = true ∧ Nat.ble ((st.map fun v => v.category).sum + 82) M.2.2.2.2.locals = true) (hc : k + 1 ≤ M.2.2.2.2.cells ∧ n + 6 ≤ M.2.2.2.2.slots) (hmc : k + 1 ≤ mc ∧ n + 6 ≤ ms)
    (d0 : decode M.1 pc = .ok (.new 56, 3)) (d3 : decode M.1 (pc + 3) = .ok (.dup, 1)) (d4 : decode M.1 (pc + 4) = .ok (.ldc_w is, 3)) (d6 : decode M.1 (pc + 7) = .ok (.invokespecial 60, 3)) (d9 : decode M.1 (pc + 10) = .ok (.athrow, 1)) (hE : EX sIAE X) : V l G M Γ k n pc L st X :=
  V_throwW hT ho (by decide +kernel) fit_nms ot_IAE bad_IAE (fun U h => h.2.2.2.1) hk hi hin hstr hR hc hmc d0 d3 d4 d6 d9 hE
theorem V_ISEW {text : String} {is mc ms : Nat} {E : Option Value → List va_W → Prop} {EX : String → List va_W → Prop} (hT : vThr l G Γ E EX mc ms) (ho : M.2.2.2.1 = RX6) (hk : Cond.classLink RX6 63 sISE ∈ M.2.2.1) (hi : Cond.initialized sISE ∈ M.2.2.1) (hin : ∀ w ∈ (vx_atS RX6 67 sISE nms).filter goodWord, w ∈ M.2.2.1) (hstr : (is, text) ∈ strs)
    (hR : Nat.ble 6 M.2.2.2.2.frames = true ∧ Nat.ble ((st.map fun v => v.category).sum + 82) M.2.2.2.2.locals = true) (hc : k + 1 ≤ M.2.2.2.2.cells ∧ n + 6 ≤ M.2.2.2.2.slots) (hmc : k + 1 ≤ mc ∧ n + 6 ≤ ms)
    (d0 : decode M.1 pc = .ok (.new 63, 3)) (d3 : decode M.1 (pc + 3) = .ok (.dup, 1)) (d4 : decode M.1 (pc + 4) = .ok (.ldc_w is, 3)) (d6 : decode M.1 (pc + 7) = .ok (.invokespecial 67, 3)) (d9 : decode M.1 (pc + 10) = .ok (.athrow, 1)) (hE : EX sISE X) : V l G M Γ k n pc L st X :=
  V_throwW hT ho (by decide +kernel) fit_nms ot_ISE bad_ISE (fun U h => h.2.2.2.2.1) hk hi hin hstr hR hc hmc d0 d3 d4 d6 d9 hE
theorem V_IOBW {text : String} {is mc ms : Nat} {E : Option Value → List va_W → Prop} {EX : String → List va_W → Prop} (hT : vThr l G Γ E EX mc ms) (ho : M.2.2.2.1 = RX6) (hk : Cond.classLink RX6 113 sIOB ∈ M.2.2.1) (hi : Cond.initialized sIOB ∈ M.2.2.1) (hin : ∀ w ∈ (vx_atS RX6 117 sIOB nms).filter goodWord, w ∈ M.2.2.1) (hstr : (is, text) ∈ strs)
    (hR : Nat.ble 6 M.2.2.2.2.frames = true ∧ Nat.ble ((st.map fun v => v.category).sum + 82) M.2.2.2.2.locals = true) (hc : k + 1 ≤ M.2.2.2.2.cells ∧ n + 6 ≤ M.2.2.2.2.slots) (hmc : k + 1 ≤ mc ∧ n + 6 ≤ ms)
    (d0 : decode M.1 pc = .ok (.new 113, 3)) (d3 : decode M.1 (pc + 3) = .ok (.dup, 1)) (d4 : decode M.1 (pc + 4) = .ok (.ldc_w is, 3)) (d6 : decode M.1 (pc + 7) = .ok (.invokespecial 117, 3)) (d9 : decode M.1 (pc + 10) = .ok (.athrow, 1)) (hE : EX sIOB X) : V l G M Γ k n pc L st X :=
  V_throwW hT ho (by decide +kernel) fit_nms ot_IOB bad_IOB (fun U h => h.2.2.2.2.2.1) hk hi hin hstr hR hc hmc d0 d3 d4 d6 d9 hE
end VTHROW
