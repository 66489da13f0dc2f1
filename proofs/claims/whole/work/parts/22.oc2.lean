section OC2
theorem opK {G : vG} {a : Nat → Nat} {e : vE} {P Q : List va_W} : (P ++ eK G a e :: Q).flatten = (P ++ (eX G a e ++ Q)).flatten := by
  rw [List.flatten_append, List.flatten_append, List.flatten_append, List.flatten_cons]
  rfl
theorem b10 {c : Prop} [Decidable c] (h : ¬ (if c then 1 else 0) ≠ 0) : ¬ c := fun z => by rw [if_pos z] at h; exact h (by decide)
def rmH (o : Nat → Nat) (hs : Nat → vE) (e : vE) : Nat → vE := va_up hs ((o 0 + o 1) % 14) (cpC (hs ((o 0 + o 1) % 14)) e)
def cellV (e : vE) (p w : Nat) : Nat := if w = 0 then e.1 p else if w = 1 then e.2.1 p else if w = 2 then e.2.2.1 p else e.2.2.2.1 p
def chanV (q : Nat → Nat) (w : Nat) : Nat := if w = 0 then q 0 else if w = 1 then q 1 else if w = 2 then q 2 else if w = 3 then q 5 else if w = 4 then (if q 5 = 4294967287 then 4294967287 else q 7) else if w = 5 then q 6 else if w = 6 then q 3 else q 4
theorem b20 {c : Prop} [Decidable c] (h : (if c then 0 else 1) = 0) : c := by
  by_cases z : c
  · exact z
  · rw [if_neg z] at h; exact absurd h (by decide)
theorem b21 {c : Prop} [Decidable c] (h : ¬ (if c then 0 else 1) = 0) : ¬ c := fun z => by rw [if_pos z] at h; exact h rfl
theorem cv4a {q : Nat → Nat} (h : q 5 = 4294967287) : chanV q 4 = 4294967287 := if_pos h
theorem cv4b {q : Nat → Nat} (h : ¬ q 5 = 4294967287) : chanV q 4 = q 7 := if_neg h
def stC (e : vE) (c : Nat) : Nat := vsum (fun h => if e.2.2.2.2.2.2 h 0 = c then 1 else 0) 3
def aboutV (e : vE) (w : Nat) : Nat := if w = 0 then e.2.2.2.2.2.1 1 else if w = 1 then stC e 1 else if w = 2 then stC e 2 else if w = 3 then stC e 3 else if w = 4 then nT (e.2.2.2.2.2.1 0) e.2.2.2.2.2.2 else if w = 5 then vsum e.1 96 else if w = 6 then e.2.2.2.2.2.1 2 else if w = 7 then e.2.2.2.2.2.1 3 else if w = 8 then vsum e.2.2.1 96 else vsum (fun k => if e.2.1 k = 0 then 0 else 1) 96
def enC (h : Nat) : Nat → Nat → vE → Nat × vE
  | 0, _, t => (4294967287, t)
  | f + 1, b, t => if t.2.2.2.2.2.2 h 0 = 1 then enC h f (b + 1) (tickC t) else (b, t)
def alC (h : Nat) (t : vE) : vE := (t.1, t.2.1, t.2.2.1, t.2.2.2.1, t.2.2.2.2.1, t.2.2.2.2.2.1, fun k => if k < 3 ∧ k ≠ h then qBc 0 (t.2.2.2.2.2.2 k) else t.2.2.2.2.2.2 k)

abbrev rX6_cell : Room := { frames := 6, cells := 1, slots := 6, locals := 92 }
theorem vy_X6_cell : vY yX6_cell wsX6_cell cX6_cell 3 (some .int) 2 := ⟨⟨_, rfl⟩, by decide +kernel, by decide +kernel, by decide +kernel⟩
theorem fl_X6_cell_27 : Cond.fieldLink RX6 27 "OrderChains" "live" "LOrderChains$Engine;" ∈ wsX6_cell := List.mem_of_getElem? (i := 5) rfl
theorem il_X6_cell_X6 : ∀ w ∈ wsX60, w ∈ wsX6_cell := fun _ h => List.mem_cons_of_mem _ (List.mem_append_left _ (List.mem_append_left _ (List.mem_append_left _ (List.mem_append_right _ h))))
theorem fl_X6_cell_118 : Cond.fieldLink RX6 118 "OrderChains$Engine" "values" "[I" ∈ wsX6_cell := List.mem_of_getElem? (i := 6) rfl
theorem il_X6_cell_X2 : ∀ w ∈ wsX20, w ∈ wsX6_cell := fun _ h => List.mem_cons_of_mem _ (List.mem_append_left _ (List.mem_append_left _ (List.mem_append_right _ h)))
theorem fl_X6_cell_121 : Cond.fieldLink RX6 121 "OrderChains$Engine" "owners" "[I" ∈ wsX6_cell := List.mem_of_getElem? (i := 7) rfl
theorem fl_X6_cell_124 : Cond.fieldLink RX6 124 "OrderChains$Engine" "marks" "[I" ∈ wsX6_cell := List.mem_of_getElem? (i := 8) rfl
theorem fl_X6_cell_127 : Cond.fieldLink RX6 127 "OrderChains$Engine" "lastWriters" "[I" ∈ wsX6_cell := List.mem_of_getElem? (i := 9) rfl
theorem xk_X6_cell_56 : Cond.classLink RX6 56 "java/lang/IllegalArgumentException" ∈ wsX6_cell := List.mem_of_getElem? (i := 3) rfl
theorem xi_X6_cell_56 : Cond.initialized "java/lang/IllegalArgumentException" ∈ wsX6_cell := List.mem_of_getElem? (i := 4) rfl
theorem xw_X6_cell_60 : ∀ w ∈ (vx_atS RX6 60 sIAE nms).filter goodWord, w ∈ wsX6_cell := fun _ h => List.mem_cons_of_mem _ (List.mem_append_right _ h)
theorem xk_X6_cell_113 : Cond.classLink RX6 113 "java/lang/IndexOutOfBoundsException" ∈ wsX6_cell := List.mem_of_getElem? (i := 1) rfl
theorem xi_X6_cell_113 : Cond.initialized "java/lang/IndexOutOfBoundsException" ∈ wsX6_cell := List.mem_of_getElem? (i := 2) rfl
theorem xw_X6_cell_117 : ∀ w ∈ (vx_atS RX6 117 sIOB nms).filter goodWord, w ∈ wsX6_cell := fun _ h => List.mem_cons_of_mem _ (List.mem_append_left _ (List.mem_append_right _ h))
set_option maxHeartbeats 4000000 in
set_option maxRecDepth 100000 in
/-- cell -/
theorem c_X6_cell (l : Launch) (hst : l.stackTraces = false) (G : vG) (A : Nat → Nat) (ea : Nat → Nat → Nat) (n p w : Nat) (e : vE) (hp : p < 4294967296) (hw : w < 4294967296) : Kx l G yX6_cell wsX6_cell rX6_cell [.ref (A 0), .int (nI p), .int (nI w)] [oO A ea n, eK G (ea 14) e] (fun v Y => (p < 96 ∧ w < 4) ∧ v = some (.int (nI (cellV e p w))) ∧ Y = [oO A ea n, eK G (ea 14) e]) (fun c Y => ((c = sIOB ∧ ¬ p < 96) ∨ (c = sIAE ∧ p < 96 ∧ ¬ w < 4)) ∧ Y = [oO A ea n, eK G (ea 14) e]) 1 6 := by
  refine V_enterX (own := RX6) [some (.ref (A 0)), some (.int (nI p)), some (.int (nI w))] hst (by decide +kernel) rfl rfl (Nat.le_of_ble_eq_true rfl) rfl (fun Γ hR hT => ?_)
  have hkc : 0 ≤ 1 := Nat.zero_le _
  have hks : 0 ≤ 6 := Nat.zero_le _
  have hmx : 0 + 1 ≤ 1 ∧ 0 + 6 ≤ 6 := ⟨by decide, by decide⟩
  obtain ⟨val, own, mark, lw, bits, s, ch⟩ := e
  refine V_iload_n (i := 1) dX6_cell_0 rfl rfl ?_
  refine V_callS (As := _) (rest := []) [] (c_X6_isCell l G (p) hp) vy_X6_isCell gX6_cell_X6_isCell rfl rfl rfl rfl ⟨rfl, rfl⟩ ⟨rfl, rfl⟩ ⟨Nat.zero_le _, Nat.zero_le _⟩ rfl dX6_cell_1 (fun v Y hE => ?_)
  obtain ⟨rfl, rfl⟩ := hE
  refine ⟨rfl, ?_⟩
  dsimp only [vfill, List.set_cons_zero, List.set_cons_succ, Option.toList, List.cons_append, List.nil_append, Nat.add_zero]
  refine V_if_ne (tgt := 17) (by split <;> decide) dX6_cell_4 rfl (fun h_4 => ?_) (fun h_4 => ?_)
  · have hz := b01 h_4
    refine V_iload_n (i := 2) dX6_cell_17 rfl rfl ?_
    rcases (show w = 0 ∨ w = 1 ∨ w = 2 ∨ w = 3 ∨ ¬ w < 4 by omega) with e0 | e0 | e0 | e0 | e0
    · refine V_top (b := 0) e0 ?_
      refine V_tableIn (tgt := 48) dX6_cell_18 (by omega) (by omega) (by omega) rfl rfl ?_
      refine V_same (X' := [oO A ea n, eO (ea 14) s, iA G ((ea 14) 1) 96 val, iA G ((ea 14) 2) 96 own, iA G ((ea 14) 3) 96 mark, iA G ((ea 14) 4) 96 lw, eC G (ea 14), cX ((ea 14) 6) (ch 0), cX ((ea 14) 7) (ch 1), cX ((ea 14) 8) (ch 2), iA G ((ea 14) 9) 96 bits]) (opK (P := [oO A ea n]) (Q := []) (a := (ea 14)) (e := (val, own, mark, lw, bits, s, ch))) ?_
      refine V_aload_n (i := 0) dX6_cell_48 rfl rfl ?_
      refine V_get (C := RX6) (T := TX6) (N := 9) (ci := 5) (q := 0) (ref := "OrderChains") 3 rfl il_X6_cell_X6 rfl rfl fl_X6_cell_27 rfl rfl dX6_cell_49 ?_
      refine V_get (C := RX2) (T := TX2) (N := 11) (ci := 2) (q := 1) (ref := "OrderChains$Engine") 0 rfl il_X6_cell_X2 rfl rfl fl_X6_cell_118 rfl rfl dX6_cell_52 ?_
      refine V_iload_n (i := 1) dX6_cell_55 rfl rfl ?_
      refine V_iald (q := 2) rfl (by omega) rfl dX6_cell_56 ?_
      refine V_same (X' := [oO A ea n, eK G (ea 14) (val, own, mark, lw, bits, s, ch)]) (opK (P := [oO A ea n]) (Q := []) (a := (ea 14)) (e := (val, own, mark, lw, bits, s, ch))).symm ?_
      refine V_iret hR dX6_cell_57 hkc hks ?_
      subst e0
      exact ⟨⟨hz, by decide⟩, rfl, rfl⟩
    · refine V_top (b := 1) e0 ?_
      refine V_tableIn (tgt := 58) dX6_cell_18 (by omega) (by omega) (by omega) rfl rfl ?_
      refine V_same (X' := [oO A ea n, eO (ea 14) s, iA G ((ea 14) 1) 96 val, iA G ((ea 14) 2) 96 own, iA G ((ea 14) 3) 96 mark, iA G ((ea 14) 4) 96 lw, eC G (ea 14), cX ((ea 14) 6) (ch 0), cX ((ea 14) 7) (ch 1), cX ((ea 14) 8) (ch 2), iA G ((ea 14) 9) 96 bits]) (opK (P := [oO A ea n]) (Q := []) (a := (ea 14)) (e := (val, own, mark, lw, bits, s, ch))) ?_
      refine V_aload_n (i := 0) dX6_cell_58 rfl rfl ?_
      refine V_get (C := RX6) (T := TX6) (N := 9) (ci := 5) (q := 0) (ref := "OrderChains") 3 rfl il_X6_cell_X6 rfl rfl fl_X6_cell_27 rfl rfl dX6_cell_59 ?_
      refine V_get (C := RX2) (T := TX2) (N := 11) (ci := 2) (q := 1) (ref := "OrderChains$Engine") 1 rfl il_X6_cell_X2 rfl rfl fl_X6_cell_121 rfl rfl dX6_cell_62 ?_
      refine V_iload_n (i := 1) dX6_cell_65 rfl rfl ?_
      refine V_iald (q := 3) rfl (by omega) rfl dX6_cell_66 ?_
      refine V_same (X' := [oO A ea n, eK G (ea 14) (val, own, mark, lw, bits, s, ch)]) (opK (P := [oO A ea n]) (Q := []) (a := (ea 14)) (e := (val, own, mark, lw, bits, s, ch))).symm ?_
      refine V_iret hR dX6_cell_67 hkc hks ?_
      subst e0
      exact ⟨⟨hz, by decide⟩, rfl, rfl⟩
    · refine V_top (b := 2) e0 ?_
      refine V_tableIn (tgt := 68) dX6_cell_18 (by omega) (by omega) (by omega) rfl rfl ?_
      refine V_same (X' := [oO A ea n, eO (ea 14) s, iA G ((ea 14) 1) 96 val, iA G ((ea 14) 2) 96 own, iA G ((ea 14) 3) 96 mark, iA G ((ea 14) 4) 96 lw, eC G (ea 14), cX ((ea 14) 6) (ch 0), cX ((ea 14) 7) (ch 1), cX ((ea 14) 8) (ch 2), iA G ((ea 14) 9) 96 bits]) (opK (P := [oO A ea n]) (Q := []) (a := (ea 14)) (e := (val, own, mark, lw, bits, s, ch))) ?_
      refine V_aload_n (i := 0) dX6_cell_68 rfl rfl ?_
      refine V_get (C := RX6) (T := TX6) (N := 9) (ci := 5) (q := 0) (ref := "OrderChains") 3 rfl il_X6_cell_X6 rfl rfl fl_X6_cell_27 rfl rfl dX6_cell_69 ?_
      refine V_get (C := RX2) (T := TX2) (N := 11) (ci := 2) (q := 1) (ref := "OrderChains$Engine") 2 rfl il_X6_cell_X2 rfl rfl fl_X6_cell_124 rfl rfl dX6_cell_72 ?_
      refine V_iload_n (i := 1) dX6_cell_75 rfl rfl ?_
      refine V_iald (q := 4) rfl (by omega) rfl dX6_cell_76 ?_
      refine V_same (X' := [oO A ea n, eK G (ea 14) (val, own, mark, lw, bits, s, ch)]) (opK (P := [oO A ea n]) (Q := []) (a := (ea 14)) (e := (val, own, mark, lw, bits, s, ch))).symm ?_
      refine V_iret hR dX6_cell_77 hkc hks ?_
      subst e0
      exact ⟨⟨hz, by decide⟩, rfl, rfl⟩
    · refine V_top (b := 3) e0 ?_
      refine V_tableIn (tgt := 78) dX6_cell_18 (by omega) (by omega) (by omega) rfl rfl ?_
      refine V_same (X' := [oO A ea n, eO (ea 14) s, iA G ((ea 14) 1) 96 val, iA G ((ea 14) 2) 96 own, iA G ((ea 14) 3) 96 mark, iA G ((ea 14) 4) 96 lw, eC G (ea 14), cX ((ea 14) 6) (ch 0), cX ((ea 14) 7) (ch 1), cX ((ea 14) 8) (ch 2), iA G ((ea 14) 9) 96 bits]) (opK (P := [oO A ea n]) (Q := []) (a := (ea 14)) (e := (val, own, mark, lw, bits, s, ch))) ?_
      refine V_aload_n (i := 0) dX6_cell_78 rfl rfl ?_
      refine V_get (C := RX6) (T := TX6) (N := 9) (ci := 5) (q := 0) (ref := "OrderChains") 3 rfl il_X6_cell_X6 rfl rfl fl_X6_cell_27 rfl rfl dX6_cell_79 ?_
      refine V_get (C := RX2) (T := TX2) (N := 11) (ci := 2) (q := 1) (ref := "OrderChains$Engine") 3 rfl il_X6_cell_X2 rfl rfl fl_X6_cell_127 rfl rfl dX6_cell_82 ?_
      refine V_iload_n (i := 1) dX6_cell_85 rfl rfl ?_
      refine V_iald (q := 5) rfl (by omega) rfl dX6_cell_86 ?_
      refine V_same (X' := [oO A ea n, eK G (ea 14) (val, own, mark, lw, bits, s, ch)]) (opK (P := [oO A ea n]) (Q := []) (a := (ea 14)) (e := (val, own, mark, lw, bits, s, ch))).symm ?_
      refine V_iret hR dX6_cell_87 hkc hks ?_
      subst e0
      exact ⟨⟨hz, by decide⟩, rfl, rfl⟩
    · skip
      refine V_tableOut (tgt := 88) dX6_cell_18 (pk_out (b := 3) hw (by omega) (by decide)) rfl ?_
      refine V_IAE (is := 130) (text := "no such number of a cell") hT rfl xk_X6_cell_56 xi_X6_cell_56 xw_X6_cell_60 (List.mem_of_getElem? (i := 2) rfl) ⟨rfl, rfl⟩ hmx hmx dX6_cell_88 dX6_cell_91 dX6_cell_92 dX6_cell_94 dX6_cell_97 ?_
      exact ⟨Or.inr ⟨rfl, hz, by omega⟩, rfl⟩
  · refine V_IOB (is := 115) (text := "no such cell") hT rfl xk_X6_cell_113 xi_X6_cell_113 xw_X6_cell_117 (List.mem_of_getElem? (i := 1) rfl) ⟨rfl, rfl⟩ hmx hmx dX6_cell_7 dX6_cell_10 dX6_cell_11 dX6_cell_13 dX6_cell_16 ?_
    exact ⟨Or.inl ⟨rfl, b00 h_4⟩, rfl⟩

abbrev rX6_channel : Room := { frames := 6, cells := 1, slots := 6, locals := 92 }
theorem vy_X6_channel : vY yX6_channel wsX6_channel cX6_channel 4 (some .int) 2 := ⟨⟨_, rfl⟩, by decide +kernel, by decide +kernel, by decide +kernel⟩
theorem fl_X6_channel_27 : Cond.fieldLink RX6 27 "OrderChains" "live" "LOrderChains$Engine;" ∈ wsX6_channel := List.mem_of_getElem? (i := 5) rfl
theorem il_X6_channel_X6 : ∀ w ∈ wsX60, w ∈ wsX6_channel := fun _ h => List.mem_cons_of_mem _ (List.mem_append_left _ (List.mem_append_left _ (List.mem_append_left _ (List.mem_append_left _ (List.mem_append_right _ h)))))
theorem fl_X6_channel_137 : Cond.fieldLink RX6 137 "OrderChains$Engine" "channels" "[LOrderChains$Channel;" ∈ wsX6_channel := List.mem_of_getElem? (i := 6) rfl
theorem il_X6_channel_X2 : ∀ w ∈ wsX20, w ∈ wsX6_channel := fun _ h => List.mem_cons_of_mem _ (List.mem_append_left _ (List.mem_append_left _ (List.mem_append_left _ (List.mem_append_right _ h))))
theorem fl_X6_channel_141 : Cond.fieldLink RX6 141 "OrderChains$Channel" "condition" "I" ∈ wsX6_channel := List.mem_of_getElem? (i := 7) rfl
theorem il_X6_channel_X1 : ∀ w ∈ wsX10, w ∈ wsX6_channel := fun _ h => List.mem_cons_of_mem _ (List.mem_append_left _ (List.mem_append_left _ (List.mem_append_right _ h)))
theorem fl_X6_channel_146 : Cond.fieldLink RX6 146 "OrderChains$Channel" "head" "I" ∈ wsX6_channel := List.mem_of_getElem? (i := 8) rfl
theorem fl_X6_channel_149 : Cond.fieldLink RX6 149 "OrderChains$Channel" "cause" "I" ∈ wsX6_channel := List.mem_of_getElem? (i := 9) rfl
theorem fl_X6_channel_152 : Cond.fieldLink RX6 152 "OrderChains$Channel" "place" "I" ∈ wsX6_channel := List.mem_of_getElem? (i := 10) rfl
theorem fl_X6_channel_159 : Cond.fieldLink RX6 159 "OrderChains$Channel" "kind" "I" ∈ wsX6_channel := List.mem_of_getElem? (i := 11) rfl
theorem fl_X6_channel_162 : Cond.fieldLink RX6 162 "OrderChains$Channel" "units" "I" ∈ wsX6_channel := List.mem_of_getElem? (i := 12) rfl
theorem fl_X6_channel_165 : Cond.fieldLink RX6 165 "OrderChains$Channel" "ordersRead" "I" ∈ wsX6_channel := List.mem_of_getElem? (i := 13) rfl
theorem fl_X6_channel_168 : Cond.fieldLink RX6 168 "OrderChains$Channel" "cellsWritten" "I" ∈ wsX6_channel := List.mem_of_getElem? (i := 14) rfl
theorem xk_X6_channel_56 : Cond.classLink RX6 56 "java/lang/IllegalArgumentException" ∈ wsX6_channel := List.mem_of_getElem? (i := 3) rfl
theorem xi_X6_channel_56 : Cond.initialized "java/lang/IllegalArgumentException" ∈ wsX6_channel := List.mem_of_getElem? (i := 4) rfl
theorem xw_X6_channel_60 : ∀ w ∈ (vx_atS RX6 60 sIAE nms).filter goodWord, w ∈ wsX6_channel := fun _ h => List.mem_cons_of_mem _ (List.mem_append_right _ h)
theorem xk_X6_channel_113 : Cond.classLink RX6 113 "java/lang/IndexOutOfBoundsException" ∈ wsX6_channel := List.mem_of_getElem? (i := 1) rfl
theorem xi_X6_channel_113 : Cond.initialized "java/lang/IndexOutOfBoundsException" ∈ wsX6_channel := List.mem_of_getElem? (i := 2) rfl
theorem xw_X6_channel_117 : ∀ w ∈ (vx_atS RX6 117 sIOB nms).filter goodWord, w ∈ wsX6_channel := fun _ h => List.mem_cons_of_mem _ (List.mem_append_left _ (List.mem_append_right _ h))
set_option maxHeartbeats 4000000 in
set_option maxRecDepth 100000 in
/-- channel -/
theorem c_X6_channel (l : Launch) (hst : l.stackTraces = false) (G : vG) (A : Nat → Nat) (ea : Nat → Nat → Nat) (n h w : Nat) (e : vE) (he : eB e) (hp : h < 4294967296) (hw : w < 4294967296) : Kx l G yX6_channel wsX6_channel rX6_channel [.ref (A 0), .int (nI h), .int (nI w)] [oO A ea n, eK G (ea 14) e] (fun v Y => (h < 3 ∧ w < 8) ∧ v = some (.int (nI (chanV (e.2.2.2.2.2.2 h) w))) ∧ Y = [oO A ea n, eK G (ea 14) e]) (fun c Y => ((c = sIOB ∧ ¬ h < 3) ∨ (c = sIAE ∧ h < 3 ∧ ¬ w < 8)) ∧ Y = [oO A ea n, eK G (ea 14) e]) 1 6 := by
  refine V_enterX (own := RX6) [some (.ref (A 0)), some (.int (nI h)), some (.int (nI w)), none] hst (by decide +kernel) rfl rfl (Nat.le_of_ble_eq_true rfl) rfl (fun Γ hR hT => ?_)
  have hkc : 0 ≤ 1 := Nat.zero_le _
  have hks : 0 ≤ 6 := Nat.zero_le _
  have hmx : 0 + 1 ≤ 1 ∧ 0 + 6 ≤ 6 := ⟨by decide, by decide⟩
  obtain ⟨val, own, mark, lw, bits, s, ch⟩ := e
  obtain ⟨hv, ho, hm, hb, hs0, hs4, hq⟩ := id he
  dsimp only at hv ho hm hb hs0 hs4 hq
  refine V_iload_n (i := 1) dX6_channel_0 rfl rfl ?_
  refine V_callS (As := _) (rest := []) [] (c_X6_isChannel l G (h) hp) vy_X6_isChannel gX6_channel_X6_isChannel rfl rfl rfl rfl ⟨rfl, rfl⟩ ⟨rfl, rfl⟩ ⟨Nat.zero_le _, Nat.zero_le _⟩ rfl dX6_channel_1 (fun v Y hE => ?_)
  obtain ⟨rfl, rfl⟩ := hE
  refine ⟨rfl, ?_⟩
  dsimp only [vfill, List.set_cons_zero, List.set_cons_succ, Option.toList, List.cons_append, List.nil_append, Nat.add_zero]
  refine V_if_ne (tgt := 17) (by split <;> decide) dX6_channel_4 rfl (fun h_4 => ?_) (fun h_4 => ?_)
  · have hz := b01 h_4
    refine V_same (X' := [oO A ea n, eO (ea 14) s, iA G ((ea 14) 1) 96 val, iA G ((ea 14) 2) 96 own, iA G ((ea 14) 3) 96 mark, iA G ((ea 14) 4) 96 lw, eC G (ea 14), cX ((ea 14) 6) (ch 0), cX ((ea 14) 7) (ch 1), cX ((ea 14) 8) (ch 2), iA G ((ea 14) 9) 96 bits]) (opK (P := [oO A ea n]) (Q := []) (a := (ea 14)) (e := (val, own, mark, lw, bits, s, ch))) ?_
    refine V_aload_n (i := 0) dX6_channel_17 rfl rfl ?_
    rcases (show h = 0 ∨ h = 1 ∨ h = 2 by omega) with rfl | rfl | rfl
    · refine V_get (C := RX6) (T := TX6) (N := 9) (ci := 5) (q := 0) (ref := "OrderChains") 3 rfl il_X6_channel_X6 rfl rfl fl_X6_channel_27 rfl rfl dX6_channel_18 ?_
      refine V_get (C := RX2) (T := TX2) (N := 11) (ci := 2) (q := 1) (ref := "OrderChains$Engine") 4 rfl il_X6_channel_X2 rfl rfl fl_X6_channel_137 rfl rfl dX6_channel_21 ?_
      refine V_iload_n (i := 1) dX6_channel_24 rfl rfl ?_
      refine V_aaldC (q := 6) rfl (by omega) rfl dX6_channel_25 ?_
      refine V_astore_n (i := 3) dX6_channel_26 rfl rfl rfl ?_
      dsimp only [List.set_cons_zero, List.set_cons_succ]
      refine V_iload_n (i := 2) dX6_channel_27 rfl rfl ?_
      rcases (show w = 0 ∨ w = 1 ∨ w = 2 ∨ w = 3 ∨ w = 4 ∨ w = 5 ∨ w = 6 ∨ w = 7 ∨ ¬ w < 8 by omega) with e0 | e0 | e0 | e0 | e0 | e0 | e0 | e0 | e0
      · refine V_top (b := 0) e0 ?_
        refine V_tableIn (tgt := 76) dX6_channel_28 (by omega) (by omega) (by omega) rfl rfl ?_
        refine V_aload_n (i := 3) dX6_channel_76 rfl rfl ?_
        refine V_get (C := RX1) (T := TX1) (N := 13) (ci := 1) (q := 7) (ref := "OrderChains$Channel") 0 rfl il_X6_channel_X1 rfl rfl fl_X6_channel_141 rfl rfl dX6_channel_77 ?_
        refine V_same (X' := [oO A ea n, eK G (ea 14) (val, own, mark, lw, bits, s, ch)]) (opK (P := [oO A ea n]) (Q := []) (a := (ea 14)) (e := (val, own, mark, lw, bits, s, ch))).symm ?_
        refine V_iret hR dX6_channel_80 hkc hks ?_
        subst e0
        exact ⟨⟨hz, by decide⟩, rfl, rfl⟩
      · refine V_top (b := 1) e0 ?_
        refine V_tableIn (tgt := 81) dX6_channel_28 (by omega) (by omega) (by omega) rfl rfl ?_
        refine V_aload_n (i := 3) dX6_channel_81 rfl rfl ?_
        refine V_get (C := RX1) (T := TX1) (N := 13) (ci := 1) (q := 7) (ref := "OrderChains$Channel") 1 rfl il_X6_channel_X1 rfl rfl fl_X6_channel_146 rfl rfl dX6_channel_82 ?_
        refine V_same (X' := [oO A ea n, eK G (ea 14) (val, own, mark, lw, bits, s, ch)]) (opK (P := [oO A ea n]) (Q := []) (a := (ea 14)) (e := (val, own, mark, lw, bits, s, ch))).symm ?_
        refine V_iret hR dX6_channel_85 hkc hks ?_
        subst e0
        exact ⟨⟨hz, by decide⟩, rfl, rfl⟩
      · refine V_top (b := 2) e0 ?_
        refine V_tableIn (tgt := 86) dX6_channel_28 (by omega) (by omega) (by omega) rfl rfl ?_
        refine V_aload_n (i := 3) dX6_channel_86 rfl rfl ?_
        refine V_get (C := RX1) (T := TX1) (N := 13) (ci := 1) (q := 7) (ref := "OrderChains$Channel") 2 rfl il_X6_channel_X1 rfl rfl fl_X6_channel_149 rfl rfl dX6_channel_87 ?_
        refine V_same (X' := [oO A ea n, eK G (ea 14) (val, own, mark, lw, bits, s, ch)]) (opK (P := [oO A ea n]) (Q := []) (a := (ea 14)) (e := (val, own, mark, lw, bits, s, ch))).symm ?_
        refine V_iret hR dX6_channel_90 hkc hks ?_
        subst e0
        exact ⟨⟨hz, by decide⟩, rfl, rfl⟩
      · refine V_top (b := 3) e0 ?_
        refine V_tableIn (tgt := 91) dX6_channel_28 (by omega) (by omega) (by omega) rfl rfl ?_
        refine V_aload_n (i := 3) dX6_channel_91 rfl rfl ?_
        refine V_get (C := RX1) (T := TX1) (N := 13) (ci := 1) (q := 7) (ref := "OrderChains$Channel") 5 rfl il_X6_channel_X1 rfl rfl fl_X6_channel_152 rfl rfl dX6_channel_92 ?_
        refine V_same (X' := [oO A ea n, eK G (ea 14) (val, own, mark, lw, bits, s, ch)]) (opK (P := [oO A ea n]) (Q := []) (a := (ea 14)) (e := (val, own, mark, lw, bits, s, ch))).symm ?_
        refine V_iret hR dX6_channel_95 hkc hks ?_
        subst e0
        exact ⟨⟨hz, by decide⟩, rfl, rfl⟩
      · refine V_top (b := 4) e0 ?_
        refine V_tableIn (tgt := 96) dX6_channel_28 (by omega) (by omega) (by omega) rfl rfl ?_
        refine V_aload_n (i := 3) dX6_channel_96 rfl rfl ?_
        refine V_callV (C := RX1) (q := 0) (ci := 1) (As := []) (rest := []) [7] (c_X1_hasOrder l G (ea 14 6) (ch 0) (by have := (hq 0 (by decide)).2.2.2.1; omega)) vy_X1_hasOrder gX6_channel_X1_hasOrder rfl rfl rfl rfl rfl rfl rfl ⟨rfl, rfl⟩ ⟨rfl, rfl⟩ ⟨Nat.zero_le _, Nat.zero_le _⟩ rfl dX6_channel_97 (fun v Y hE => ?_)
        obtain ⟨rfl, rfl⟩ := hE
        refine ⟨rfl, ?_⟩
        dsimp only [vfill, List.set_cons_zero, List.set_cons_succ, Option.toList, List.cons_append, List.nil_append, Nat.add_zero]
        refine V_if_eq (tgt := 110) (by split <;> decide) dX6_channel_100 rfl (fun h_100 => ?_) (fun h_100 => ?_)
        · refine V_bipush (v := 4294967287) dX6_channel_110 (by decide) ?_
          refine V_same (X' := [oO A ea n, eK G (ea 14) (val, own, mark, lw, bits, s, ch)]) (opK (P := [oO A ea n]) (Q := []) (a := (ea 14)) (e := (val, own, mark, lw, bits, s, ch))).symm ?_
          refine V_iret hR dX6_channel_112 hkc hks ?_
          subst e0
          refine ⟨⟨hz, by decide⟩, ?_, rfl⟩
          first | exact congrArg (fun x => some (Value.int (nI x))) (cv4a (b20 h_100)).symm | exact congrArg (fun x => some (Value.int (nI x))) (cv4b (b21 h_100)).symm
        · refine V_aload_n (i := 3) dX6_channel_103 rfl rfl ?_
          refine V_get (C := RX1) (T := TX1) (N := 13) (ci := 1) (q := 7) (ref := "OrderChains$Channel") 7 rfl il_X6_channel_X1 rfl rfl fl_X6_channel_159 rfl rfl dX6_channel_104 ?_
          refine V_goto (tgt := 112) dX6_channel_107 rfl ?_
          refine V_same (X' := [oO A ea n, eK G (ea 14) (val, own, mark, lw, bits, s, ch)]) (opK (P := [oO A ea n]) (Q := []) (a := (ea 14)) (e := (val, own, mark, lw, bits, s, ch))).symm ?_
          refine V_iret hR dX6_channel_112 hkc hks ?_
          subst e0
          refine ⟨⟨hz, by decide⟩, ?_, rfl⟩
          first | exact congrArg (fun x => some (Value.int (nI x))) (cv4a (b20 h_100)).symm | exact congrArg (fun x => some (Value.int (nI x))) (cv4b (b21 h_100)).symm
      · refine V_top (b := 5) e0 ?_
        refine V_tableIn (tgt := 113) dX6_channel_28 (by omega) (by omega) (by omega) rfl rfl ?_
        refine V_aload_n (i := 3) dX6_channel_113 rfl rfl ?_
        refine V_get (C := RX1) (T := TX1) (N := 13) (ci := 1) (q := 7) (ref := "OrderChains$Channel") 6 rfl il_X6_channel_X1 rfl rfl fl_X6_channel_162 rfl rfl dX6_channel_114 ?_
        refine V_same (X' := [oO A ea n, eK G (ea 14) (val, own, mark, lw, bits, s, ch)]) (opK (P := [oO A ea n]) (Q := []) (a := (ea 14)) (e := (val, own, mark, lw, bits, s, ch))).symm ?_
        refine V_iret hR dX6_channel_117 hkc hks ?_
        subst e0
        exact ⟨⟨hz, by decide⟩, rfl, rfl⟩
      · refine V_top (b := 6) e0 ?_
        refine V_tableIn (tgt := 118) dX6_channel_28 (by omega) (by omega) (by omega) rfl rfl ?_
        refine V_aload_n (i := 3) dX6_channel_118 rfl rfl ?_
        refine V_get (C := RX1) (T := TX1) (N := 13) (ci := 1) (q := 7) (ref := "OrderChains$Channel") 3 rfl il_X6_channel_X1 rfl rfl fl_X6_channel_165 rfl rfl dX6_channel_119 ?_
        refine V_same (X' := [oO A ea n, eK G (ea 14) (val, own, mark, lw, bits, s, ch)]) (opK (P := [oO A ea n]) (Q := []) (a := (ea 14)) (e := (val, own, mark, lw, bits, s, ch))).symm ?_
        refine V_iret hR dX6_channel_122 hkc hks ?_
        subst e0
        exact ⟨⟨hz, by decide⟩, rfl, rfl⟩
      · refine V_top (b := 7) e0 ?_
        refine V_tableIn (tgt := 123) dX6_channel_28 (by omega) (by omega) (by omega) rfl rfl ?_
        refine V_aload_n (i := 3) dX6_channel_123 rfl rfl ?_
        refine V_get (C := RX1) (T := TX1) (N := 13) (ci := 1) (q := 7) (ref := "OrderChains$Channel") 4 rfl il_X6_channel_X1 rfl rfl fl_X6_channel_168 rfl rfl dX6_channel_124 ?_
        refine V_same (X' := [oO A ea n, eK G (ea 14) (val, own, mark, lw, bits, s, ch)]) (opK (P := [oO A ea n]) (Q := []) (a := (ea 14)) (e := (val, own, mark, lw, bits, s, ch))).symm ?_
        refine V_iret hR dX6_channel_127 hkc hks ?_
        subst e0
        exact ⟨⟨hz, by decide⟩, rfl, rfl⟩
      · skip
        refine V_tableOut (tgt := 128) dX6_channel_28 (pk_out (b := 7) hw (by omega) (by decide)) rfl ?_
        refine V_same (X' := [oO A ea n, eK G (ea 14) (val, own, mark, lw, bits, s, ch)]) (opK (P := [oO A ea n]) (Q := []) (a := (ea 14)) (e := (val, own, mark, lw, bits, s, ch))).symm ?_
        refine V_IAE (is := 171) (text := "no such number of a channel") hT rfl xk_X6_channel_56 xi_X6_channel_56 xw_X6_channel_60 (List.mem_of_getElem? (i := 4) rfl) ⟨rfl, rfl⟩ hmx hmx dX6_channel_128 dX6_channel_131 dX6_channel_132 dX6_channel_134 dX6_channel_137 ?_
        exact ⟨Or.inr ⟨rfl, hz, by omega⟩, rfl⟩
    · refine V_get (C := RX6) (T := TX6) (N := 9) (ci := 5) (q := 0) (ref := "OrderChains") 3 rfl il_X6_channel_X6 rfl rfl fl_X6_channel_27 rfl rfl dX6_channel_18 ?_
      refine V_get (C := RX2) (T := TX2) (N := 11) (ci := 2) (q := 1) (ref := "OrderChains$Engine") 4 rfl il_X6_channel_X2 rfl rfl fl_X6_channel_137 rfl rfl dX6_channel_21 ?_
      refine V_iload_n (i := 1) dX6_channel_24 rfl rfl ?_
      refine V_aaldC (q := 6) rfl (by omega) rfl dX6_channel_25 ?_
      refine V_astore_n (i := 3) dX6_channel_26 rfl rfl rfl ?_
      dsimp only [List.set_cons_zero, List.set_cons_succ]
      refine V_iload_n (i := 2) dX6_channel_27 rfl rfl ?_
      rcases (show w = 0 ∨ w = 1 ∨ w = 2 ∨ w = 3 ∨ w = 4 ∨ w = 5 ∨ w = 6 ∨ w = 7 ∨ ¬ w < 8 by omega) with e0 | e0 | e0 | e0 | e0 | e0 | e0 | e0 | e0
      · refine V_top (b := 0) e0 ?_
        refine V_tableIn (tgt := 76) dX6_channel_28 (by omega) (by omega) (by omega) rfl rfl ?_
        refine V_aload_n (i := 3) dX6_channel_76 rfl rfl ?_
        refine V_get (C := RX1) (T := TX1) (N := 13) (ci := 1) (q := 8) (ref := "OrderChains$Channel") 0 rfl il_X6_channel_X1 rfl rfl fl_X6_channel_141 rfl rfl dX6_channel_77 ?_
        refine V_same (X' := [oO A ea n, eK G (ea 14) (val, own, mark, lw, bits, s, ch)]) (opK (P := [oO A ea n]) (Q := []) (a := (ea 14)) (e := (val, own, mark, lw, bits, s, ch))).symm ?_
        refine V_iret hR dX6_channel_80 hkc hks ?_
        subst e0
        exact ⟨⟨hz, by decide⟩, rfl, rfl⟩
      · refine V_top (b := 1) e0 ?_
        refine V_tableIn (tgt := 81) dX6_channel_28 (by omega) (by omega) (by omega) rfl rfl ?_
        refine V_aload_n (i := 3) dX6_channel_81 rfl rfl ?_
        refine V_get (C := RX1) (T := TX1) (N := 13) (ci := 1) (q := 8) (ref := "OrderChains$Channel") 1 rfl il_X6_channel_X1 rfl rfl fl_X6_channel_146 rfl rfl dX6_channel_82 ?_
        refine V_same (X' := [oO A ea n, eK G (ea 14) (val, own, mark, lw, bits, s, ch)]) (opK (P := [oO A ea n]) (Q := []) (a := (ea 14)) (e := (val, own, mark, lw, bits, s, ch))).symm ?_
        refine V_iret hR dX6_channel_85 hkc hks ?_
        subst e0
        exact ⟨⟨hz, by decide⟩, rfl, rfl⟩
      · refine V_top (b := 2) e0 ?_
        refine V_tableIn (tgt := 86) dX6_channel_28 (by omega) (by omega) (by omega) rfl rfl ?_
        refine V_aload_n (i := 3) dX6_channel_86 rfl rfl ?_
        refine V_get (C := RX1) (T := TX1) (N := 13) (ci := 1) (q := 8) (ref := "OrderChains$Channel") 2 rfl il_X6_channel_X1 rfl rfl fl_X6_channel_149 rfl rfl dX6_channel_87 ?_
        refine V_same (X' := [oO A ea n, eK G (ea 14) (val, own, mark, lw, bits, s, ch)]) (opK (P := [oO A ea n]) (Q := []) (a := (ea 14)) (e := (val, own, mark, lw, bits, s, ch))).symm ?_
        refine V_iret hR dX6_channel_90 hkc hks ?_
        subst e0
        exact ⟨⟨hz, by decide⟩, rfl, rfl⟩
      · refine V_top (b := 3) e0 ?_
        refine V_tableIn (tgt := 91) dX6_channel_28 (by omega) (by omega) (by omega) rfl rfl ?_
        refine V_aload_n (i := 3) dX6_channel_91 rfl rfl ?_
        refine V_get (C := RX1) (T := TX1) (N := 13) (ci := 1) (q := 8) (ref := "OrderChains$Channel") 5 rfl il_X6_channel_X1 rfl rfl fl_X6_channel_152 rfl rfl dX6_channel_92 ?_
        refine V_same (X' := [oO A ea n, eK G (ea 14) (val, own, mark, lw, bits, s, ch)]) (opK (P := [oO A ea n]) (Q := []) (a := (ea 14)) (e := (val, own, mark, lw, bits, s, ch))).symm ?_
        refine V_iret hR dX6_channel_95 hkc hks ?_
        subst e0
        exact ⟨⟨hz, by decide⟩, rfl, rfl⟩
      · refine V_top (b := 4) e0 ?_
        refine V_tableIn (tgt := 96) dX6_channel_28 (by omega) (by omega) (by omega) rfl rfl ?_
        refine V_aload_n (i := 3) dX6_channel_96 rfl rfl ?_
        refine V_callV (C := RX1) (q := 0) (ci := 1) (As := []) (rest := []) [8] (c_X1_hasOrder l G (ea 14 7) (ch 1) (by have := (hq 1 (by decide)).2.2.2.1; omega)) vy_X1_hasOrder gX6_channel_X1_hasOrder rfl rfl rfl rfl rfl rfl rfl ⟨rfl, rfl⟩ ⟨rfl, rfl⟩ ⟨Nat.zero_le _, Nat.zero_le _⟩ rfl dX6_channel_97 (fun v Y hE => ?_)
        obtain ⟨rfl, rfl⟩ := hE
        refine ⟨rfl, ?_⟩
        dsimp only [vfill, List.set_cons_zero, List.set_cons_succ, Option.toList, List.cons_append, List.nil_append, Nat.add_zero]
        refine V_if_eq (tgt := 110) (by split <;> decide) dX6_channel_100 rfl (fun h_100 => ?_) (fun h_100 => ?_)
        · refine V_bipush (v := 4294967287) dX6_channel_110 (by decide) ?_
          refine V_same (X' := [oO A ea n, eK G (ea 14) (val, own, mark, lw, bits, s, ch)]) (opK (P := [oO A ea n]) (Q := []) (a := (ea 14)) (e := (val, own, mark, lw, bits, s, ch))).symm ?_
          refine V_iret hR dX6_channel_112 hkc hks ?_
          subst e0
          refine ⟨⟨hz, by decide⟩, ?_, rfl⟩
          first | exact congrArg (fun x => some (Value.int (nI x))) (cv4a (b20 h_100)).symm | exact congrArg (fun x => some (Value.int (nI x))) (cv4b (b21 h_100)).symm
        · refine V_aload_n (i := 3) dX6_channel_103 rfl rfl ?_
          refine V_get (C := RX1) (T := TX1) (N := 13) (ci := 1) (q := 8) (ref := "OrderChains$Channel") 7 rfl il_X6_channel_X1 rfl rfl fl_X6_channel_159 rfl rfl dX6_channel_104 ?_
          refine V_goto (tgt := 112) dX6_channel_107 rfl ?_
          refine V_same (X' := [oO A ea n, eK G (ea 14) (val, own, mark, lw, bits, s, ch)]) (opK (P := [oO A ea n]) (Q := []) (a := (ea 14)) (e := (val, own, mark, lw, bits, s, ch))).symm ?_
          refine V_iret hR dX6_channel_112 hkc hks ?_
          subst e0
          refine ⟨⟨hz, by decide⟩, ?_, rfl⟩
          first | exact congrArg (fun x => some (Value.int (nI x))) (cv4a (b20 h_100)).symm | exact congrArg (fun x => some (Value.int (nI x))) (cv4b (b21 h_100)).symm
      · refine V_top (b := 5) e0 ?_
        refine V_tableIn (tgt := 113) dX6_channel_28 (by omega) (by omega) (by omega) rfl rfl ?_
        refine V_aload_n (i := 3) dX6_channel_113 rfl rfl ?_
        refine V_get (C := RX1) (T := TX1) (N := 13) (ci := 1) (q := 8) (ref := "OrderChains$Channel") 6 rfl il_X6_channel_X1 rfl rfl fl_X6_channel_162 rfl rfl dX6_channel_114 ?_
        refine V_same (X' := [oO A ea n, eK G (ea 14) (val, own, mark, lw, bits, s, ch)]) (opK (P := [oO A ea n]) (Q := []) (a := (ea 14)) (e := (val, own, mark, lw, bits, s, ch))).symm ?_
        refine V_iret hR dX6_channel_117 hkc hks ?_
        subst e0
        exact ⟨⟨hz, by decide⟩, rfl, rfl⟩
      · refine V_top (b := 6) e0 ?_
        refine V_tableIn (tgt := 118) dX6_channel_28 (by omega) (by omega) (by omega) rfl rfl ?_
        refine V_aload_n (i := 3) dX6_channel_118 rfl rfl ?_
        refine V_get (C := RX1) (T := TX1) (N := 13) (ci := 1) (q := 8) (ref := "OrderChains$Channel") 3 rfl il_X6_channel_X1 rfl rfl fl_X6_channel_165 rfl rfl dX6_channel_119 ?_
        refine V_same (X' := [oO A ea n, eK G (ea 14) (val, own, mark, lw, bits, s, ch)]) (opK (P := [oO A ea n]) (Q := []) (a := (ea 14)) (e := (val, own, mark, lw, bits, s, ch))).symm ?_
        refine V_iret hR dX6_channel_122 hkc hks ?_
        subst e0
        exact ⟨⟨hz, by decide⟩, rfl, rfl⟩
      · refine V_top (b := 7) e0 ?_
        refine V_tableIn (tgt := 123) dX6_channel_28 (by omega) (by omega) (by omega) rfl rfl ?_
        refine V_aload_n (i := 3) dX6_channel_123 rfl rfl ?_
        refine V_get (C := RX1) (T := TX1) (N := 13) (ci := 1) (q := 8) (ref := "OrderChains$Channel") 4 rfl il_X6_channel_X1 rfl rfl fl_X6_channel_168 rfl rfl dX6_channel_124 ?_
        refine V_same (X' := [oO A ea n, eK G (ea 14) (val, own, mark, lw, bits, s, ch)]) (opK (P := [oO A ea n]) (Q := []) (a := (ea 14)) (e := (val, own, mark, lw, bits, s, ch))).symm ?_
        refine V_iret hR dX6_channel_127 hkc hks ?_
        subst e0
        exact ⟨⟨hz, by decide⟩, rfl, rfl⟩
      · skip
        refine V_tableOut (tgt := 128) dX6_channel_28 (pk_out (b := 7) hw (by omega) (by decide)) rfl ?_
        refine V_same (X' := [oO A ea n, eK G (ea 14) (val, own, mark, lw, bits, s, ch)]) (opK (P := [oO A ea n]) (Q := []) (a := (ea 14)) (e := (val, own, mark, lw, bits, s, ch))).symm ?_
        refine V_IAE (is := 171) (text := "no such number of a channel") hT rfl xk_X6_channel_56 xi_X6_channel_56 xw_X6_channel_60 (List.mem_of_getElem? (i := 4) rfl) ⟨rfl, rfl⟩ hmx hmx dX6_channel_128 dX6_channel_131 dX6_channel_132 dX6_channel_134 dX6_channel_137 ?_
        exact ⟨Or.inr ⟨rfl, hz, by omega⟩, rfl⟩
    · refine V_get (C := RX6) (T := TX6) (N := 9) (ci := 5) (q := 0) (ref := "OrderChains") 3 rfl il_X6_channel_X6 rfl rfl fl_X6_channel_27 rfl rfl dX6_channel_18 ?_
      refine V_get (C := RX2) (T := TX2) (N := 11) (ci := 2) (q := 1) (ref := "OrderChains$Engine") 4 rfl il_X6_channel_X2 rfl rfl fl_X6_channel_137 rfl rfl dX6_channel_21 ?_
      refine V_iload_n (i := 1) dX6_channel_24 rfl rfl ?_
      refine V_aaldC (q := 6) rfl (by omega) rfl dX6_channel_25 ?_
      refine V_astore_n (i := 3) dX6_channel_26 rfl rfl rfl ?_
      dsimp only [List.set_cons_zero, List.set_cons_succ]
      refine V_iload_n (i := 2) dX6_channel_27 rfl rfl ?_
      rcases (show w = 0 ∨ w = 1 ∨ w = 2 ∨ w = 3 ∨ w = 4 ∨ w = 5 ∨ w = 6 ∨ w = 7 ∨ ¬ w < 8 by omega) with e0 | e0 | e0 | e0 | e0 | e0 | e0 | e0 | e0
      · refine V_top (b := 0) e0 ?_
        refine V_tableIn (tgt := 76) dX6_channel_28 (by omega) (by omega) (by omega) rfl rfl ?_
        refine V_aload_n (i := 3) dX6_channel_76 rfl rfl ?_
        refine V_get (C := RX1) (T := TX1) (N := 13) (ci := 1) (q := 9) (ref := "OrderChains$Channel") 0 rfl il_X6_channel_X1 rfl rfl fl_X6_channel_141 rfl rfl dX6_channel_77 ?_
        refine V_same (X' := [oO A ea n, eK G (ea 14) (val, own, mark, lw, bits, s, ch)]) (opK (P := [oO A ea n]) (Q := []) (a := (ea 14)) (e := (val, own, mark, lw, bits, s, ch))).symm ?_
        refine V_iret hR dX6_channel_80 hkc hks ?_
        subst e0
        exact ⟨⟨hz, by decide⟩, rfl, rfl⟩
      · refine V_top (b := 1) e0 ?_
        refine V_tableIn (tgt := 81) dX6_channel_28 (by omega) (by omega) (by omega) rfl rfl ?_
        refine V_aload_n (i := 3) dX6_channel_81 rfl rfl ?_
        refine V_get (C := RX1) (T := TX1) (N := 13) (ci := 1) (q := 9) (ref := "OrderChains$Channel") 1 rfl il_X6_channel_X1 rfl rfl fl_X6_channel_146 rfl rfl dX6_channel_82 ?_
        refine V_same (X' := [oO A ea n, eK G (ea 14) (val, own, mark, lw, bits, s, ch)]) (opK (P := [oO A ea n]) (Q := []) (a := (ea 14)) (e := (val, own, mark, lw, bits, s, ch))).symm ?_
        refine V_iret hR dX6_channel_85 hkc hks ?_
        subst e0
        exact ⟨⟨hz, by decide⟩, rfl, rfl⟩
      · refine V_top (b := 2) e0 ?_
        refine V_tableIn (tgt := 86) dX6_channel_28 (by omega) (by omega) (by omega) rfl rfl ?_
        refine V_aload_n (i := 3) dX6_channel_86 rfl rfl ?_
        refine V_get (C := RX1) (T := TX1) (N := 13) (ci := 1) (q := 9) (ref := "OrderChains$Channel") 2 rfl il_X6_channel_X1 rfl rfl fl_X6_channel_149 rfl rfl dX6_channel_87 ?_
        refine V_same (X' := [oO A ea n, eK G (ea 14) (val, own, mark, lw, bits, s, ch)]) (opK (P := [oO A ea n]) (Q := []) (a := (ea 14)) (e := (val, own, mark, lw, bits, s, ch))).symm ?_
        refine V_iret hR dX6_channel_90 hkc hks ?_
        subst e0
        exact ⟨⟨hz, by decide⟩, rfl, rfl⟩
      · refine V_top (b := 3) e0 ?_
        refine V_tableIn (tgt := 91) dX6_channel_28 (by omega) (by omega) (by omega) rfl rfl ?_
        refine V_aload_n (i := 3) dX6_channel_91 rfl rfl ?_
        refine V_get (C := RX1) (T := TX1) (N := 13) (ci := 1) (q := 9) (ref := "OrderChains$Channel") 5 rfl il_X6_channel_X1 rfl rfl fl_X6_channel_152 rfl rfl dX6_channel_92 ?_
        refine V_same (X' := [oO A ea n, eK G (ea 14) (val, own, mark, lw, bits, s, ch)]) (opK (P := [oO A ea n]) (Q := []) (a := (ea 14)) (e := (val, own, mark, lw, bits, s, ch))).symm ?_
        refine V_iret hR dX6_channel_95 hkc hks ?_
        subst e0
        exact ⟨⟨hz, by decide⟩, rfl, rfl⟩
      · refine V_top (b := 4) e0 ?_
        refine V_tableIn (tgt := 96) dX6_channel_28 (by omega) (by omega) (by omega) rfl rfl ?_
        refine V_aload_n (i := 3) dX6_channel_96 rfl rfl ?_
        refine V_callV (C := RX1) (q := 0) (ci := 1) (As := []) (rest := []) [9] (c_X1_hasOrder l G (ea 14 8) (ch 2) (by have := (hq 2 (by decide)).2.2.2.1; omega)) vy_X1_hasOrder gX6_channel_X1_hasOrder rfl rfl rfl rfl rfl rfl rfl ⟨rfl, rfl⟩ ⟨rfl, rfl⟩ ⟨Nat.zero_le _, Nat.zero_le _⟩ rfl dX6_channel_97 (fun v Y hE => ?_)
        obtain ⟨rfl, rfl⟩ := hE
        refine ⟨rfl, ?_⟩
        dsimp only [vfill, List.set_cons_zero, List.set_cons_succ, Option.toList, List.cons_append, List.nil_append, Nat.add_zero]
        refine V_if_eq (tgt := 110) (by split <;> decide) dX6_channel_100 rfl (fun h_100 => ?_) (fun h_100 => ?_)
        · refine V_bipush (v := 4294967287) dX6_channel_110 (by decide) ?_
          refine V_same (X' := [oO A ea n, eK G (ea 14) (val, own, mark, lw, bits, s, ch)]) (opK (P := [oO A ea n]) (Q := []) (a := (ea 14)) (e := (val, own, mark, lw, bits, s, ch))).symm ?_
          refine V_iret hR dX6_channel_112 hkc hks ?_
          subst e0
          refine ⟨⟨hz, by decide⟩, ?_, rfl⟩
          first | exact congrArg (fun x => some (Value.int (nI x))) (cv4a (b20 h_100)).symm | exact congrArg (fun x => some (Value.int (nI x))) (cv4b (b21 h_100)).symm
        · refine V_aload_n (i := 3) dX6_channel_103 rfl rfl ?_
          refine V_get (C := RX1) (T := TX1) (N := 13) (ci := 1) (q := 9) (ref := "OrderChains$Channel") 7 rfl il_X6_channel_X1 rfl rfl fl_X6_channel_159 rfl rfl dX6_channel_104 ?_
          refine V_goto (tgt := 112) dX6_channel_107 rfl ?_
          refine V_same (X' := [oO A ea n, eK G (ea 14) (val, own, mark, lw, bits, s, ch)]) (opK (P := [oO A ea n]) (Q := []) (a := (ea 14)) (e := (val, own, mark, lw, bits, s, ch))).symm ?_
          refine V_iret hR dX6_channel_112 hkc hks ?_
          subst e0
          refine ⟨⟨hz, by decide⟩, ?_, rfl⟩
          first | exact congrArg (fun x => some (Value.int (nI x))) (cv4a (b20 h_100)).symm | exact congrArg (fun x => some (Value.int (nI x))) (cv4b (b21 h_100)).symm
      · refine V_top (b := 5) e0 ?_
        refine V_tableIn (tgt := 113) dX6_channel_28 (by omega) (by omega) (by omega) rfl rfl ?_
        refine V_aload_n (i := 3) dX6_channel_113 rfl rfl ?_
        refine V_get (C := RX1) (T := TX1) (N := 13) (ci := 1) (q := 9) (ref := "OrderChains$Channel") 6 rfl il_X6_channel_X1 rfl rfl fl_X6_channel_162 rfl rfl dX6_channel_114 ?_
        refine V_same (X' := [oO A ea n, eK G (ea 14) (val, own, mark, lw, bits, s, ch)]) (opK (P := [oO A ea n]) (Q := []) (a := (ea 14)) (e := (val, own, mark, lw, bits, s, ch))).symm ?_
        refine V_iret hR dX6_channel_117 hkc hks ?_
        subst e0
        exact ⟨⟨hz, by decide⟩, rfl, rfl⟩
      · refine V_top (b := 6) e0 ?_
        refine V_tableIn (tgt := 118) dX6_channel_28 (by omega) (by omega) (by omega) rfl rfl ?_
        refine V_aload_n (i := 3) dX6_channel_118 rfl rfl ?_
        refine V_get (C := RX1) (T := TX1) (N := 13) (ci := 1) (q := 9) (ref := "OrderChains$Channel") 3 rfl il_X6_channel_X1 rfl rfl fl_X6_channel_165 rfl rfl dX6_channel_119 ?_
        refine V_same (X' := [oO A ea n, eK G (ea 14) (val, own, mark, lw, bits, s, ch)]) (opK (P := [oO A ea n]) (Q := []) (a := (ea 14)) (e := (val, own, mark, lw, bits, s, ch))).symm ?_
        refine V_iret hR dX6_channel_122 hkc hks ?_
        subst e0
        exact ⟨⟨hz, by decide⟩, rfl, rfl⟩
      · refine V_top (b := 7) e0 ?_
        refine V_tableIn (tgt := 123) dX6_channel_28 (by omega) (by omega) (by omega) rfl rfl ?_
        refine V_aload_n (i := 3) dX6_channel_123 rfl rfl ?_
        refine V_get (C := RX1) (T := TX1) (N := 13) (ci := 1) (q := 9) (ref := "OrderChains$Channel") 4 rfl il_X6_channel_X1 rfl rfl fl_X6_channel_168 rfl rfl dX6_channel_124 ?_
        refine V_same (X' := [oO A ea n, eK G (ea 14) (val, own, mark, lw, bits, s, ch)]) (opK (P := [oO A ea n]) (Q := []) (a := (ea 14)) (e := (val, own, mark, lw, bits, s, ch))).symm ?_
        refine V_iret hR dX6_channel_127 hkc hks ?_
        subst e0
        exact ⟨⟨hz, by decide⟩, rfl, rfl⟩
      · skip
        refine V_tableOut (tgt := 128) dX6_channel_28 (pk_out (b := 7) hw (by omega) (by decide)) rfl ?_
        refine V_same (X' := [oO A ea n, eK G (ea 14) (val, own, mark, lw, bits, s, ch)]) (opK (P := [oO A ea n]) (Q := []) (a := (ea 14)) (e := (val, own, mark, lw, bits, s, ch))).symm ?_
        refine V_IAE (is := 171) (text := "no such number of a channel") hT rfl xk_X6_channel_56 xi_X6_channel_56 xw_X6_channel_60 (List.mem_of_getElem? (i := 4) rfl) ⟨rfl, rfl⟩ hmx hmx dX6_channel_128 dX6_channel_131 dX6_channel_132 dX6_channel_134 dX6_channel_137 ?_
        exact ⟨Or.inr ⟨rfl, hz, by omega⟩, rfl⟩
  · refine V_IOB (is := 135) (text := "no such channel") hT rfl xk_X6_channel_113 xi_X6_channel_113 xw_X6_channel_117 (List.mem_of_getElem? (i := 3) rfl) ⟨rfl, rfl⟩ hmx hmx dX6_channel_7 dX6_channel_10 dX6_channel_11 dX6_channel_13 dX6_channel_16 ?_
    exact ⟨Or.inl ⟨rfl, b00 h_4⟩, rfl⟩

abbrev rX6_about : Room := { frames := 6, cells := 1, slots := 6, locals := 92 }
theorem vy_X6_about : vY yX6_about wsX6_about cX6_about 2 (some .int) 1 := ⟨⟨_, rfl⟩, by decide +kernel, by decide +kernel, by decide +kernel⟩
theorem fl_X6_about_27 : Cond.fieldLink RX6 27 "OrderChains" "live" "LOrderChains$Engine;" ∈ wsX6_about := List.mem_of_getElem? (i := 3) rfl
theorem il_X6_about_X6 : ∀ w ∈ wsX60, w ∈ wsX6_about := fun _ h => List.mem_cons_of_mem _ (List.mem_append_left _ (List.mem_append_left _ (List.mem_append_left _ (List.mem_append_right _ h))))
theorem fl_X6_about_85 : Cond.fieldLink RX6 85 "OrderChains$Engine" "ticks" "I" ∈ wsX6_about := List.mem_of_getElem? (i := 4) rfl
theorem il_X6_about_X2 : ∀ w ∈ wsX20, w ∈ wsX6_about := fun _ h => List.mem_cons_of_mem _ (List.mem_append_left _ (List.mem_append_left _ (List.mem_append_right _ h)))
theorem fl_X6_about_95 : Cond.fieldLink RX6 95 "OrderChains$Engine" "edits" "I" ∈ wsX6_about := List.mem_of_getElem? (i := 5) rfl
theorem fl_X6_about_98 : Cond.fieldLink RX6 98 "OrderChains$Engine" "writes" "I" ∈ wsX6_about := List.mem_of_getElem? (i := 6) rfl
theorem xk_X6_about_56 : Cond.classLink RX6 56 "java/lang/IllegalArgumentException" ∈ wsX6_about := List.mem_of_getElem? (i := 1) rfl
theorem xi_X6_about_56 : Cond.initialized "java/lang/IllegalArgumentException" ∈ wsX6_about := List.mem_of_getElem? (i := 2) rfl
theorem xw_X6_about_60 : ∀ w ∈ (vx_atS RX6 60 sIAE nms).filter goodWord, w ∈ wsX6_about := fun _ h => List.mem_cons_of_mem _ (List.mem_append_right _ h)
set_option maxHeartbeats 4000000 in
set_option maxRecDepth 100000 in
/-- about -/
theorem c_X6_about (l : Launch) (hst : l.stackTraces = false) (G : vG) (A : Nat → Nat) (ea : Nat → Nat → Nat) (n w : Nat) (e : vE) (he : eB e) (hw : w < 4294967296) : Kx l G yX6_about wsX6_about rX6_about [.ref (A 0), .int (nI w)] [oO A ea n, eK G (ea 14) e] (fun v Y => w < 10 ∧ v = some (.int (nI (aboutV e w))) ∧ Y = [oO A ea n, eK G (ea 14) e]) (fun c Y => (c = sIAE ∧ ¬ w < 10) ∧ Y = [oO A ea n, eK G (ea 14) e]) 1 6 := by
  refine V_enterX (own := RX6) [some (.ref (A 0)), some (.int (nI w))] hst (by decide +kernel) rfl rfl (Nat.le_of_ble_eq_true rfl) rfl (fun Γ hR hT => ?_)
  have hkc : 0 ≤ 1 := Nat.zero_le _
  have hks : 0 ≤ 6 := Nat.zero_le _
  have hmx : 0 + 1 ≤ 1 ∧ 0 + 6 ≤ 6 := ⟨by decide, by decide⟩
  obtain ⟨val, own, mark, lw, bits, s, ch⟩ := e
  obtain ⟨hv, ho, hm, hb, hs0, hs4, hq⟩ := id he
  dsimp only at hv ho hm hb hs0 hs4 hq
  refine V_iload_n (i := 1) dX6_about_0 rfl rfl ?_
  rcases (show w = 0 ∨ w = 1 ∨ w = 2 ∨ w = 3 ∨ w = 4 ∨ w = 5 ∨ w = 6 ∨ w = 7 ∨ w = 8 ∨ w = 9 ∨ ¬ w < 10 by omega) with e0 | e0 | e0 | e0 | e0 | e0 | e0 | e0 | e0 | e0 | e0
  · refine V_top (b := 0) e0 ?_
    refine V_tableIn (tgt := 56) dX6_about_1 (by omega) (by omega) (by omega) rfl rfl ?_
    refine V_same (X' := [oO A ea n, eO (ea 14) s, iA G ((ea 14) 1) 96 val, iA G ((ea 14) 2) 96 own, iA G ((ea 14) 3) 96 mark, iA G ((ea 14) 4) 96 lw, eC G (ea 14), cX ((ea 14) 6) (ch 0), cX ((ea 14) 7) (ch 1), cX ((ea 14) 8) (ch 2), iA G ((ea 14) 9) 96 bits]) (opK (P := [oO A ea n]) (Q := []) (a := (ea 14)) (e := (val, own, mark, lw, bits, s, ch))) ?_
    refine V_aload_n (i := 0) dX6_about_56 rfl rfl ?_
    refine V_get (C := RX6) (T := TX6) (N := 9) (ci := 5) (q := 0) (ref := "OrderChains") 3 rfl il_X6_about_X6 rfl rfl fl_X6_about_27 rfl rfl dX6_about_57 ?_
    refine V_get (C := RX2) (T := TX2) (N := 11) (ci := 2) (q := 1) (ref := "OrderChains$Engine") 6 rfl il_X6_about_X2 rfl rfl fl_X6_about_85 rfl rfl dX6_about_60 ?_
    refine V_same (X' := [oO A ea n, eK G (ea 14) (val, own, mark, lw, bits, s, ch)]) (opK (P := [oO A ea n]) (Q := []) (a := (ea 14)) (e := (val, own, mark, lw, bits, s, ch))).symm ?_
    refine V_iret hR dX6_about_63 hkc hks ?_
    subst e0
    exact ⟨by decide, rfl, rfl⟩
  · refine V_top (b := 1) e0 ?_
    refine V_tableIn (tgt := 64) dX6_about_1 (by omega) (by omega) (by omega) rfl rfl ?_
    refine V_aload_n (i := 0) dX6_about_64 rfl rfl ?_
    refine V_get (C := RX6) (T := TX6) (N := 9) (ci := 5) (q := 0) (ref := "OrderChains") 3 rfl il_X6_about_X6 rfl rfl fl_X6_about_27 rfl rfl dX6_about_65 ?_
    refine V_iconst (v := 1) dX6_about_68 rfl ?_
    refine V_callV (C := RX2) (q := 0) (ci := 2) (As := _) (rest := []) [1] (c_X2_channelsThatAreK l G (ea 14) (val, own, mark, lw, bits, s, ch) 1 (by decide) he) vy_X2_channelsThatAre gX6_about_X2_channelsThatAre rfl rfl rfl rfl rfl rfl rfl ⟨rfl, rfl⟩ ⟨rfl, rfl⟩ ⟨Nat.zero_le _, Nat.zero_le _⟩ rfl dX6_about_69 (fun v Y hE => ?_)
    obtain ⟨rfl, rfl⟩ := hE
    refine ⟨rfl, ?_⟩
    dsimp only [vfill, List.set_cons_zero, List.set_cons_succ, Option.toList, List.cons_append, List.nil_append, Nat.add_zero]
    refine V_iret hR dX6_about_72 hkc hks ?_
    subst e0
    exact ⟨by decide, rfl, rfl⟩
  · refine V_top (b := 2) e0 ?_
    refine V_tableIn (tgt := 73) dX6_about_1 (by omega) (by omega) (by omega) rfl rfl ?_
    refine V_aload_n (i := 0) dX6_about_73 rfl rfl ?_
    refine V_get (C := RX6) (T := TX6) (N := 9) (ci := 5) (q := 0) (ref := "OrderChains") 3 rfl il_X6_about_X6 rfl rfl fl_X6_about_27 rfl rfl dX6_about_74 ?_
    refine V_iconst (v := 2) dX6_about_77 rfl ?_
    refine V_callV (C := RX2) (q := 0) (ci := 2) (As := _) (rest := []) [1] (c_X2_channelsThatAreK l G (ea 14) (val, own, mark, lw, bits, s, ch) 2 (by decide) he) vy_X2_channelsThatAre gX6_about_X2_channelsThatAre rfl rfl rfl rfl rfl rfl rfl ⟨rfl, rfl⟩ ⟨rfl, rfl⟩ ⟨Nat.zero_le _, Nat.zero_le _⟩ rfl dX6_about_78 (fun v Y hE => ?_)
    obtain ⟨rfl, rfl⟩ := hE
    refine ⟨rfl, ?_⟩
    dsimp only [vfill, List.set_cons_zero, List.set_cons_succ, Option.toList, List.cons_append, List.nil_append, Nat.add_zero]
    refine V_iret hR dX6_about_81 hkc hks ?_
    subst e0
    exact ⟨by decide, rfl, rfl⟩
  · refine V_top (b := 3) e0 ?_
    refine V_tableIn (tgt := 82) dX6_about_1 (by omega) (by omega) (by omega) rfl rfl ?_
    refine V_aload_n (i := 0) dX6_about_82 rfl rfl ?_
    refine V_get (C := RX6) (T := TX6) (N := 9) (ci := 5) (q := 0) (ref := "OrderChains") 3 rfl il_X6_about_X6 rfl rfl fl_X6_about_27 rfl rfl dX6_about_83 ?_
    refine V_iconst (v := 3) dX6_about_86 rfl ?_
    refine V_callV (C := RX2) (q := 0) (ci := 2) (As := _) (rest := []) [1] (c_X2_channelsThatAreK l G (ea 14) (val, own, mark, lw, bits, s, ch) 3 (by decide) he) vy_X2_channelsThatAre gX6_about_X2_channelsThatAre rfl rfl rfl rfl rfl rfl rfl ⟨rfl, rfl⟩ ⟨rfl, rfl⟩ ⟨Nat.zero_le _, Nat.zero_le _⟩ rfl dX6_about_87 (fun v Y hE => ?_)
    obtain ⟨rfl, rfl⟩ := hE
    refine ⟨rfl, ?_⟩
    dsimp only [vfill, List.set_cons_zero, List.set_cons_succ, Option.toList, List.cons_append, List.nil_append, Nat.add_zero]
    refine V_iret hR dX6_about_90 hkc hks ?_
    subst e0
    exact ⟨by decide, rfl, rfl⟩
  · refine V_top (b := 4) e0 ?_
    refine V_tableIn (tgt := 91) dX6_about_1 (by omega) (by omega) (by omega) rfl rfl ?_
    refine V_same (X' := [oO A ea n, eO (ea 14) s, iA G ((ea 14) 1) 96 val, iA G ((ea 14) 2) 96 own, iA G ((ea 14) 3) 96 mark, iA G ((ea 14) 4) 96 lw, eC G (ea 14), cX ((ea 14) 6) (ch 0), cX ((ea 14) 7) (ch 1), cX ((ea 14) 8) (ch 2), iA G ((ea 14) 9) 96 bits]) (opK (P := [oO A ea n]) (Q := []) (a := (ea 14)) (e := (val, own, mark, lw, bits, s, ch))) ?_
    refine V_aload_n (i := 0) dX6_about_91 rfl rfl ?_
    refine V_get (C := RX6) (T := TX6) (N := 9) (ci := 5) (q := 0) (ref := "OrderChains") 3 rfl il_X6_about_X6 rfl rfl fl_X6_about_27 rfl rfl dX6_about_92 ?_
    refine V_callV (C := RX2) (q := 0) (ci := 2) (As := []) (rest := []) [1, 6, 7, 8, 9] (c_X2_nextTurn l G (ea 14) s ch hs0 (by have := (hq 0 (by decide)).1; omega) (by have := (hq 1 (by decide)).1; omega) (by have := (hq 2 (by decide)).1; omega)) vy_X2_nextTurn gX6_about_X2_nextTurn rfl rfl rfl rfl rfl rfl rfl ⟨rfl, rfl⟩ ⟨rfl, rfl⟩ ⟨Nat.zero_le _, Nat.zero_le _⟩ rfl dX6_about_95 (fun v Y hE => ?_)
    obtain ⟨rfl, rfl⟩ := hE
    refine ⟨rfl, ?_⟩
    dsimp only [vfill, List.set_cons_zero, List.set_cons_succ, Option.toList, List.cons_append, List.nil_append, Nat.add_zero]
    refine V_same (X' := [oO A ea n, eK G (ea 14) (val, own, mark, lw, bits, s, ch)]) (opK (P := [oO A ea n]) (Q := []) (a := (ea 14)) (e := (val, own, mark, lw, bits, s, ch))).symm ?_
    refine V_iret hR dX6_about_98 hkc hks ?_
    subst e0
    exact ⟨by decide, rfl, rfl⟩
  · refine V_top (b := 5) e0 ?_
    refine V_tableIn (tgt := 99) dX6_about_1 (by omega) (by omega) (by omega) rfl rfl ?_
    refine V_same (X' := [oO A ea n, eO (ea 14) s, iA G ((ea 14) 1) 96 val, iA G ((ea 14) 2) 96 own, iA G ((ea 14) 3) 96 mark, iA G ((ea 14) 4) 96 lw, eC G (ea 14), cX ((ea 14) 6) (ch 0), cX ((ea 14) 7) (ch 1), cX ((ea 14) 8) (ch 2), iA G ((ea 14) 9) 96 bits]) (opK (P := [oO A ea n]) (Q := []) (a := (ea 14)) (e := (val, own, mark, lw, bits, s, ch))) ?_
    refine V_aload_n (i := 0) dX6_about_99 rfl rfl ?_
    refine V_get (C := RX6) (T := TX6) (N := 9) (ci := 5) (q := 0) (ref := "OrderChains") 3 rfl il_X6_about_X6 rfl rfl fl_X6_about_27 rfl rfl dX6_about_100 ?_
    refine V_callV (C := RX2) (q := 0) (ci := 2) (As := []) (rest := []) [1, 2] (c_X2_sumOfValues l G (ea 14) s val) vy_X2_sumOfValues gX6_about_X2_sumOfValues rfl rfl rfl rfl rfl rfl rfl ⟨rfl, rfl⟩ ⟨rfl, rfl⟩ ⟨Nat.zero_le _, Nat.zero_le _⟩ rfl dX6_about_103 (fun v Y hE => ?_)
    obtain ⟨rfl, rfl⟩ := hE
    refine ⟨rfl, ?_⟩
    dsimp only [vfill, List.set_cons_zero, List.set_cons_succ, Option.toList, List.cons_append, List.nil_append, Nat.add_zero]
    refine V_same (X' := [oO A ea n, eK G (ea 14) (val, own, mark, lw, bits, s, ch)]) (opK (P := [oO A ea n]) (Q := []) (a := (ea 14)) (e := (val, own, mark, lw, bits, s, ch))).symm ?_
    refine V_iret hR dX6_about_106 hkc hks ?_
    subst e0
    exact ⟨by decide, rfl, rfl⟩
  · refine V_top (b := 6) e0 ?_
    refine V_tableIn (tgt := 107) dX6_about_1 (by omega) (by omega) (by omega) rfl rfl ?_
    refine V_same (X' := [oO A ea n, eO (ea 14) s, iA G ((ea 14) 1) 96 val, iA G ((ea 14) 2) 96 own, iA G ((ea 14) 3) 96 mark, iA G ((ea 14) 4) 96 lw, eC G (ea 14), cX ((ea 14) 6) (ch 0), cX ((ea 14) 7) (ch 1), cX ((ea 14) 8) (ch 2), iA G ((ea 14) 9) 96 bits]) (opK (P := [oO A ea n]) (Q := []) (a := (ea 14)) (e := (val, own, mark, lw, bits, s, ch))) ?_
    refine V_aload_n (i := 0) dX6_about_107 rfl rfl ?_
    refine V_get (C := RX6) (T := TX6) (N := 9) (ci := 5) (q := 0) (ref := "OrderChains") 3 rfl il_X6_about_X6 rfl rfl fl_X6_about_27 rfl rfl dX6_about_108 ?_
    refine V_get (C := RX2) (T := TX2) (N := 11) (ci := 2) (q := 1) (ref := "OrderChains$Engine") 7 rfl il_X6_about_X2 rfl rfl fl_X6_about_95 rfl rfl dX6_about_111 ?_
    refine V_same (X' := [oO A ea n, eK G (ea 14) (val, own, mark, lw, bits, s, ch)]) (opK (P := [oO A ea n]) (Q := []) (a := (ea 14)) (e := (val, own, mark, lw, bits, s, ch))).symm ?_
    refine V_iret hR dX6_about_114 hkc hks ?_
    subst e0
    exact ⟨by decide, rfl, rfl⟩
  · refine V_top (b := 7) e0 ?_
    refine V_tableIn (tgt := 115) dX6_about_1 (by omega) (by omega) (by omega) rfl rfl ?_
    refine V_same (X' := [oO A ea n, eO (ea 14) s, iA G ((ea 14) 1) 96 val, iA G ((ea 14) 2) 96 own, iA G ((ea 14) 3) 96 mark, iA G ((ea 14) 4) 96 lw, eC G (ea 14), cX ((ea 14) 6) (ch 0), cX ((ea 14) 7) (ch 1), cX ((ea 14) 8) (ch 2), iA G ((ea 14) 9) 96 bits]) (opK (P := [oO A ea n]) (Q := []) (a := (ea 14)) (e := (val, own, mark, lw, bits, s, ch))) ?_
    refine V_aload_n (i := 0) dX6_about_115 rfl rfl ?_
    refine V_get (C := RX6) (T := TX6) (N := 9) (ci := 5) (q := 0) (ref := "OrderChains") 3 rfl il_X6_about_X6 rfl rfl fl_X6_about_27 rfl rfl dX6_about_116 ?_
    refine V_get (C := RX2) (T := TX2) (N := 11) (ci := 2) (q := 1) (ref := "OrderChains$Engine") 8 rfl il_X6_about_X2 rfl rfl fl_X6_about_98 rfl rfl dX6_about_119 ?_
    refine V_same (X' := [oO A ea n, eK G (ea 14) (val, own, mark, lw, bits, s, ch)]) (opK (P := [oO A ea n]) (Q := []) (a := (ea 14)) (e := (val, own, mark, lw, bits, s, ch))).symm ?_
    refine V_iret hR dX6_about_122 hkc hks ?_
    subst e0
    exact ⟨by decide, rfl, rfl⟩
  · refine V_top (b := 8) e0 ?_
    refine V_tableIn (tgt := 123) dX6_about_1 (by omega) (by omega) (by omega) rfl rfl ?_
    refine V_same (X' := [oO A ea n, eO (ea 14) s, iA G ((ea 14) 1) 96 val, iA G ((ea 14) 2) 96 own, iA G ((ea 14) 3) 96 mark, iA G ((ea 14) 4) 96 lw, eC G (ea 14), cX ((ea 14) 6) (ch 0), cX ((ea 14) 7) (ch 1), cX ((ea 14) 8) (ch 2), iA G ((ea 14) 9) 96 bits]) (opK (P := [oO A ea n]) (Q := []) (a := (ea 14)) (e := (val, own, mark, lw, bits, s, ch))) ?_
    refine V_aload_n (i := 0) dX6_about_123 rfl rfl ?_
    refine V_get (C := RX6) (T := TX6) (N := 9) (ci := 5) (q := 0) (ref := "OrderChains") 3 rfl il_X6_about_X6 rfl rfl fl_X6_about_27 rfl rfl dX6_about_124 ?_
    refine V_callV (C := RX2) (q := 0) (ci := 2) (As := []) (rest := []) [1, 4] (c_X2_markedCells l G (ea 14) s mark) vy_X2_markedCells gX6_about_X2_markedCells rfl rfl rfl rfl rfl rfl rfl ⟨rfl, rfl⟩ ⟨rfl, rfl⟩ ⟨Nat.zero_le _, Nat.zero_le _⟩ rfl dX6_about_127 (fun v Y hE => ?_)
    obtain ⟨rfl, rfl⟩ := hE
    refine ⟨rfl, ?_⟩
    dsimp only [vfill, List.set_cons_zero, List.set_cons_succ, Option.toList, List.cons_append, List.nil_append, Nat.add_zero]
    refine V_same (X' := [oO A ea n, eK G (ea 14) (val, own, mark, lw, bits, s, ch)]) (opK (P := [oO A ea n]) (Q := []) (a := (ea 14)) (e := (val, own, mark, lw, bits, s, ch))).symm ?_
    refine V_iret hR dX6_about_130 hkc hks ?_
    subst e0
    exact ⟨by decide, rfl, rfl⟩
  · refine V_top (b := 9) e0 ?_
    refine V_tableIn (tgt := 131) dX6_about_1 (by omega) (by omega) (by omega) rfl rfl ?_
    refine V_same (X' := [oO A ea n, eO (ea 14) s, iA G ((ea 14) 1) 96 val, iA G ((ea 14) 2) 96 own, iA G ((ea 14) 3) 96 mark, iA G ((ea 14) 4) 96 lw, eC G (ea 14), cX ((ea 14) 6) (ch 0), cX ((ea 14) 7) (ch 1), cX ((ea 14) 8) (ch 2), iA G ((ea 14) 9) 96 bits]) (opK (P := [oO A ea n]) (Q := []) (a := (ea 14)) (e := (val, own, mark, lw, bits, s, ch))) ?_
    refine V_aload_n (i := 0) dX6_about_131 rfl rfl ?_
    refine V_get (C := RX6) (T := TX6) (N := 9) (ci := 5) (q := 0) (ref := "OrderChains") 3 rfl il_X6_about_X6 rfl rfl fl_X6_about_27 rfl rfl dX6_about_132 ?_
    refine V_callV (C := RX2) (q := 0) (ci := 2) (As := []) (rest := []) [1, 3] (c_X2_ownedCells l G (ea 14) s own (fun k hk => by have := ho k hk; omega)) vy_X2_ownedCells gX6_about_X2_ownedCells rfl rfl rfl rfl rfl rfl rfl ⟨rfl, rfl⟩ ⟨rfl, rfl⟩ ⟨Nat.zero_le _, Nat.zero_le _⟩ rfl dX6_about_135 (fun v Y hE => ?_)
    obtain ⟨rfl, rfl⟩ := hE
    refine ⟨rfl, ?_⟩
    dsimp only [vfill, List.set_cons_zero, List.set_cons_succ, Option.toList, List.cons_append, List.nil_append, Nat.add_zero]
    refine V_same (X' := [oO A ea n, eK G (ea 14) (val, own, mark, lw, bits, s, ch)]) (opK (P := [oO A ea n]) (Q := []) (a := (ea 14)) (e := (val, own, mark, lw, bits, s, ch))).symm ?_
    refine V_iret hR dX6_about_138 hkc hks ?_
    subst e0
    exact ⟨by decide, rfl, rfl⟩
  · skip
    refine V_tableOut (tgt := 139) dX6_about_1 (pk_out (b := 9) hw (by omega) (by decide)) rfl ?_
    refine V_IAE (is := 107) (text := "no such number") hT rfl xk_X6_about_56 xi_X6_about_56 xw_X6_about_60 (List.mem_of_getElem? (i := 0) rfl) ⟨rfl, rfl⟩ hmx hmx dX6_about_139 dX6_about_142 dX6_about_143 dX6_about_145 dX6_about_148 ?_
    exact ⟨⟨rfl, by omega⟩, rfl⟩

abbrev rX6_chain : Room := { frames := 6, cells := 1, slots := 6, locals := 92 }
theorem vy_X6_chain : vY yX6_chain wsX6_chain cX6_chain 3 (some .int) 2 := ⟨⟨_, rfl⟩, by decide +kernel, by decide +kernel, by decide +kernel⟩
theorem fl_X6_chain_52 : Cond.fieldLink RX6 52 "OrderChains" "walk" "LOrderChains$ChainWalk;" ∈ wsX6_chain := List.mem_of_getElem? (i := 5) rfl
theorem il_X6_chain_X6 : ∀ w ∈ wsX60, w ∈ wsX6_chain := fun _ h => List.mem_cons_of_mem _ (List.mem_append_left _ (List.mem_append_left _ (List.mem_append_left _ (List.mem_append_left _ (List.mem_append_right _ h)))))
theorem fl_X6_chain_27 : Cond.fieldLink RX6 27 "OrderChains" "live" "LOrderChains$Engine;" ∈ wsX6_chain := List.mem_of_getElem? (i := 6) rfl
theorem fl_X6_chain_118 : Cond.fieldLink RX6 118 "OrderChains$Engine" "values" "[I" ∈ wsX6_chain := List.mem_of_getElem? (i := 7) rfl
theorem il_X6_chain_X2 : ∀ w ∈ wsX20, w ∈ wsX6_chain := fun _ h => List.mem_cons_of_mem _ (List.mem_append_left _ (List.mem_append_left _ (List.mem_append_left _ (List.mem_append_right _ h))))
theorem fl_X6_chain_182 : Cond.fieldLink RX6 182 "OrderChains$ChainWalk" "ending" "I" ∈ wsX6_chain := List.mem_of_getElem? (i := 9) rfl
theorem il_X6_chain_X0 : ∀ w ∈ wsX00, w ∈ wsX6_chain := fun _ h => List.mem_cons_of_mem _ (List.mem_append_left _ (List.mem_append_left _ (List.mem_append_right _ h)))
theorem fl_X6_chain_179 : Cond.fieldLink RX6 179 "OrderChains$ChainWalk" "orders" "I" ∈ wsX6_chain := List.mem_of_getElem? (i := 8) rfl
theorem xk_X6_chain_56 : Cond.classLink RX6 56 "java/lang/IllegalArgumentException" ∈ wsX6_chain := List.mem_of_getElem? (i := 3) rfl
theorem xi_X6_chain_56 : Cond.initialized "java/lang/IllegalArgumentException" ∈ wsX6_chain := List.mem_of_getElem? (i := 4) rfl
theorem xw_X6_chain_60 : ∀ w ∈ (vx_atS RX6 60 sIAE nms).filter goodWord, w ∈ wsX6_chain := fun _ h => List.mem_cons_of_mem _ (List.mem_append_right _ h)
theorem xk_X6_chain_113 : Cond.classLink RX6 113 "java/lang/IndexOutOfBoundsException" ∈ wsX6_chain := List.mem_of_getElem? (i := 1) rfl
theorem xi_X6_chain_113 : Cond.initialized "java/lang/IndexOutOfBoundsException" ∈ wsX6_chain := List.mem_of_getElem? (i := 2) rfl
theorem xw_X6_chain_117 : ∀ w ∈ (vx_atS RX6 117 sIOB nms).filter goodWord, w ∈ wsX6_chain := fun _ h => List.mem_cons_of_mem _ (List.mem_append_left _ (List.mem_append_right _ h))
set_option maxHeartbeats 4000000 in
set_option maxRecDepth 100000 in
/-- chain -/
theorem c_X6_chain (l : Launch) (hst : l.stackTraces = false) (G : vG) (A : Nat → Nat) (ea : Nat → Nat → Nat) (wo sn : Nat → Nat) (n p w : Nat) (e : vE) (he : eB e) (hp : p < 4294967296) (hw : w < 4294967296) : Kx l G yX6_chain wsX6_chain rX6_chain [.ref (A 0), .int (nI p), .int (nI w)] [oO A ea n, wO (A 6) (A 8) wo, iA G (A 8) 96 sn, eK G (ea 14) e] (fun v Y => (p < 96 ∧ w < 2) ∧ v = some (.int (nI (if w = 0 then (flC e.1 97 (fil 0 sn) 0 p).1 else (flC e.1 97 (fil 0 sn) 0 p).2.1))) ∧ Y = [oO A ea n, wO (A 6) (A 8) (va_up (va_up wo 0 (flC e.1 97 (fil 0 sn) 0 p).1) 1 (flC e.1 97 (fil 0 sn) 0 p).2.1), iA G (A 8) 96 (flC e.1 97 (fil 0 sn) 0 p).2.2, eK G (ea 14) e]) (fun c Y => ((c = sIOB ∧ ¬ p < 96) ∨ (c = sIAE ∧ p < 96 ∧ ¬ w < 2)) ∧ Y = [oO A ea n, wO (A 6) (A 8) wo, iA G (A 8) 96 sn, eK G (ea 14) e]) 1 6 := by
  refine V_enterX (own := RX6) [some (.ref (A 0)), some (.int (nI p)), some (.int (nI w))] hst (by decide +kernel) rfl rfl (Nat.le_of_ble_eq_true rfl) rfl (fun Γ hR hT => ?_)
  have hkc : 0 ≤ 1 := Nat.zero_le _
  have hks : 0 ≤ 6 := Nat.zero_le _
  have hmx : 0 + 1 ≤ 1 ∧ 0 + 6 ≤ 6 := ⟨by decide, by decide⟩
  obtain ⟨val, own, mark, lw, bits, s, ch⟩ := e
  obtain ⟨hv, ho, hm, hb, hs0, hs4, hq⟩ := id he
  dsimp only at hv ho hm hb hs0 hs4 hq
  refine V_iload_n (i := 1) dX6_chain_0 rfl rfl ?_
  refine V_callS (As := _) (rest := []) [] (c_X6_isCell l G (p) hp) vy_X6_isCell gX6_chain_X6_isCell rfl rfl rfl rfl ⟨rfl, rfl⟩ ⟨rfl, rfl⟩ ⟨Nat.zero_le _, Nat.zero_le _⟩ rfl dX6_chain_1 (fun v Y hE => ?_)
  obtain ⟨rfl, rfl⟩ := hE
  refine ⟨rfl, ?_⟩
  dsimp only [vfill, List.set_cons_zero, List.set_cons_succ, Option.toList, List.cons_append, List.nil_append, Nat.add_zero]
  refine V_if_ne (tgt := 17) (by split <;> decide) dX6_chain_4 rfl (fun h_4 => ?_) (fun h_4 => ?_)
  · have hz := b01 h_4
    refine V_iload_n (i := 2) dX6_chain_17 rfl rfl ?_
    refine V_if_eq (tgt := 36) (by omega) dX6_chain_18 rfl (fun h_18 => ?_) (fun h_18 => ?_)
    · refine V_same (X' := [oO A ea n, wO (A 6) (A 8) wo, iA G (A 8) 96 sn, eO (ea 14) s, iA G ((ea 14) 1) 96 val, iA G ((ea 14) 2) 96 own, iA G ((ea 14) 3) 96 mark, iA G ((ea 14) 4) 96 lw, eC G (ea 14), cX ((ea 14) 6) (ch 0), cX ((ea 14) 7) (ch 1), cX ((ea 14) 8) (ch 2), iA G ((ea 14) 9) 96 bits]) (opK (P := [oO A ea n, wO (A 6) (A 8) wo, iA G (A 8) 96 sn]) (Q := []) (a := (ea 14)) (e := (val, own, mark, lw, bits, s, ch))) ?_
      refine V_aload_n (i := 0) dX6_chain_36 rfl rfl ?_
      refine V_get (C := RX6) (T := TX6) (N := 9) (ci := 5) (q := 0) (ref := "OrderChains") 8 rfl il_X6_chain_X6 rfl rfl fl_X6_chain_52 rfl rfl dX6_chain_37 ?_
      refine V_aload_n (i := 0) dX6_chain_40 rfl rfl ?_
      refine V_get (C := RX6) (T := TX6) (N := 9) (ci := 5) (q := 0) (ref := "OrderChains") 3 rfl il_X6_chain_X6 rfl rfl fl_X6_chain_27 rfl rfl dX6_chain_41 ?_
      refine V_get (C := RX2) (T := TX2) (N := 11) (ci := 2) (q := 3) (ref := "OrderChains$Engine") 0 rfl il_X6_chain_X2 rfl rfl fl_X6_chain_118 rfl rfl dX6_chain_44 ?_
      refine V_iload_n (i := 1) dX6_chain_47 rfl rfl ?_
      refine V_callV (C := RX0) (q := 0) (ci := 0) (As := _) (rest := []) [1, 2, 4] (c_X0_follow l G (A 6) (A 8) (ea 14 1) p wo sn val (by omega) hv) vy_X0_follow gX6_chain_X0_follow rfl rfl rfl rfl rfl rfl rfl ⟨rfl, rfl⟩ ⟨rfl, rfl⟩ ⟨Nat.zero_le _, Nat.zero_le _⟩ rfl dX6_chain_48 (fun v Y hE => ?_)
      obtain ⟨rfl, rfl⟩ := hE
      refine ⟨rfl, ?_⟩
      dsimp only [vfill, List.set_cons_zero, List.set_cons_succ, Option.toList, List.cons_append, List.nil_append, Nat.add_zero]
      refine V_iload_n (i := 2) dX6_chain_51 rfl rfl ?_
      refine V_if_ne (tgt := 65) (by omega) dX6_chain_52 rfl (fun h_52 => ?_) (fun h_52 => ?_)
      · refine V_aload_n (i := 0) dX6_chain_65 rfl rfl ?_
        refine V_get (C := RX6) (T := TX6) (N := 9) (ci := 5) (q := 0) (ref := "OrderChains") 8 rfl il_X6_chain_X6 rfl rfl fl_X6_chain_52 rfl rfl dX6_chain_66 ?_
        refine V_get (C := RX0) (T := TX0) (N := 3) (ci := 0) (q := 1) (ref := "OrderChains$ChainWalk") 2 rfl il_X6_chain_X0 rfl rfl fl_X6_chain_182 rfl rfl dX6_chain_69 ?_
        refine V_same (X' := [oO A ea n, wO (A 6) (A 8) (va_up (va_up wo 0 (flC val 97 (fil 0 sn) 0 p).1) 1 (flC val 97 (fil 0 sn) 0 p).2.1), iA G (A 8) 96 (flC val 97 (fil 0 sn) 0 p).2.2, eK G (ea 14) (val, own, mark, lw, bits, s, ch)]) (opK (P := [oO A ea n, wO (A 6) (A 8) (va_up (va_up wo 0 (flC val 97 (fil 0 sn) 0 p).1) 1 (flC val 97 (fil 0 sn) 0 p).2.1), iA G (A 8) 96 (flC val 97 (fil 0 sn) 0 p).2.2]) (Q := []) (a := (ea 14)) (e := (val, own, mark, lw, bits, s, ch))).symm ?_
        refine V_iret hR dX6_chain_72 hkc hks ?_
        refine ⟨⟨hz, by omega⟩, ?_, rfl⟩
        first | (rw [if_pos (show w = 0 by omega)]; rfl) | (rw [if_neg (show ¬ w = 0 by omega)]; rfl)
      · refine V_aload_n (i := 0) dX6_chain_55 rfl rfl ?_
        refine V_get (C := RX6) (T := TX6) (N := 9) (ci := 5) (q := 0) (ref := "OrderChains") 8 rfl il_X6_chain_X6 rfl rfl fl_X6_chain_52 rfl rfl dX6_chain_56 ?_
        refine V_get (C := RX0) (T := TX0) (N := 3) (ci := 0) (q := 1) (ref := "OrderChains$ChainWalk") 1 rfl il_X6_chain_X0 rfl rfl fl_X6_chain_179 rfl rfl dX6_chain_59 ?_
        refine V_goto (tgt := 72) dX6_chain_62 rfl ?_
        refine V_same (X' := [oO A ea n, wO (A 6) (A 8) (va_up (va_up wo 0 (flC val 97 (fil 0 sn) 0 p).1) 1 (flC val 97 (fil 0 sn) 0 p).2.1), iA G (A 8) 96 (flC val 97 (fil 0 sn) 0 p).2.2, eK G (ea 14) (val, own, mark, lw, bits, s, ch)]) (opK (P := [oO A ea n, wO (A 6) (A 8) (va_up (va_up wo 0 (flC val 97 (fil 0 sn) 0 p).1) 1 (flC val 97 (fil 0 sn) 0 p).2.1), iA G (A 8) 96 (flC val 97 (fil 0 sn) 0 p).2.2]) (Q := []) (a := (ea 14)) (e := (val, own, mark, lw, bits, s, ch))).symm ?_
        refine V_iret hR dX6_chain_72 hkc hks ?_
        refine ⟨⟨hz, by omega⟩, ?_, rfl⟩
        first | (rw [if_pos (show w = 0 by omega)]; rfl) | (rw [if_neg (show ¬ w = 0 by omega)]; rfl)
    · refine V_iload_n (i := 2) dX6_chain_21 rfl rfl ?_
      refine V_iconst (v := 1) dX6_chain_22 rfl ?_
      refine V_icmp_eq (tgt := 36) (by omega) (by omega) dX6_chain_23 rfl (fun h_23 => ?_) (fun h_23 => ?_)
      · refine V_same (X' := [oO A ea n, wO (A 6) (A 8) wo, iA G (A 8) 96 sn, eO (ea 14) s, iA G ((ea 14) 1) 96 val, iA G ((ea 14) 2) 96 own, iA G ((ea 14) 3) 96 mark, iA G ((ea 14) 4) 96 lw, eC G (ea 14), cX ((ea 14) 6) (ch 0), cX ((ea 14) 7) (ch 1), cX ((ea 14) 8) (ch 2), iA G ((ea 14) 9) 96 bits]) (opK (P := [oO A ea n, wO (A 6) (A 8) wo, iA G (A 8) 96 sn]) (Q := []) (a := (ea 14)) (e := (val, own, mark, lw, bits, s, ch))) ?_
        refine V_aload_n (i := 0) dX6_chain_36 rfl rfl ?_
        refine V_get (C := RX6) (T := TX6) (N := 9) (ci := 5) (q := 0) (ref := "OrderChains") 8 rfl il_X6_chain_X6 rfl rfl fl_X6_chain_52 rfl rfl dX6_chain_37 ?_
        refine V_aload_n (i := 0) dX6_chain_40 rfl rfl ?_
        refine V_get (C := RX6) (T := TX6) (N := 9) (ci := 5) (q := 0) (ref := "OrderChains") 3 rfl il_X6_chain_X6 rfl rfl fl_X6_chain_27 rfl rfl dX6_chain_41 ?_
        refine V_get (C := RX2) (T := TX2) (N := 11) (ci := 2) (q := 3) (ref := "OrderChains$Engine") 0 rfl il_X6_chain_X2 rfl rfl fl_X6_chain_118 rfl rfl dX6_chain_44 ?_
        refine V_iload_n (i := 1) dX6_chain_47 rfl rfl ?_
        refine V_callV (C := RX0) (q := 0) (ci := 0) (As := _) (rest := []) [1, 2, 4] (c_X0_follow l G (A 6) (A 8) (ea 14 1) p wo sn val (by omega) hv) vy_X0_follow gX6_chain_X0_follow rfl rfl rfl rfl rfl rfl rfl ⟨rfl, rfl⟩ ⟨rfl, rfl⟩ ⟨Nat.zero_le _, Nat.zero_le _⟩ rfl dX6_chain_48 (fun v Y hE => ?_)
        obtain ⟨rfl, rfl⟩ := hE
        refine ⟨rfl, ?_⟩
        dsimp only [vfill, List.set_cons_zero, List.set_cons_succ, Option.toList, List.cons_append, List.nil_append, Nat.add_zero]
        refine V_iload_n (i := 2) dX6_chain_51 rfl rfl ?_
        refine V_if_ne (tgt := 65) (by omega) dX6_chain_52 rfl (fun h_52 => ?_) (fun h_52 => ?_)
        · refine V_aload_n (i := 0) dX6_chain_65 rfl rfl ?_
          refine V_get (C := RX6) (T := TX6) (N := 9) (ci := 5) (q := 0) (ref := "OrderChains") 8 rfl il_X6_chain_X6 rfl rfl fl_X6_chain_52 rfl rfl dX6_chain_66 ?_
          refine V_get (C := RX0) (T := TX0) (N := 3) (ci := 0) (q := 1) (ref := "OrderChains$ChainWalk") 2 rfl il_X6_chain_X0 rfl rfl fl_X6_chain_182 rfl rfl dX6_chain_69 ?_
          refine V_same (X' := [oO A ea n, wO (A 6) (A 8) (va_up (va_up wo 0 (flC val 97 (fil 0 sn) 0 p).1) 1 (flC val 97 (fil 0 sn) 0 p).2.1), iA G (A 8) 96 (flC val 97 (fil 0 sn) 0 p).2.2, eK G (ea 14) (val, own, mark, lw, bits, s, ch)]) (opK (P := [oO A ea n, wO (A 6) (A 8) (va_up (va_up wo 0 (flC val 97 (fil 0 sn) 0 p).1) 1 (flC val 97 (fil 0 sn) 0 p).2.1), iA G (A 8) 96 (flC val 97 (fil 0 sn) 0 p).2.2]) (Q := []) (a := (ea 14)) (e := (val, own, mark, lw, bits, s, ch))).symm ?_
          refine V_iret hR dX6_chain_72 hkc hks ?_
          refine ⟨⟨hz, by omega⟩, ?_, rfl⟩
          first | (rw [if_pos (show w = 0 by omega)]; rfl) | (rw [if_neg (show ¬ w = 0 by omega)]; rfl)
        · refine V_aload_n (i := 0) dX6_chain_55 rfl rfl ?_
          refine V_get (C := RX6) (T := TX6) (N := 9) (ci := 5) (q := 0) (ref := "OrderChains") 8 rfl il_X6_chain_X6 rfl rfl fl_X6_chain_52 rfl rfl dX6_chain_56 ?_
          refine V_get (C := RX0) (T := TX0) (N := 3) (ci := 0) (q := 1) (ref := "OrderChains$ChainWalk") 1 rfl il_X6_chain_X0 rfl rfl fl_X6_chain_179 rfl rfl dX6_chain_59 ?_
          refine V_goto (tgt := 72) dX6_chain_62 rfl ?_
          refine V_same (X' := [oO A ea n, wO (A 6) (A 8) (va_up (va_up wo 0 (flC val 97 (fil 0 sn) 0 p).1) 1 (flC val 97 (fil 0 sn) 0 p).2.1), iA G (A 8) 96 (flC val 97 (fil 0 sn) 0 p).2.2, eK G (ea 14) (val, own, mark, lw, bits, s, ch)]) (opK (P := [oO A ea n, wO (A 6) (A 8) (va_up (va_up wo 0 (flC val 97 (fil 0 sn) 0 p).1) 1 (flC val 97 (fil 0 sn) 0 p).2.1), iA G (A 8) 96 (flC val 97 (fil 0 sn) 0 p).2.2]) (Q := []) (a := (ea 14)) (e := (val, own, mark, lw, bits, s, ch))).symm ?_
          refine V_iret hR dX6_chain_72 hkc hks ?_
          refine ⟨⟨hz, by omega⟩, ?_, rfl⟩
          first | (rw [if_pos (show w = 0 by omega)]; rfl) | (rw [if_neg (show ¬ w = 0 by omega)]; rfl)
      · refine V_IAE (is := 173) (text := "no such number of a chain") hT rfl xk_X6_chain_56 xi_X6_chain_56 xw_X6_chain_60 (List.mem_of_getElem? (i := 5) rfl) ⟨rfl, rfl⟩ hmx hmx dX6_chain_26 dX6_chain_29 dX6_chain_30 dX6_chain_32 dX6_chain_35 ?_
        exact ⟨Or.inr ⟨rfl, hz, by omega⟩, rfl⟩
  · refine V_IOB (is := 115) (text := "no such cell") hT rfl xk_X6_chain_113 xi_X6_chain_113 xw_X6_chain_117 (List.mem_of_getElem? (i := 1) rfl) ⟨rfl, rfl⟩ hmx hmx dX6_chain_7 dX6_chain_10 dX6_chain_11 dX6_chain_13 dX6_chain_16 ?_
    exact ⟨Or.inl ⟨rfl, b00 h_4⟩, rfl⟩

abbrev rX6_poke : Room := { frames := 6, cells := 1, slots := 6, locals := 92 }
theorem vy_X6_poke : vY yX6_poke wsX6_poke cX6_poke 4 (some .int) 2 := ⟨⟨_, rfl⟩, by decide +kernel, by decide +kernel, by decide +kernel⟩
theorem fl_X6_poke_37 : Cond.fieldLink RX6 37 "OrderChains" "history" "LOrderChains$History;" ∈ wsX6_poke := List.mem_of_getElem? (i := 5) rfl
theorem il_X6_poke_X6 : ∀ w ∈ wsX60, w ∈ wsX6_poke := fun _ h => List.mem_cons_of_mem _ (List.mem_append_left _ (List.mem_append_left _ (List.mem_append_left _ (List.mem_append_left _ (List.mem_append_left _ (List.mem_append_right _ h))))))
theorem fl_X6_poke_27 : Cond.fieldLink RX6 27 "OrderChains" "live" "LOrderChains$Engine;" ∈ wsX6_poke := List.mem_of_getElem? (i := 6) rfl
theorem fl_X6_poke_118 : Cond.fieldLink RX6 118 "OrderChains$Engine" "values" "[I" ∈ wsX6_poke := List.mem_of_getElem? (i := 7) rfl
theorem il_X6_poke_X2 : ∀ w ∈ wsX20, w ∈ wsX6_poke := fun _ h => List.mem_cons_of_mem _ (List.mem_append_left _ (List.mem_append_left _ (List.mem_append_left _ (List.mem_append_left _ (List.mem_append_right _ h)))))
theorem xk_X6_poke_56 : Cond.classLink RX6 56 "java/lang/IllegalArgumentException" ∈ wsX6_poke := List.mem_of_getElem? (i := 3) rfl
theorem xi_X6_poke_56 : Cond.initialized "java/lang/IllegalArgumentException" ∈ wsX6_poke := List.mem_of_getElem? (i := 4) rfl
theorem xw_X6_poke_60 : ∀ w ∈ (vx_atS RX6 60 sIAE nms).filter goodWord, w ∈ wsX6_poke := fun _ h => List.mem_cons_of_mem _ (List.mem_append_right _ h)
theorem xk_X6_poke_113 : Cond.classLink RX6 113 "java/lang/IndexOutOfBoundsException" ∈ wsX6_poke := List.mem_of_getElem? (i := 1) rfl
theorem xi_X6_poke_113 : Cond.initialized "java/lang/IndexOutOfBoundsException" ∈ wsX6_poke := List.mem_of_getElem? (i := 2) rfl
theorem xw_X6_poke_117 : ∀ w ∈ (vx_atS RX6 117 sIOB nms).filter goodWord, w ∈ wsX6_poke := fun _ h => List.mem_cons_of_mem _ (List.mem_append_left _ (List.mem_append_right _ h))
set_option maxHeartbeats 4000000 in
set_option maxRecDepth 100000 in
/-- poke -/
theorem c_X6_poke (l : Launch) (hst : l.stackTraces = false) (G : vG) (A : Nat → Nat) (ea : Nat → Nat → Nat) (o : Nat → Nat) (hs : Nat → vE) (n p w : Nat) (e : vE) (he : eB e) (h0 : o 0 < 14) (h1 : o 1 < 15) (hp : p < 4294967296) (hw : w < 4294967296) : Kx l G yX6_poke wsX6_poke rX6_poke [.ref (A 0), .int (nI p), .int (nI w)] [oO A ea n, hO (A 3) (A 7) o, hA G (A 7) ea, hK G ea hs, eK G (ea 14) e] (fun v Y => (p < 96 ∧ w < 100) ∧ v = some (.int (nI (e.1 p))) ∧ Y = [oO A ea n, hO (A 3) (A 7) (rmO o), hA G (A 7) ea, hK G ea (rmH o hs e), eK G (ea 14) (va_up e.1 p w, e.2)]) (fun c Y => ((c = sIOB ∧ ¬ p < 96) ∨ (c = sIAE ∧ p < 96 ∧ ¬ w < 100)) ∧ Y = [oO A ea n, hO (A 3) (A 7) o, hA G (A 7) ea, hK G ea hs, eK G (ea 14) e]) 1 6 := by
  refine V_enterX (own := RX6) [some (.ref (A 0)), some (.int (nI p)), some (.int (nI w)), none] hst (by decide +kernel) rfl rfl (Nat.le_of_ble_eq_true rfl) rfl (fun Γ hR hT => ?_)
  have hkc : 0 ≤ 1 := Nat.zero_le _
  have hks : 0 ≤ 6 := Nat.zero_le _
  have hmx : 0 + 1 ≤ 1 ∧ 0 + 6 ≤ 6 := ⟨by decide, by decide⟩
  obtain ⟨val, own, mark, lw, bits, s, ch⟩ := e
  obtain ⟨hv, ho, hm, hb, hs0, hs4, hq⟩ := id he
  dsimp only at hv ho hm hb hs0 hs4 hq
  refine V_iload_n (i := 1) dX6_poke_0 rfl rfl ?_
  refine V_callS (As := _) (rest := []) [] (c_X6_isCell l G (p) hp) vy_X6_isCell gX6_poke_X6_isCell rfl rfl rfl rfl ⟨rfl, rfl⟩ ⟨rfl, rfl⟩ ⟨Nat.zero_le _, Nat.zero_le _⟩ rfl dX6_poke_1 (fun v Y hE => ?_)
  obtain ⟨rfl, rfl⟩ := hE
  refine ⟨rfl, ?_⟩
  dsimp only [vfill, List.set_cons_zero, List.set_cons_succ, Option.toList, List.cons_append, List.nil_append, Nat.add_zero]
  refine V_if_ne (tgt := 17) (by split <;> decide) dX6_poke_4 rfl (fun h_4 => ?_) (fun h_4 => ?_)
  · have hz := b01 h_4
    refine V_iload_n (i := 2) dX6_poke_17 rfl rfl ?_
    refine V_callS (As := _) (rest := []) [] (c_X6_isValue l G (w) hw) vy_X6_isValue gX6_poke_X6_isValue rfl rfl rfl rfl ⟨rfl, rfl⟩ ⟨rfl, rfl⟩ ⟨Nat.zero_le _, Nat.zero_le _⟩ rfl dX6_poke_18 (fun v Y hE => ?_)
    obtain ⟨rfl, rfl⟩ := hE
    refine ⟨rfl, ?_⟩
    dsimp only [vfill, List.set_cons_zero, List.set_cons_succ, Option.toList, List.cons_append, List.nil_append, Nat.add_zero]
    refine V_if_ne (tgt := 34) (by split <;> decide) dX6_poke_21 rfl (fun h_21 => ?_) (fun h_21 => ?_)
    · have hy := b01 h_21
      refine V_aload_n (i := 0) dX6_poke_34 rfl rfl ?_
      refine V_get (C := RX6) (T := TX6) (N := 9) (ci := 5) (q := 0) (ref := "OrderChains") 5 rfl il_X6_poke_X6 rfl rfl fl_X6_poke_37 rfl rfl dX6_poke_35 ?_
      refine V_aload_n (i := 0) dX6_poke_38 rfl rfl ?_
      refine V_get (C := RX6) (T := TX6) (N := 9) (ci := 5) (q := 0) (ref := "OrderChains") 3 rfl il_X6_poke_X6 rfl rfl fl_X6_poke_27 rfl rfl dX6_poke_39 ?_
      refine V_callV (C := RX3) (q := 0) (ci := 3) (As := _) (rest := []) [1, 2, 3, 4] (c_X3_remember l G (A 3) (A 7) ea (ea 14) o hs (val, own, mark, lw, bits, s, ch) h0 h1) vy_X3_remember gX6_poke_X3_remember rfl rfl rfl rfl rfl rfl rfl ⟨rfl, rfl⟩ ⟨rfl, rfl⟩ ⟨Nat.zero_le _, Nat.zero_le _⟩ rfl dX6_poke_42 (fun v Y hE => ?_)
      obtain ⟨rfl, rfl⟩ := hE
      refine ⟨rfl, ?_⟩
      dsimp only [vfill, List.set_cons_zero, List.set_cons_succ, Option.toList, List.cons_append, List.nil_append, Nat.add_zero]
      refine V_same (X' := [oO A ea n, hO (A 3) (A 7) (rmO o), hA G (A 7) ea, hK G ea (rmH o hs (val, own, mark, lw, bits, s, ch)), eO (ea 14) s, iA G ((ea 14) 1) 96 val, iA G ((ea 14) 2) 96 own, iA G ((ea 14) 3) 96 mark, iA G ((ea 14) 4) 96 lw, eC G (ea 14), cX ((ea 14) 6) (ch 0), cX ((ea 14) 7) (ch 1), cX ((ea 14) 8) (ch 2), iA G ((ea 14) 9) 96 bits]) (opK (P := [oO A ea n, hO (A 3) (A 7) (rmO o), hA G (A 7) ea, hK G ea (rmH o hs (val, own, mark, lw, bits, s, ch))]) (Q := []) (a := (ea 14)) (e := (val, own, mark, lw, bits, s, ch))) ?_
      refine V_aload_n (i := 0) dX6_poke_45 rfl rfl ?_
      refine V_get (C := RX6) (T := TX6) (N := 9) (ci := 5) (q := 0) (ref := "OrderChains") 3 rfl il_X6_poke_X6 rfl rfl fl_X6_poke_27 rfl rfl dX6_poke_46 ?_
      refine V_get (C := RX2) (T := TX2) (N := 11) (ci := 2) (q := 4) (ref := "OrderChains$Engine") 0 rfl il_X6_poke_X2 rfl rfl fl_X6_poke_118 rfl rfl dX6_poke_49 ?_
      refine V_iload_n (i := 1) dX6_poke_52 rfl rfl ?_
      refine V_iald (q := 5) rfl (by omega) rfl dX6_poke_53 ?_
      refine V_istore_n (i := 3) dX6_poke_54 rfl rfl rfl ?_
      dsimp only [List.set_cons_zero, List.set_cons_succ]
      refine V_aload_n (i := 0) dX6_poke_55 rfl rfl ?_
      refine V_get (C := RX6) (T := TX6) (N := 9) (ci := 5) (q := 0) (ref := "OrderChains") 3 rfl il_X6_poke_X6 rfl rfl fl_X6_poke_27 rfl rfl dX6_poke_56 ?_
      refine V_get (C := RX2) (T := TX2) (N := 11) (ci := 2) (q := 4) (ref := "OrderChains$Engine") 0 rfl il_X6_poke_X2 rfl rfl fl_X6_poke_118 rfl rfl dX6_poke_59 ?_
      refine V_iload_n (i := 1) dX6_poke_62 rfl rfl ?_
      refine V_iload_n (i := 2) dX6_poke_63 rfl rfl ?_
      refine V_iast (q := 5) rfl (by omega) rfl dX6_poke_64 ?_
      dsimp only [List.set_cons_zero, List.set_cons_succ]
      refine V_iload_n (i := 3) dX6_poke_65 rfl rfl ?_
      refine V_same (X' := [oO A ea n, hO (A 3) (A 7) (rmO o), hA G (A 7) ea, hK G ea (rmH o hs (val, own, mark, lw, bits, s, ch)), eK G (ea 14) (va_up val p w, own, mark, lw, bits, s, ch)]) (opK (P := [oO A ea n, hO (A 3) (A 7) (rmO o), hA G (A 7) ea, hK G ea (rmH o hs (val, own, mark, lw, bits, s, ch))]) (Q := []) (a := (ea 14)) (e := (va_up val p w, own, mark, lw, bits, s, ch))).symm ?_
      refine V_iret hR dX6_poke_66 hkc hks ?_
      exact ⟨⟨hz, hy⟩, rfl, rfl⟩
    · refine V_IAE (is := 188) (text := "no such value") hT rfl xk_X6_poke_56 xi_X6_poke_56 xw_X6_poke_60 (List.mem_of_getElem? (i := 6) rfl) ⟨rfl, rfl⟩ hmx hmx dX6_poke_24 dX6_poke_27 dX6_poke_28 dX6_poke_30 dX6_poke_33 ?_
      exact ⟨Or.inr ⟨rfl, hz, b00 h_21⟩, rfl⟩
  · refine V_IOB (is := 115) (text := "no such cell") hT rfl xk_X6_poke_113 xi_X6_poke_113 xw_X6_poke_117 (List.mem_of_getElem? (i := 1) rfl) ⟨rfl, rfl⟩ hmx hmx dX6_poke_7 dX6_poke_10 dX6_poke_11 dX6_poke_13 dX6_poke_16 ?_
    exact ⟨Or.inl ⟨rfl, b00 h_4⟩, rfl⟩

abbrev rX6_order : Room := { frames := 6, cells := 1, slots := 6, locals := 92 }
theorem vy_X6_order : vY yX6_order wsX6_order cX6_order 7 (some .int) 5 := ⟨⟨_, rfl⟩, by decide +kernel, by decide +kernel, by decide +kernel⟩
theorem xk_X6_order_56 : Cond.classLink RX6 56 "java/lang/IllegalArgumentException" ∈ wsX6_order := List.mem_of_getElem? (i := 3) rfl
theorem xi_X6_order_56 : Cond.initialized "java/lang/IllegalArgumentException" ∈ wsX6_order := List.mem_of_getElem? (i := 4) rfl
theorem xw_X6_order_60 : ∀ w ∈ (vx_atS RX6 60 sIAE nms).filter goodWord, w ∈ wsX6_order := fun _ h => List.mem_cons_of_mem _ (List.mem_append_right _ h)
theorem fl_X6_order_37 : Cond.fieldLink RX6 37 "OrderChains" "history" "LOrderChains$History;" ∈ wsX6_order := List.mem_of_getElem? (i := 5) rfl
theorem il_X6_order_X6 : ∀ w ∈ wsX60, w ∈ wsX6_order := fun _ h => List.mem_cons_of_mem _ (List.mem_append_left _ (List.mem_append_left _ (List.mem_append_left _ (List.mem_append_left _ (List.mem_append_left _ (List.mem_append_right _ h))))))
theorem fl_X6_order_27 : Cond.fieldLink RX6 27 "OrderChains" "live" "LOrderChains$Engine;" ∈ wsX6_order := List.mem_of_getElem? (i := 6) rfl
theorem fl_X6_order_118 : Cond.fieldLink RX6 118 "OrderChains$Engine" "values" "[I" ∈ wsX6_order := List.mem_of_getElem? (i := 7) rfl
theorem il_X6_order_X2 : ∀ w ∈ wsX20, w ∈ wsX6_order := fun _ h => List.mem_cons_of_mem _ (List.mem_append_left _ (List.mem_append_left _ (List.mem_append_left _ (List.mem_append_left _ (List.mem_append_right _ h)))))
theorem xk_X6_order_113 : Cond.classLink RX6 113 "java/lang/IndexOutOfBoundsException" ∈ wsX6_order := List.mem_of_getElem? (i := 1) rfl
theorem xi_X6_order_113 : Cond.initialized "java/lang/IndexOutOfBoundsException" ∈ wsX6_order := List.mem_of_getElem? (i := 2) rfl
theorem xw_X6_order_117 : ∀ w ∈ (vx_atS RX6 117 sIOB nms).filter goodWord, w ∈ wsX6_order := fun _ h => List.mem_cons_of_mem _ (List.mem_append_left _ (List.mem_append_right _ h))
set_option maxHeartbeats 4000000 in
set_option maxRecDepth 100000 in
/-- order -/
theorem c_X6_order (l : Launch) (hst : l.stackTraces = false) (G : vG) (A : Nat → Nat) (ea : Nat → Nat → Nat) (o : Nat → Nat) (hs : Nat → vE) (n p k1 k2 k3 k4 : Nat) (e : vE) (he : eB e) (h0 : o 0 < 14) (h1 : o 1 < 15) (hp : p < 4294967296) (hk1 : k1 < 4294967296) (hk2 : k2 < 4294967296) (hk3 : k3 < 4294967296) (hk4 : k4 < 4294967296) : Kx l G yX6_order wsX6_order rX6_order [.ref (A 0), .int (nI p), .int (nI k1), .int (nI k2), .int (nI k3), .int (nI k4)] [oO A ea n, hO (A 3) (A 7) o, hA G (A 7) ea, hK G ea hs, eK G (ea 14) e] (fun v Y => (p < 96 ∧ p ≤ 90 ∧ k1 < 100 ∧ k2 < 100 ∧ k3 < 100 ∧ k4 < 100) ∧ v = some (.int (nI (e.1 p))) ∧ Y = [oO A ea n, hO (A 3) (A 7) (rmO o), hA G (A 7) ea, hK G ea (rmH o hs e), eK G (ea 14) ((va_up (va_up (va_up (va_up (va_up (va_up e.1 p k1) (p + 1) k2) (p + 2) k3) (p + 3) k4) (p + 4) 1) (p + 5) (p + 6)), e.2)]) (fun c Y => ((c = sIOB ∧ ¬ p < 96) ∨ (c = sIAE ∧ p < 96 ∧ ¬ (p ≤ 90 ∧ k1 < 100 ∧ k2 < 100 ∧ k3 < 100 ∧ k4 < 100))) ∧ Y = [oO A ea n, hO (A 3) (A 7) o, hA G (A 7) ea, hK G ea hs, eK G (ea 14) e]) 1 6 := by
  refine V_enterX (own := RX6) [some (.ref (A 0)), some (.int (nI p)), some (.int (nI k1)), some (.int (nI k2)), some (.int (nI k3)), some (.int (nI k4)), none] hst (by decide +kernel) rfl rfl (Nat.le_of_ble_eq_true rfl) rfl (fun Γ hR hT => ?_)
  have hkc : 0 ≤ 1 := Nat.zero_le _
  have hks : 0 ≤ 6 := Nat.zero_le _
  have hmx : 0 + 1 ≤ 1 ∧ 0 + 6 ≤ 6 := ⟨by decide, by decide⟩
  obtain ⟨val, own, mark, lw, bits, s, ch⟩ := e
  obtain ⟨hv, ho, hm, hb, hs0, hs4, hq⟩ := id he
  dsimp only at hv ho hm hb hs0 hs4 hq
  refine V_iload_n (i := 1) dX6_order_0 rfl rfl ?_
  refine V_callS (As := _) (rest := []) [] (c_X6_isCell l G (p) hp) vy_X6_isCell gX6_order_X6_isCell rfl rfl rfl rfl ⟨rfl, rfl⟩ ⟨rfl, rfl⟩ ⟨Nat.zero_le _, Nat.zero_le _⟩ rfl dX6_order_1 (fun v Y hE => ?_)
  obtain ⟨rfl, rfl⟩ := hE
  refine ⟨rfl, ?_⟩
  dsimp only [vfill, List.set_cons_zero, List.set_cons_succ, Option.toList, List.cons_append, List.nil_append, Nat.add_zero]
  refine V_if_ne (tgt := 17) (by split <;> decide) dX6_order_4 rfl (fun h_4 => ?_) (fun h_4 => ?_)
  · have hz := b01 h_4
    refine V_iload_n (i := 1) dX6_order_17 rfl rfl ?_
    refine V_bipush (v := 90) dX6_order_18 (by decide) ?_
    refine V_icmp_le (tgt := 33) (by omega) (by omega) dX6_order_20 rfl (fun h_20 => ?_) (fun h_20 => ?_)
    · refine V_iload_n (i := 2) dX6_order_33 rfl rfl ?_
      refine V_callS (As := _) (rest := []) [] (c_X6_isValue l G (k1) hk1) vy_X6_isValue gX6_order_X6_isValue rfl rfl rfl rfl ⟨rfl, rfl⟩ ⟨rfl, rfl⟩ ⟨Nat.zero_le _, Nat.zero_le _⟩ rfl dX6_order_34 (fun v Y hE => ?_)
      obtain ⟨rfl, rfl⟩ := hE
      refine ⟨rfl, ?_⟩
      dsimp only [vfill, List.set_cons_zero, List.set_cons_succ, Option.toList, List.cons_append, List.nil_append, Nat.add_zero]
      refine V_if_eq (tgt := 63) (by split <;> decide) dX6_order_37 rfl (fun h_37 => ?_) (fun h_37 => ?_)
      · refine V_IAE (is := 188) (text := "no such value") hT rfl xk_X6_order_56 xi_X6_order_56 xw_X6_order_60 (List.mem_of_getElem? (i := 6) rfl) ⟨rfl, rfl⟩ hmx hmx dX6_order_63 dX6_order_66 dX6_order_67 dX6_order_69 dX6_order_72 ?_
        refine ⟨Or.inr ⟨rfl, hz, fun z => ?_⟩, rfl⟩
        first | exact b00 h_37 z.2.1 | exact b00 h_44 z.2.2.1 | exact b00 h_52 z.2.2.2.1 | exact b00 h_60 z.2.2.2.2
      · refine V_iload_n (i := 3) dX6_order_40 rfl rfl ?_
        refine V_callS (As := _) (rest := []) [] (c_X6_isValue l G (k2) hk2) vy_X6_isValue gX6_order_X6_isValue rfl rfl rfl rfl ⟨rfl, rfl⟩ ⟨rfl, rfl⟩ ⟨Nat.zero_le _, Nat.zero_le _⟩ rfl dX6_order_41 (fun v Y hE => ?_)
        obtain ⟨rfl, rfl⟩ := hE
        refine ⟨rfl, ?_⟩
        dsimp only [vfill, List.set_cons_zero, List.set_cons_succ, Option.toList, List.cons_append, List.nil_append, Nat.add_zero]
        refine V_if_eq (tgt := 63) (by split <;> decide) dX6_order_44 rfl (fun h_44 => ?_) (fun h_44 => ?_)
        · refine V_IAE (is := 188) (text := "no such value") hT rfl xk_X6_order_56 xi_X6_order_56 xw_X6_order_60 (List.mem_of_getElem? (i := 6) rfl) ⟨rfl, rfl⟩ hmx hmx dX6_order_63 dX6_order_66 dX6_order_67 dX6_order_69 dX6_order_72 ?_
          refine ⟨Or.inr ⟨rfl, hz, fun z => ?_⟩, rfl⟩
          first | exact b00 h_37 z.2.1 | exact b00 h_44 z.2.2.1 | exact b00 h_52 z.2.2.2.1 | exact b00 h_60 z.2.2.2.2
        · refine V_iload (i := 4) dX6_order_47 rfl ?_
          refine V_callS (As := _) (rest := []) [] (c_X6_isValue l G (k3) hk3) vy_X6_isValue gX6_order_X6_isValue rfl rfl rfl rfl ⟨rfl, rfl⟩ ⟨rfl, rfl⟩ ⟨Nat.zero_le _, Nat.zero_le _⟩ rfl dX6_order_49 (fun v Y hE => ?_)
          obtain ⟨rfl, rfl⟩ := hE
          refine ⟨rfl, ?_⟩
          dsimp only [vfill, List.set_cons_zero, List.set_cons_succ, Option.toList, List.cons_append, List.nil_append, Nat.add_zero]
          refine V_if_eq (tgt := 63) (by split <;> decide) dX6_order_52 rfl (fun h_52 => ?_) (fun h_52 => ?_)
          · refine V_IAE (is := 188) (text := "no such value") hT rfl xk_X6_order_56 xi_X6_order_56 xw_X6_order_60 (List.mem_of_getElem? (i := 6) rfl) ⟨rfl, rfl⟩ hmx hmx dX6_order_63 dX6_order_66 dX6_order_67 dX6_order_69 dX6_order_72 ?_
            refine ⟨Or.inr ⟨rfl, hz, fun z => ?_⟩, rfl⟩
            first | exact b00 h_37 z.2.1 | exact b00 h_44 z.2.2.1 | exact b00 h_52 z.2.2.2.1 | exact b00 h_60 z.2.2.2.2
          · refine V_iload (i := 5) dX6_order_55 rfl ?_
            refine V_callS (As := _) (rest := []) [] (c_X6_isValue l G (k4) hk4) vy_X6_isValue gX6_order_X6_isValue rfl rfl rfl rfl ⟨rfl, rfl⟩ ⟨rfl, rfl⟩ ⟨Nat.zero_le _, Nat.zero_le _⟩ rfl dX6_order_57 (fun v Y hE => ?_)
            obtain ⟨rfl, rfl⟩ := hE
            refine ⟨rfl, ?_⟩
            dsimp only [vfill, List.set_cons_zero, List.set_cons_succ, Option.toList, List.cons_append, List.nil_append, Nat.add_zero]
            refine V_if_ne (tgt := 73) (by split <;> decide) dX6_order_60 rfl (fun h_60 => ?_) (fun h_60 => ?_)
            · have y1 := b01 h_37
              have y2 := b01 h_44
              have y3 := b01 h_52
              have y4 := b01 h_60
              refine V_aload_n (i := 0) dX6_order_73 rfl rfl ?_
              refine V_get (C := RX6) (T := TX6) (N := 9) (ci := 5) (q := 0) (ref := "OrderChains") 5 rfl il_X6_order_X6 rfl rfl fl_X6_order_37 rfl rfl dX6_order_74 ?_
              refine V_aload_n (i := 0) dX6_order_77 rfl rfl ?_
              refine V_get (C := RX6) (T := TX6) (N := 9) (ci := 5) (q := 0) (ref := "OrderChains") 3 rfl il_X6_order_X6 rfl rfl fl_X6_order_27 rfl rfl dX6_order_78 ?_
              refine V_callV (C := RX3) (q := 0) (ci := 3) (As := _) (rest := []) [1, 2, 3, 4] (c_X3_remember l G (A 3) (A 7) ea (ea 14) o hs (val, own, mark, lw, bits, s, ch) h0 h1) vy_X3_remember gX6_order_X3_remember rfl rfl rfl rfl rfl rfl rfl ⟨rfl, rfl⟩ ⟨rfl, rfl⟩ ⟨Nat.zero_le _, Nat.zero_le _⟩ rfl dX6_order_81 (fun v Y hE => ?_)
              obtain ⟨rfl, rfl⟩ := hE
              refine ⟨rfl, ?_⟩
              dsimp only [vfill, List.set_cons_zero, List.set_cons_succ, Option.toList, List.cons_append, List.nil_append, Nat.add_zero]
              refine V_same (X' := [oO A ea n, hO (A 3) (A 7) (rmO o), hA G (A 7) ea, hK G ea (rmH o hs (val, own, mark, lw, bits, s, ch)), eO (ea 14) s, iA G ((ea 14) 1) 96 val, iA G ((ea 14) 2) 96 own, iA G ((ea 14) 3) 96 mark, iA G ((ea 14) 4) 96 lw, eC G (ea 14), cX ((ea 14) 6) (ch 0), cX ((ea 14) 7) (ch 1), cX ((ea 14) 8) (ch 2), iA G ((ea 14) 9) 96 bits]) (opK (P := [oO A ea n, hO (A 3) (A 7) (rmO o), hA G (A 7) ea, hK G ea (rmH o hs (val, own, mark, lw, bits, s, ch))]) (Q := []) (a := (ea 14)) (e := (val, own, mark, lw, bits, s, ch))) ?_
              refine V_aload_n (i := 0) dX6_order_84 rfl rfl ?_
              refine V_get (C := RX6) (T := TX6) (N := 9) (ci := 5) (q := 0) (ref := "OrderChains") 3 rfl il_X6_order_X6 rfl rfl fl_X6_order_27 rfl rfl dX6_order_85 ?_
              refine V_get (C := RX2) (T := TX2) (N := 11) (ci := 2) (q := 4) (ref := "OrderChains$Engine") 0 rfl il_X6_order_X2 rfl rfl fl_X6_order_118 rfl rfl dX6_order_88 ?_
              refine V_iload_n (i := 1) dX6_order_91 rfl rfl ?_
              refine V_iald (q := 5) rfl (by omega) rfl dX6_order_92 ?_
              refine V_istore (i := 6) dX6_order_93 rfl rfl ?_
              dsimp only [List.set_cons_zero, List.set_cons_succ]
              refine V_aload_n (i := 0) dX6_order_95 rfl rfl ?_
              refine V_get (C := RX6) (T := TX6) (N := 9) (ci := 5) (q := 0) (ref := "OrderChains") 3 rfl il_X6_order_X6 rfl rfl fl_X6_order_27 rfl rfl dX6_order_96 ?_
              refine V_get (C := RX2) (T := TX2) (N := 11) (ci := 2) (q := 4) (ref := "OrderChains$Engine") 0 rfl il_X6_order_X2 rfl rfl fl_X6_order_118 rfl rfl dX6_order_99 ?_
              refine V_iload_n (i := 1) dX6_order_102 rfl rfl ?_
              refine V_iload_n (i := 2) dX6_order_103 rfl rfl ?_
              refine V_iast (q := 5) rfl (by omega) rfl dX6_order_104 ?_
              dsimp only [List.set_cons_zero, List.set_cons_succ]
              refine V_aload_n (i := 0) dX6_order_105 rfl rfl ?_
              refine V_get (C := RX6) (T := TX6) (N := 9) (ci := 5) (q := 0) (ref := "OrderChains") 3 rfl il_X6_order_X6 rfl rfl fl_X6_order_27 rfl rfl dX6_order_106 ?_
              refine V_get (C := RX2) (T := TX2) (N := 11) (ci := 2) (q := 4) (ref := "OrderChains$Engine") 0 rfl il_X6_order_X2 rfl rfl fl_X6_order_118 rfl rfl dX6_order_109 ?_
              refine V_iload_n (i := 1) dX6_order_112 rfl rfl ?_
              refine V_iconst (v := 1) dX6_order_113 rfl ?_
              refine V_iadd dX6_order_114 ?_
              refine V_iload_n (i := 3) dX6_order_115 rfl rfl ?_
              refine V_iast (q := 5) rfl (by omega) rfl dX6_order_116 ?_
              dsimp only [List.set_cons_zero, List.set_cons_succ]
              refine V_aload_n (i := 0) dX6_order_117 rfl rfl ?_
              refine V_get (C := RX6) (T := TX6) (N := 9) (ci := 5) (q := 0) (ref := "OrderChains") 3 rfl il_X6_order_X6 rfl rfl fl_X6_order_27 rfl rfl dX6_order_118 ?_
              refine V_get (C := RX2) (T := TX2) (N := 11) (ci := 2) (q := 4) (ref := "OrderChains$Engine") 0 rfl il_X6_order_X2 rfl rfl fl_X6_order_118 rfl rfl dX6_order_121 ?_
              refine V_iload_n (i := 1) dX6_order_124 rfl rfl ?_
              refine V_iconst (v := 2) dX6_order_125 rfl ?_
              refine V_iadd dX6_order_126 ?_
              refine V_iload (i := 4) dX6_order_127 rfl ?_
              refine V_iast (q := 5) rfl (by omega) rfl dX6_order_129 ?_
              dsimp only [List.set_cons_zero, List.set_cons_succ]
              refine V_aload_n (i := 0) dX6_order_130 rfl rfl ?_
              refine V_get (C := RX6) (T := TX6) (N := 9) (ci := 5) (q := 0) (ref := "OrderChains") 3 rfl il_X6_order_X6 rfl rfl fl_X6_order_27 rfl rfl dX6_order_131 ?_
              refine V_get (C := RX2) (T := TX2) (N := 11) (ci := 2) (q := 4) (ref := "OrderChains$Engine") 0 rfl il_X6_order_X2 rfl rfl fl_X6_order_118 rfl rfl dX6_order_134 ?_
              refine V_iload_n (i := 1) dX6_order_137 rfl rfl ?_
              refine V_iconst (v := 3) dX6_order_138 rfl ?_
              refine V_iadd dX6_order_139 ?_
              refine V_iload (i := 5) dX6_order_140 rfl ?_
              refine V_iast (q := 5) rfl (by omega) rfl dX6_order_142 ?_
              dsimp only [List.set_cons_zero, List.set_cons_succ]
              refine V_aload_n (i := 0) dX6_order_143 rfl rfl ?_
              refine V_get (C := RX6) (T := TX6) (N := 9) (ci := 5) (q := 0) (ref := "OrderChains") 3 rfl il_X6_order_X6 rfl rfl fl_X6_order_27 rfl rfl dX6_order_144 ?_
              refine V_get (C := RX2) (T := TX2) (N := 11) (ci := 2) (q := 4) (ref := "OrderChains$Engine") 0 rfl il_X6_order_X2 rfl rfl fl_X6_order_118 rfl rfl dX6_order_147 ?_
              refine V_iload_n (i := 1) dX6_order_150 rfl rfl ?_
              refine V_iconst (v := 4) dX6_order_151 rfl ?_
              refine V_iadd dX6_order_152 ?_
              refine V_iconst (v := 1) dX6_order_153 rfl ?_
              refine V_iast (q := 5) rfl (by omega) rfl dX6_order_154 ?_
              dsimp only [List.set_cons_zero, List.set_cons_succ]
              refine V_aload_n (i := 0) dX6_order_155 rfl rfl ?_
              refine V_get (C := RX6) (T := TX6) (N := 9) (ci := 5) (q := 0) (ref := "OrderChains") 3 rfl il_X6_order_X6 rfl rfl fl_X6_order_27 rfl rfl dX6_order_156 ?_
              refine V_get (C := RX2) (T := TX2) (N := 11) (ci := 2) (q := 4) (ref := "OrderChains$Engine") 0 rfl il_X6_order_X2 rfl rfl fl_X6_order_118 rfl rfl dX6_order_159 ?_
              refine V_iload_n (i := 1) dX6_order_162 rfl rfl ?_
              refine V_iconst (v := 5) dX6_order_163 rfl ?_
              refine V_iadd dX6_order_164 ?_
              refine V_iload_n (i := 1) dX6_order_165 rfl rfl ?_
              refine V_bipush (v := 6) dX6_order_166 (by decide) ?_
              refine V_iadd dX6_order_168 ?_
              refine V_iast (q := 5) rfl (by omega) rfl dX6_order_169 ?_
              dsimp only [List.set_cons_zero, List.set_cons_succ]
              refine V_iload (i := 6) dX6_order_170 rfl ?_
              refine V_same (X' := [oO A ea n, hO (A 3) (A 7) (rmO o), hA G (A 7) ea, hK G ea (rmH o hs (val, own, mark, lw, bits, s, ch)), eK G (ea 14) ((va_up (va_up (va_up (va_up (va_up (va_up val p k1) (p + 1) k2) (p + 2) k3) (p + 3) k4) (p + 4) 1) (p + 5) (p + 6)), own, mark, lw, bits, s, ch)]) (opK (P := [oO A ea n, hO (A 3) (A 7) (rmO o), hA G (A 7) ea, hK G ea (rmH o hs (val, own, mark, lw, bits, s, ch))]) (Q := []) (a := (ea 14)) (e := ((va_up (va_up (va_up (va_up (va_up (va_up val p k1) (p + 1) k2) (p + 2) k3) (p + 3) k4) (p + 4) 1) (p + 5) (p + 6)), own, mark, lw, bits, s, ch))).symm ?_
              refine V_iret hR dX6_order_172 hkc hks ?_
              exact ⟨⟨hz, by omega, y1, y2, y3, y4⟩, rfl, rfl⟩
            · refine V_IAE (is := 188) (text := "no such value") hT rfl xk_X6_order_56 xi_X6_order_56 xw_X6_order_60 (List.mem_of_getElem? (i := 6) rfl) ⟨rfl, rfl⟩ hmx hmx dX6_order_63 dX6_order_66 dX6_order_67 dX6_order_69 dX6_order_72 ?_
              refine ⟨Or.inr ⟨rfl, hz, fun z => ?_⟩, rfl⟩
              first | exact b00 h_37 z.2.1 | exact b00 h_44 z.2.2.1 | exact b00 h_52 z.2.2.2.1 | exact b00 h_60 z.2.2.2.2
    · refine V_IAE (is := 193) (text := "no order fits there") hT rfl xk_X6_order_56 xi_X6_order_56 xw_X6_order_60 (List.mem_of_getElem? (i := 7) rfl) ⟨rfl, rfl⟩ hmx hmx dX6_order_23 dX6_order_26 dX6_order_27 dX6_order_29 dX6_order_32 ?_
      exact ⟨Or.inr ⟨rfl, hz, fun z => by omega⟩, rfl⟩
  · refine V_IOB (is := 115) (text := "no such cell") hT rfl xk_X6_order_113 xi_X6_order_113 xw_X6_order_117 (List.mem_of_getElem? (i := 1) rfl) ⟨rfl, rfl⟩ hmx hmx dX6_order_7 dX6_order_10 dX6_order_11 dX6_order_13 dX6_order_16 ?_
    exact ⟨Or.inl ⟨rfl, b00 h_4⟩, rfl⟩

abbrev rX6_own : Room := { frames := 6, cells := 1, slots := 6, locals := 92 }
theorem vy_X6_own : vY yX6_own wsX6_own cX6_own 4 (some .int) 3 := ⟨⟨_, rfl⟩, by decide +kernel, by decide +kernel, by decide +kernel⟩
theorem xk_X6_own_56 : Cond.classLink RX6 56 "java/lang/IllegalArgumentException" ∈ wsX6_own := List.mem_of_getElem? (i := 3) rfl
theorem xi_X6_own_56 : Cond.initialized "java/lang/IllegalArgumentException" ∈ wsX6_own := List.mem_of_getElem? (i := 4) rfl
theorem xw_X6_own_60 : ∀ w ∈ (vx_atS RX6 60 sIAE nms).filter goodWord, w ∈ wsX6_own := fun _ h => List.mem_cons_of_mem _ (List.mem_append_right _ h)
theorem fl_X6_own_37 : Cond.fieldLink RX6 37 "OrderChains" "history" "LOrderChains$History;" ∈ wsX6_own := List.mem_of_getElem? (i := 5) rfl
theorem il_X6_own_X6 : ∀ w ∈ wsX60, w ∈ wsX6_own := fun _ h => List.mem_cons_of_mem _ (List.mem_append_left _ (List.mem_append_left _ (List.mem_append_left _ (List.mem_append_left _ (List.mem_append_left _ (List.mem_append_right _ h))))))
theorem fl_X6_own_27 : Cond.fieldLink RX6 27 "OrderChains" "live" "LOrderChains$Engine;" ∈ wsX6_own := List.mem_of_getElem? (i := 6) rfl
theorem xk_X6_own_113 : Cond.classLink RX6 113 "java/lang/IndexOutOfBoundsException" ∈ wsX6_own := List.mem_of_getElem? (i := 1) rfl
theorem xi_X6_own_113 : Cond.initialized "java/lang/IndexOutOfBoundsException" ∈ wsX6_own := List.mem_of_getElem? (i := 2) rfl
theorem xw_X6_own_117 : ∀ w ∈ (vx_atS RX6 117 sIOB nms).filter goodWord, w ∈ wsX6_own := fun _ h => List.mem_cons_of_mem _ (List.mem_append_left _ (List.mem_append_right _ h))
set_option maxHeartbeats 4000000 in
set_option maxRecDepth 100000 in
/-- own -/
theorem c_X6_own (l : Launch) (hst : l.stackTraces = false) (G : vG) (A : Nat → Nat) (ea : Nat → Nat → Nat) (o : Nat → Nat) (hs : Nat → vE) (n p w u : Nat) (e : vE) (he : eB e) (h0 : o 0 < 14) (h1 : o 1 < 15) (hp : p < 4294967296) (hw : w < 4294967296) (hu : u < 4294967296) : Kx l G yX6_own wsX6_own rX6_own [.ref (A 0), .int (nI p), .int (nI w), .int (nI u)] [oO A ea n, hO (A 3) (A 7) o, hA G (A 7) ea, hK G ea hs, eK G (ea 14) e] (fun v Y => (p < 96 ∧ 1 ≤ w ∧ w < 97 ∧ u < 4) ∧ v = some (.int (nI (gvN p (sm p w) u e.2.1))) ∧ Y = [oO A ea n, hO (A 3) (A 7) (rmO o), hA G (A 7) ea, hK G ea (rmH o hs e), eK G (ea 14) (setO e (gvF p (sm p w) u e.2.1))]) (fun c Y => ((c = sIOB ∧ ¬ p < 96) ∨ (c = sIAE ∧ p < 96 ∧ ¬ (1 ≤ w ∧ w < 97 ∧ u < 4))) ∧ Y = [oO A ea n, hO (A 3) (A 7) o, hA G (A 7) ea, hK G ea hs, eK G (ea 14) e]) 1 6 := by
  refine V_enterX (own := RX6) [some (.ref (A 0)), some (.int (nI p)), some (.int (nI w)), some (.int (nI u))] hst (by decide +kernel) rfl rfl (Nat.le_of_ble_eq_true rfl) rfl (fun Γ hR hT => ?_)
  have hkc : 0 ≤ 1 := Nat.zero_le _
  have hks : 0 ≤ 6 := Nat.zero_le _
  have hmx : 0 + 1 ≤ 1 ∧ 0 + 6 ≤ 6 := ⟨by decide, by decide⟩
  obtain ⟨val, own, mark, lw, bits, s, ch⟩ := e
  obtain ⟨hv, ho, hm, hb, hs0, hs4, hq⟩ := id he
  dsimp only at hv ho hm hb hs0 hs4 hq
  refine V_iload_n (i := 1) dX6_own_0 rfl rfl ?_
  refine V_callS (As := _) (rest := []) [] (c_X6_isCell l G (p) hp) vy_X6_isCell gX6_own_X6_isCell rfl rfl rfl rfl ⟨rfl, rfl⟩ ⟨rfl, rfl⟩ ⟨Nat.zero_le _, Nat.zero_le _⟩ rfl dX6_own_1 (fun v Y hE => ?_)
  obtain ⟨rfl, rfl⟩ := hE
  refine ⟨rfl, ?_⟩
  dsimp only [vfill, List.set_cons_zero, List.set_cons_succ, Option.toList, List.cons_append, List.nil_append, Nat.add_zero]
  refine V_if_ne (tgt := 17) (by split <;> decide) dX6_own_4 rfl (fun h_4 => ?_) (fun h_4 => ?_)
  · have hz := b01 h_4
    refine V_iload_n (i := 2) dX6_own_17 rfl rfl ?_
    refine V_iconst (v := 1) dX6_own_18 rfl ?_
    refine V_icmp_ltA (tgt := 37) (by omega) (by omega) dX6_own_19 rfl (fun h_19 => ?_) (fun h_19 => ?_)
    · refine V_IAE (is := 195) (text := "no such number of cells, or no such owner") hT rfl xk_X6_own_56 xi_X6_own_56 xw_X6_own_60 (List.mem_of_getElem? (i := 8) rfl) ⟨rfl, rfl⟩ hmx hmx dX6_own_37 dX6_own_40 dX6_own_41 dX6_own_43 dX6_own_46 ?_
      exact ⟨Or.inr ⟨rfl, hz, fun z => by omega⟩, rfl⟩
    · refine V_iload_n (i := 2) dX6_own_22 rfl rfl ?_
      refine V_bipush (v := 96) dX6_own_23 (by decide) ?_
      refine V_icmp_gtA (tgt := 37) (by omega) (by omega) dX6_own_25 rfl (fun h_25 => ?_) (fun h_25 => ?_)
      · refine V_IAE (is := 195) (text := "no such number of cells, or no such owner") hT rfl xk_X6_own_56 xi_X6_own_56 xw_X6_own_60 (List.mem_of_getElem? (i := 8) rfl) ⟨rfl, rfl⟩ hmx hmx dX6_own_37 dX6_own_40 dX6_own_41 dX6_own_43 dX6_own_46 ?_
        exact ⟨Or.inr ⟨rfl, hz, fun z => by omega⟩, rfl⟩
      · refine V_iload_n (i := 3) dX6_own_28 rfl rfl ?_
        refine V_if_lt (tgt := 37) (by omega) dX6_own_29 rfl (fun h_29 => ?_) (fun h_29 => ?_)
        · refine V_IAE (is := 195) (text := "no such number of cells, or no such owner") hT rfl xk_X6_own_56 xi_X6_own_56 xw_X6_own_60 (List.mem_of_getElem? (i := 8) rfl) ⟨rfl, rfl⟩ hmx hmx dX6_own_37 dX6_own_40 dX6_own_41 dX6_own_43 dX6_own_46 ?_
          exact ⟨Or.inr ⟨rfl, hz, fun z => by omega⟩, rfl⟩
        · refine V_iload_n (i := 3) dX6_own_32 rfl rfl ?_
          refine V_iconst (v := 4) dX6_own_33 rfl ?_
          refine V_icmp_ltA (tgt := 47) (by omega) (by omega) dX6_own_34 rfl (fun h_34 => ?_) (fun h_34 => ?_)
          · refine V_aload_n (i := 0) dX6_own_47 rfl rfl ?_
            refine V_get (C := RX6) (T := TX6) (N := 9) (ci := 5) (q := 0) (ref := "OrderChains") 5 rfl il_X6_own_X6 rfl rfl fl_X6_own_37 rfl rfl dX6_own_48 ?_
            refine V_aload_n (i := 0) dX6_own_51 rfl rfl ?_
            refine V_get (C := RX6) (T := TX6) (N := 9) (ci := 5) (q := 0) (ref := "OrderChains") 3 rfl il_X6_own_X6 rfl rfl fl_X6_own_27 rfl rfl dX6_own_52 ?_
            refine V_callV (C := RX3) (q := 0) (ci := 3) (As := _) (rest := []) [1, 2, 3, 4] (c_X3_remember l G (A 3) (A 7) ea (ea 14) o hs (val, own, mark, lw, bits, s, ch) h0 h1) vy_X3_remember gX6_own_X3_remember rfl rfl rfl rfl rfl rfl rfl ⟨rfl, rfl⟩ ⟨rfl, rfl⟩ ⟨Nat.zero_le _, Nat.zero_le _⟩ rfl dX6_own_55 (fun v Y hE => ?_)
            obtain ⟨rfl, rfl⟩ := hE
            refine ⟨rfl, ?_⟩
            dsimp only [vfill, List.set_cons_zero, List.set_cons_succ, Option.toList, List.cons_append, List.nil_append, Nat.add_zero]
            refine V_same (X' := [oO A ea n, hO (A 3) (A 7) (rmO o), hA G (A 7) ea, hK G ea (rmH o hs (val, own, mark, lw, bits, s, ch)), eO (ea 14) s, iA G ((ea 14) 1) 96 val, iA G ((ea 14) 2) 96 own, iA G ((ea 14) 3) 96 mark, iA G ((ea 14) 4) 96 lw, eC G (ea 14), cX ((ea 14) 6) (ch 0), cX ((ea 14) 7) (ch 1), cX ((ea 14) 8) (ch 2), iA G ((ea 14) 9) 96 bits]) (opK (P := [oO A ea n, hO (A 3) (A 7) (rmO o), hA G (A 7) ea, hK G ea (rmH o hs (val, own, mark, lw, bits, s, ch))]) (Q := []) (a := (ea 14)) (e := (val, own, mark, lw, bits, s, ch))) ?_
            refine V_aload_n (i := 0) dX6_own_58 rfl rfl ?_
            refine V_get (C := RX6) (T := TX6) (N := 9) (ci := 5) (q := 0) (ref := "OrderChains") 3 rfl il_X6_own_X6 rfl rfl fl_X6_own_27 rfl rfl dX6_own_59 ?_
            refine V_iload_n (i := 1) dX6_own_62 rfl rfl ?_
            refine V_iload_n (i := 2) dX6_own_63 rfl rfl ?_
            refine V_iload_n (i := 3) dX6_own_64 rfl rfl ?_
            refine V_callV (C := RX2) (q := 0) (ci := 2) (As := _) (rest := []) [4, 6] (c_X2_giveCells l G (ea 14) s own p w u hz (by omega) (by omega) ho) vy_X2_giveCells gX6_own_X2_giveCells rfl rfl rfl rfl rfl rfl rfl ⟨rfl, rfl⟩ ⟨rfl, rfl⟩ ⟨Nat.zero_le _, Nat.zero_le _⟩ rfl dX6_own_65 (fun v Y hE => ?_)
            obtain ⟨rfl, rfl⟩ := hE
            refine ⟨rfl, ?_⟩
            dsimp only [vfill, List.set_cons_zero, List.set_cons_succ, Option.toList, List.cons_append, List.nil_append, Nat.add_zero]
            refine V_same (X' := [oO A ea n, hO (A 3) (A 7) (rmO o), hA G (A 7) ea, hK G ea (rmH o hs (val, own, mark, lw, bits, s, ch)), eK G (ea 14) (setO (val, own, mark, lw, bits, s, ch) (gvF p (sm p w) u own))]) (opK (P := [oO A ea n, hO (A 3) (A 7) (rmO o), hA G (A 7) ea, hK G ea (rmH o hs (val, own, mark, lw, bits, s, ch))]) (Q := []) (a := (ea 14)) (e := (setO (val, own, mark, lw, bits, s, ch) (gvF p (sm p w) u own)))).symm ?_
            refine V_iret hR dX6_own_68 hkc hks ?_
            exact ⟨⟨hz, by omega, by omega, by omega⟩, rfl, rfl⟩
          · refine V_IAE (is := 195) (text := "no such number of cells, or no such owner") hT rfl xk_X6_own_56 xi_X6_own_56 xw_X6_own_60 (List.mem_of_getElem? (i := 8) rfl) ⟨rfl, rfl⟩ hmx hmx dX6_own_37 dX6_own_40 dX6_own_41 dX6_own_43 dX6_own_46 ?_
            exact ⟨Or.inr ⟨rfl, hz, fun z => by omega⟩, rfl⟩
  · refine V_IOB (is := 115) (text := "no such cell") hT rfl xk_X6_own_113 xi_X6_own_113 xw_X6_own_117 (List.mem_of_getElem? (i := 1) rfl) ⟨rfl, rfl⟩ hmx hmx dX6_own_7 dX6_own_10 dX6_own_11 dX6_own_13 dX6_own_16 ?_
    exact ⟨Or.inl ⟨rfl, b00 h_4⟩, rfl⟩

end OC2
