section ENG4
/-- an engine: values, owners, marks, last writers, writer bits, numbers (last turn, ticks, edits, writes, earliest edit), channels -/
abbrev vE : Type := (Nat → Nat) × (Nat → Nat) × (Nat → Nat) × (Nat → Nat) × (Nat → Nat) × (Nat → Nat) × (Nat → Nat → Nat)
def eX (G : vG) (a : Nat → Nat) (e : vE) : List va_W := [eO a e.2.2.2.2.2.1, iA G (a 1) 96 e.1, iA G (a 2) 96 e.2.1, iA G (a 3) 96 e.2.2.1, iA G (a 4) 96 e.2.2.2.1, eC G a, cX (a 6) (e.2.2.2.2.2.2 0), cX (a 7) (e.2.2.2.2.2.2 1), cX (a 8) (e.2.2.2.2.2.2 2), iA G (a 9) 96 e.2.2.2.2.1]
def fil (v : Nat) (f : Nat → Nat) : Nat → Nat := fun k => if k < 96 then v else f k
def cp (f g : Nat → Nat) : Nat → Nat := fun k => if k < 96 then f k else g k
def tickC (e : vE) : vE :=
  if nT (e.2.2.2.2.2.1 0) e.2.2.2.2.2.2 = 4294967287 then e
  else if e.2.2.2.2.2.2 (nT (e.2.2.2.2.2.1 0) e.2.2.2.2.2.2) 5 = 4294967287 then
    (e.1, e.2.1, rdM e.2.2.1 (e.2.2.2.2.2.2 (nT (e.2.2.2.2.2.1 0) e.2.2.2.2.2.2)), e.2.2.2.1, e.2.2.2.2.1, va_up (va_up e.2.2.2.2.2.1 0 (nT (e.2.2.2.2.2.1 0) e.2.2.2.2.2.2)) 1 (e.2.2.2.2.2.1 1 + 1),
      va_up e.2.2.2.2.2.2 (nT (e.2.2.2.2.2.1 0) e.2.2.2.2.2.2) (rdQ e.1 (e.2.2.2.2.2.2 (nT (e.2.2.2.2.2.1 0) e.2.2.2.2.2.2))))
  else
    match duC e.2.1 e.2.2.1 (nT (e.2.2.2.2.2.1 0) e.2.2.2.2.2.2) (e.1, e.2.2.2.1, e.2.2.2.2.1, va_up (va_up e.2.2.2.2.2.1 0 (nT (e.2.2.2.2.2.1 0) e.2.2.2.2.2.2)) 1 (e.2.2.2.2.2.1 1 + 1), e.2.2.2.2.2.2 (nT (e.2.2.2.2.2.1 0) e.2.2.2.2.2.2)) with
    | (val, lw, bits, s, q) => (val, e.2.1, e.2.2.1, lw, bits, s, va_up e.2.2.2.2.2.2 (nT (e.2.2.2.2.2.1 0) e.2.2.2.2.2.2) q)
def eB (e : vE) : Prop := (∀ k, k < 96 → e.1 k < 100) ∧ (∀ k, k < 96 → e.2.1 k < 4) ∧ (∀ k, k < 96 → e.2.2.1 k < 2) ∧ (∀ k, k < 96 → e.2.2.2.2.1 k < 8) ∧ e.2.2.2.2.2.1 0 < 3 ∧ e.2.2.2.2.2.1 4 < 4294967296 ∧ ∀ h, h < 3 → qB (e.2.2.2.2.2.2 h)
def cpC (e f : vE) : vE := (cp f.1 e.1, cp f.2.1 e.2.1, cp f.2.2.1 e.2.2.1, cp f.2.2.2.1 e.2.2.2.1, fil 0 e.2.2.2.2.1, va_up (va_up (va_up (va_up (va_up e.2.2.2.2.2.1 0 (f.2.2.2.2.2.1 0)) 1 (f.2.2.2.2.2.1 1)) 2 (f.2.2.2.2.2.1 2)) 3 (f.2.2.2.2.2.1 3)) 4 4294967287, f.2.2.2.2.2.2)
def rsC (e : vE) : vE := (fil 0 e.1, fil 0 e.2.1, fil 0 e.2.2.1, fil 4294967287 e.2.2.2.1, e.2.2.2.2.1, va_up (va_up (va_up (va_up e.2.2.2.2.2.1 0 2) 1 0) 2 0) 3 0, fun h => qReset (e.2.2.2.2.2.2 h))
def gvF (b m o : Nat) (own : Nat → Nat) : Nat → Nat := fun k => if b ≤ k ∧ k < m then o else own k
theorem gv_t (b c o : Nat) (own : Nat → Nat) (h : b ≤ c) : va_up (gvF b c o own) c o = gvF b (c + 1) o own := by
  funext k
  unfold va_up gvF
  by_cases e : k = c
  · rw [if_pos e, if_pos (by omega)]
  · rw [if_neg e]
    by_cases h2 : b ≤ k ∧ k < c
    · rw [if_pos h2, if_pos (by omega)]
    · rw [if_neg h2, if_neg (by omega)]
theorem gv_f (b c o : Nat) (own : Nat → Nat) (h : own c = o) : gvF b c o own = gvF b (c + 1) o own := by
  funext k
  unfold gvF
  by_cases e : k = c
  · subst e
    rw [if_neg (by omega)]
    split
    · exact h
    · rfl
  · by_cases h2 : b ≤ k ∧ k < c
    · rw [if_pos h2, if_pos (by omega)]
    · rw [if_neg h2, if_neg (by omega)]
theorem gv_at (b c o : Nat) (own : Nat → Nat) : gvF b c o own c = own c := by
  unfold gvF
  rw [if_neg (by omega)]
def gvN (b m o : Nat) (own : Nat → Nat) : Nat := vsum (fun k => if b ≤ k ∧ own k ≠ o then 1 else 0) m
theorem gvN_0 (b o : Nat) (own : Nat → Nat) : ∀ m, m ≤ b → gvN b m o own = 0
  | 0, _ => rfl
  | m + 1, h => by
    show gvN b m o own + (if b ≤ m ∧ own m ≠ o then 1 else 0) = 0
    rw [gvN_0 b o own m (by omega), if_neg (by omega)]
theorem gvN_t (b m o : Nat) (own : Nat → Nat) (h : b ≤ m) (h2 : own m ≠ o) : gvN b (m + 1) o own = gvN b m o own + 1 := by
  show gvN b m o own + (if b ≤ m ∧ own m ≠ o then 1 else 0) = _
  rw [if_pos ⟨h, h2⟩]
theorem gvN_f (b m o : Nat) (own : Nat → Nat) (h2 : own m = o) : gvN b (m + 1) o own = gvN b m o own := by
  show gvN b m o own + (if b ≤ m ∧ own m ≠ o then 1 else 0) = _
  rw [if_neg (fun z => z.2 h2), Nat.add_zero]
theorem gvN_le (b m o : Nat) (own : Nat → Nat) : gvN b m o own ≤ m := by
  have := vsum_le (f := fun k => if b ≤ k ∧ own k ≠ o then 1 else 0) (c := 1) (n := m) (fun k _ => by show (if _ then 1 else 0) ≤ 1; split <;> omega)
  unfold gvN
  omega

abbrev rX2_watchFromHere : Room := { frames := 1, cells := 0, slots := 0, locals := 23 }
theorem vy_X2_watchFromHere : vY yX2_watchFromHere wsX2_watchFromHere cX2_watchFromHere 1 none 0 := ⟨⟨_, rfl⟩, by decide +kernel, by decide +kernel, by decide +kernel⟩
theorem fl_X2_watchFromHere_43 : Cond.fieldLink RX2 43 "OrderChains$Engine" "writerBits" "[I" ∈ wsX2_watchFromHere := List.mem_of_getElem? (i := 1) rfl
theorem il_X2_watchFromHere_X2 : ∀ w ∈ wsX20, w ∈ wsX2_watchFromHere := fun _ h => List.mem_cons_of_mem _ (List.mem_append_right _ h)
theorem fl_X2_watchFromHere_46 : Cond.fieldLink RX2 46 "OrderChains$Engine" "earliestEdit" "I" ∈ wsX2_watchFromHere := List.mem_of_getElem? (i := 2) rfl
set_option maxHeartbeats 4000000 in
set_option maxRecDepth 100000 in
/-- Engine.watchFromHere -/
theorem c_X2_watchFromHere (l : Launch) (G : vG) (a s bits : Nat → Nat) : Kc l G yX2_watchFromHere wsX2_watchFromHere rX2_watchFromHere [.ref (a 0)] [eO a s, iA G (a 9) 96 bits] (fun r Y => r = none ∧ Y = [eO a (va_up s 4 4294967287), iA G (a 9) 96 (fil 0 bits)]) 0 0 := by
  refine V_enter (own := RX2) [some (.ref (a 0))] (by decide +kernel) rfl rfl (Nat.le_of_ble_eq_true rfl) rfl (fun Γ hR hin => ?_)
  have hkc : 0 ≤ 0 := Nat.le_refl 0
  have hks : 0 ≤ 0 := Nat.le_refl 0
  refine V_aload_n (i := 0) dX2_watchFromHere_0 rfl rfl ?_
  refine V_get (C := RX2) (T := TX2) (N := 11) (ci := 2) (q := 0) (ref := "OrderChains$Engine") 9 rfl il_X2_watchFromHere_X2 rfl rfl fl_X2_watchFromHere_43 rfl rfl dX2_watchFromHere_1 ?_
  refine V_iconst (v := 0) dX2_watchFromHere_4 rfl ?_
  refine V_callS (As := _) (rest := []) [1] (c_J7_fill_53178 l G (a 9) 96 0 bits rfl) vy_J7_fill_53178 gX2_watchFromHere_J7_fill_53178 rfl rfl rfl rfl ⟨rfl, rfl⟩ ⟨rfl, rfl⟩ ⟨Nat.zero_le _, Nat.zero_le _⟩ rfl dX2_watchFromHere_5 (fun v Y hE => ?_)
  obtain ⟨rfl, rfl⟩ := hE
  refine ⟨rfl, ?_⟩
  dsimp only [vfill, List.set_cons_zero, List.set_cons_succ, Option.toList, List.cons_append, List.nil_append, Nat.add_zero]
  refine V_aload_n (i := 0) dX2_watchFromHere_8 rfl rfl ?_
  refine V_bipush (v := 4294967287) dX2_watchFromHere_9 (by decide) ?_
  refine V_put (C := RX2) (T := TX2) (N := 11) (ci := 2) (q := 0) (ref := "OrderChains$Engine") (ty := .int) (ty0 := tyX2) 10 rfl il_X2_watchFromHere_X2 tyX2_ok nmX2 rfl rfl fl_X2_watchFromHere_46 rfl rfl rfl rfl rfl rfl dX2_watchFromHere_11 ?_
  dsimp only [List.set_cons_zero, List.set_cons_succ]
  refine V_vret hR dX2_watchFromHere_14 hkc hks ?_
  exact ⟨rfl, rfl⟩

abbrev rX2_giveCells : Room := { frames := 0, cells := 0, slots := 0, locals := 0 }
theorem vy_X2_giveCells : vY yX2_giveCells wsX2_giveCells cX2_giveCells 6 (some .int) 3 := ⟨⟨_, rfl⟩, by decide +kernel, by decide +kernel, by decide +kernel⟩
theorem fl_X2_giveCells_15 : Cond.fieldLink RX2 15 "OrderChains$Engine" "owners" "[I" ∈ wsX2_giveCells := List.mem_of_getElem? (i := 1) rfl
theorem il_X2_giveCells_X2 : ∀ w ∈ wsX20, w ∈ wsX2_giveCells := fun _ h => List.mem_cons_of_mem _ (List.mem_append_right _ h)
set_option maxHeartbeats 4000000 in
set_option maxRecDepth 100000 in
/-- Engine.giveCells -/
theorem c_X2_giveCells (l : Launch) (G : vG) (a s own : Nat → Nat) (b n o : Nat) (hb : b < 96) (hn : n < 97) (ho : o < 4) (hw : ∀ k, k < 96 → own k < 4) : Kc l G yX2_giveCells wsX2_giveCells rX2_giveCells [.ref (a 0), .int (nI b), .int (nI n), .int (nI o)] [eO a s, iA G (a 2) 96 own] (fun r Y => r = some (.int (nI (gvN b (if b + n < 96 then b + n else 96) o own))) ∧ Y = [eO a s, iA G (a 2) 96 (gvF b (if b + n < 96 then b + n else 96) o own)]) 0 0 := by
  refine V_enter (own := RX2) [some (.ref (a 0)), some (.int (nI b)), some (.int (nI n)), some (.int (nI o)), none, none] (by decide +kernel) rfl rfl (Nat.le_of_ble_eq_true rfl) rfl (fun Γ hR hin => ?_)
  have hkc : 0 ≤ 0 := Nat.le_refl 0
  have hks : 0 ≤ 0 := Nat.le_refl 0
  have LP6 : ∀ (fuel : Nat) (c : Nat), b + 97 ≤ c + fuel → b ≤ c → c ≤ 96 → c ≤ b + n → V l G (cX2_giveCells, 6, wsX2_giveCells, RX2, rX2_giveCells) Γ 0 0 6 [some (.ref (a 0)), some (.int (nI b)), some (.int (nI n)), some (.int (nI o)), some (.int (nI (gvN b c o own))), some (.int (nI c))] [] [eO a s, iA G (a 2) 96 (gvF b c o own)] := by
    intro fuel
    induction fuel with
    | zero => intro c hf h1 h2 h3; exact absurd hf (by omega)
    | succ fuel ih =>
      intro c hf h1 h2 h3
      refine V_iload (i := 5) dX2_giveCells_6 rfl ?_
      refine V_bipush (v := 96) dX2_giveCells_8 (by decide) ?_
      refine V_icmp_ge (tgt := 49) (by omega) (by omega) dX2_giveCells_10 rfl (fun h_10 => ?_) (fun h_10 => ?_)
      · refine V_iload (i := 4) dX2_giveCells_49 rfl ?_
        refine V_iret hR dX2_giveCells_51 hkc hks ?_
        first | (rw [show (if b + n < 96 then b + n else 96) = c by (split <;> omega)]; exact ⟨rfl, rfl⟩)
      · refine V_iload (i := 5) dX2_giveCells_13 rfl ?_
        refine V_iload_n (i := 1) dX2_giveCells_15 rfl rfl ?_
        refine V_iload_n (i := 2) dX2_giveCells_16 rfl rfl ?_
        refine V_iadd dX2_giveCells_17 ?_
        refine V_icmp_ge (tgt := 49) (by omega) (by omega) dX2_giveCells_18 rfl (fun h_18 => ?_) (fun h_18 => ?_)
        · refine V_iload (i := 4) dX2_giveCells_49 rfl ?_
          refine V_iret hR dX2_giveCells_51 hkc hks ?_
          first | (rw [show (if b + n < 96 then b + n else 96) = c by (split <;> omega)]; exact ⟨rfl, rfl⟩)
        · refine V_aload_n (i := 0) dX2_giveCells_21 rfl rfl ?_
          refine V_get (C := RX2) (T := TX2) (N := 11) (ci := 2) (q := 0) (ref := "OrderChains$Engine") 1 rfl il_X2_giveCells_X2 rfl rfl fl_X2_giveCells_15 rfl rfl dX2_giveCells_22 ?_
          refine V_iload (i := 5) dX2_giveCells_25 rfl ?_
          refine V_iald (q := 1) rfl (by omega) rfl dX2_giveCells_27 ?_
          refine V_iload_n (i := 3) dX2_giveCells_28 rfl rfl ?_
          refine V_icmp_eq (tgt := 43) (by rw [gv_at]; have := hw c (by omega); omega) (by omega) dX2_giveCells_29 rfl (fun h_29 => ?_) (fun h_29 => ?_)
          · refine V_iinc dX2_giveCells_43 rfl (nI_1 _) rfl rfl ?_
            dsimp only [List.set_cons_zero, List.set_cons_succ]
            refine V_goto (tgt := 6) dX2_giveCells_46 rfl ?_
            first | (rw [← gvN_f b c o own ((gv_at b c o own).symm.trans h_29)]; refine V_same (X' := [eO a s, iA G (a 2) 96 (gvF b (c + 1) o own)]) (by rw [gv_f b c o own ((gv_at b c o own).symm.trans h_29)]) ?_; exact ih (c + 1) (by omega) (by omega) (by omega) (by omega)) | (rw [← gvN_t b c o own h1 (fun z => h_29 ((gv_at b c o own).trans z)), gv_t b c o own h1]; exact ih (c + 1) (by omega) (by omega) (by omega) (by omega))
          · refine V_aload_n (i := 0) dX2_giveCells_32 rfl rfl ?_
            refine V_get (C := RX2) (T := TX2) (N := 11) (ci := 2) (q := 0) (ref := "OrderChains$Engine") 1 rfl il_X2_giveCells_X2 rfl rfl fl_X2_giveCells_15 rfl rfl dX2_giveCells_33 ?_
            refine V_iload (i := 5) dX2_giveCells_36 rfl ?_
            refine V_iload_n (i := 3) dX2_giveCells_38 rfl rfl ?_
            refine V_iast (q := 1) rfl (by omega) rfl dX2_giveCells_39 ?_
            dsimp only [List.set_cons_zero, List.set_cons_succ]
            refine V_iinc dX2_giveCells_40 rfl (nI_1 _) rfl rfl ?_
            dsimp only [List.set_cons_zero, List.set_cons_succ]
            refine V_iinc dX2_giveCells_43 rfl (nI_1 _) rfl rfl ?_
            dsimp only [List.set_cons_zero, List.set_cons_succ]
            refine V_goto (tgt := 6) dX2_giveCells_46 rfl ?_
            first | (rw [← gvN_f b c o own ((gv_at b c o own).symm.trans h_29)]; refine V_same (X' := [eO a s, iA G (a 2) 96 (gvF b (c + 1) o own)]) (by rw [gv_f b c o own ((gv_at b c o own).symm.trans h_29)]) ?_; exact ih (c + 1) (by omega) (by omega) (by omega) (by omega)) | (rw [← gvN_t b c o own h1 (fun z => h_29 ((gv_at b c o own).trans z)), gv_t b c o own h1]; exact ih (c + 1) (by omega) (by omega) (by omega) (by omega))
  refine V_iconst (v := 0) dX2_giveCells_0 rfl ?_
  refine V_istore (i := 4) dX2_giveCells_1 rfl rfl ?_
  dsimp only [List.set_cons_zero, List.set_cons_succ]
  refine V_iload_n (i := 1) dX2_giveCells_3 rfl rfl ?_
  refine V_istore (i := 5) dX2_giveCells_4 rfl rfl ?_
  dsimp only [List.set_cons_zero, List.set_cons_succ]
  have e0 : gvF b b o own = own := by funext k; unfold gvF; rw [if_neg (by omega)]
  refine V_same (X' := [eO a s, iA G (a 2) 96 (gvF b b o own)]) (by rw [e0]) ?_
  have e1 := LP6 97 b (by omega) (by omega) (by omega) (by omega)
  rw [gvN_0 b o own b (Nat.le_refl b)] at e1
  exact e1

abbrev rX2_reset : Room := { frames := 2, cells := 0, slots := 0, locals := 41 }
theorem vy_X2_reset : vY yX2_reset wsX2_reset cX2_reset 2 none 0 := ⟨⟨_, rfl⟩, by decide +kernel, by decide +kernel, by decide +kernel⟩
theorem fl_X2_reset_9 : Cond.fieldLink RX2 9 "OrderChains$Engine" "values" "[I" ∈ wsX2_reset := List.mem_of_getElem? (i := 1) rfl
theorem il_X2_reset_X2 : ∀ w ∈ wsX20, w ∈ wsX2_reset := fun _ h => List.mem_cons_of_mem _ (List.mem_append_left _ (List.mem_append_right _ h))
theorem fl_X2_reset_15 : Cond.fieldLink RX2 15 "OrderChains$Engine" "owners" "[I" ∈ wsX2_reset := List.mem_of_getElem? (i := 2) rfl
theorem fl_X2_reset_18 : Cond.fieldLink RX2 18 "OrderChains$Engine" "marks" "[I" ∈ wsX2_reset := List.mem_of_getElem? (i := 3) rfl
theorem fl_X2_reset_21 : Cond.fieldLink RX2 21 "OrderChains$Engine" "lastWriters" "[I" ∈ wsX2_reset := List.mem_of_getElem? (i := 4) rfl
theorem fl_X2_reset_26 : Cond.fieldLink RX2 26 "OrderChains$Engine" "channels" "[LOrderChains$Channel;" ∈ wsX2_reset := List.mem_of_getElem? (i := 5) rfl
theorem fl_X2_reset_30 : Cond.fieldLink RX2 30 "OrderChains$Engine" "lastTurn" "I" ∈ wsX2_reset := List.mem_of_getElem? (i := 6) rfl
theorem fl_X2_reset_34 : Cond.fieldLink RX2 34 "OrderChains$Engine" "ticks" "I" ∈ wsX2_reset := List.mem_of_getElem? (i := 7) rfl
theorem fl_X2_reset_37 : Cond.fieldLink RX2 37 "OrderChains$Engine" "edits" "I" ∈ wsX2_reset := List.mem_of_getElem? (i := 8) rfl
theorem fl_X2_reset_40 : Cond.fieldLink RX2 40 "OrderChains$Engine" "writes" "I" ∈ wsX2_reset := List.mem_of_getElem? (i := 9) rfl
set_option maxHeartbeats 4000000 in
set_option maxRecDepth 100000 in
/-- Engine.reset -/
theorem c_X2_reset (l : Launch) (G : vG) (a val own mark lw bits s : Nat → Nat) (ch : Nat → Nat → Nat) : Kc l G yX2_reset wsX2_reset rX2_reset [.ref (a 0)] [eO a s, iA G (a 1) 96 val, iA G (a 2) 96 own, iA G (a 3) 96 mark, iA G (a 4) 96 lw, eC G a, cX (a 6) (ch 0), cX (a 7) (ch 1), cX (a 8) (ch 2), iA G (a 9) 96 bits] (fun r Y => r = none ∧ Y = eX G a (rsC (val, own, mark, lw, bits, s, ch))) 0 0 := by
  refine V_enter (own := RX2) [some (.ref (a 0)), none] (by decide +kernel) rfl rfl (Nat.le_of_ble_eq_true rfl) rfl (fun Γ hR hin => ?_)
  have hkc : 0 ≤ 0 := Nat.le_refl 0
  have hks : 0 ≤ 0 := Nat.le_refl 0
  refine V_aload_n (i := 0) dX2_reset_0 rfl rfl ?_
  refine V_get (C := RX2) (T := TX2) (N := 11) (ci := 2) (q := 0) (ref := "OrderChains$Engine") 0 rfl il_X2_reset_X2 rfl rfl fl_X2_reset_9 rfl rfl dX2_reset_1 ?_
  refine V_iconst (v := 0) dX2_reset_4 rfl ?_
  refine V_callS (As := _) (rest := []) [1] (c_J7_fill_53178 l G (a 1) 96 0 val rfl) vy_J7_fill_53178 gX2_reset_J7_fill_53178 rfl rfl rfl rfl ⟨rfl, rfl⟩ ⟨rfl, rfl⟩ ⟨Nat.zero_le _, Nat.zero_le _⟩ rfl dX2_reset_5 (fun v Y hE => ?_)
  obtain ⟨rfl, rfl⟩ := hE
  refine ⟨rfl, ?_⟩
  dsimp only [vfill, List.set_cons_zero, List.set_cons_succ, Option.toList, List.cons_append, List.nil_append, Nat.add_zero]
  refine V_aload_n (i := 0) dX2_reset_8 rfl rfl ?_
  refine V_get (C := RX2) (T := TX2) (N := 11) (ci := 2) (q := 0) (ref := "OrderChains$Engine") 1 rfl il_X2_reset_X2 rfl rfl fl_X2_reset_15 rfl rfl dX2_reset_9 ?_
  refine V_iconst (v := 0) dX2_reset_12 rfl ?_
  refine V_callS (As := _) (rest := []) [2] (c_J7_fill_53178 l G (a 2) 96 0 own rfl) vy_J7_fill_53178 gX2_reset_J7_fill_53178 rfl rfl rfl rfl ⟨rfl, rfl⟩ ⟨rfl, rfl⟩ ⟨Nat.zero_le _, Nat.zero_le _⟩ rfl dX2_reset_13 (fun v Y hE => ?_)
  obtain ⟨rfl, rfl⟩ := hE
  refine ⟨rfl, ?_⟩
  dsimp only [vfill, List.set_cons_zero, List.set_cons_succ, Option.toList, List.cons_append, List.nil_append, Nat.add_zero]
  refine V_aload_n (i := 0) dX2_reset_16 rfl rfl ?_
  refine V_get (C := RX2) (T := TX2) (N := 11) (ci := 2) (q := 0) (ref := "OrderChains$Engine") 2 rfl il_X2_reset_X2 rfl rfl fl_X2_reset_18 rfl rfl dX2_reset_17 ?_
  refine V_iconst (v := 0) dX2_reset_20 rfl ?_
  refine V_callS (As := _) (rest := []) [3] (c_J7_fill_53178 l G (a 3) 96 0 mark rfl) vy_J7_fill_53178 gX2_reset_J7_fill_53178 rfl rfl rfl rfl ⟨rfl, rfl⟩ ⟨rfl, rfl⟩ ⟨Nat.zero_le _, Nat.zero_le _⟩ rfl dX2_reset_21 (fun v Y hE => ?_)
  obtain ⟨rfl, rfl⟩ := hE
  refine ⟨rfl, ?_⟩
  dsimp only [vfill, List.set_cons_zero, List.set_cons_succ, Option.toList, List.cons_append, List.nil_append, Nat.add_zero]
  refine V_aload_n (i := 0) dX2_reset_24 rfl rfl ?_
  refine V_get (C := RX2) (T := TX2) (N := 11) (ci := 2) (q := 0) (ref := "OrderChains$Engine") 3 rfl il_X2_reset_X2 rfl rfl fl_X2_reset_21 rfl rfl dX2_reset_25 ?_
  refine V_bipush (v := 4294967287) dX2_reset_28 (by decide) ?_
  refine V_callS (As := _) (rest := []) [4] (c_J7_fill_53178 l G (a 4) 96 4294967287 lw rfl) vy_J7_fill_53178 gX2_reset_J7_fill_53178 rfl rfl rfl rfl ⟨rfl, rfl⟩ ⟨rfl, rfl⟩ ⟨Nat.zero_le _, Nat.zero_le _⟩ rfl dX2_reset_30 (fun v Y hE => ?_)
  obtain ⟨rfl, rfl⟩ := hE
  refine ⟨rfl, ?_⟩
  dsimp only [vfill, List.set_cons_zero, List.set_cons_succ, Option.toList, List.cons_append, List.nil_append, Nat.add_zero]
  refine V_iconst (v := 0) dX2_reset_33 rfl ?_
  refine V_istore_n (i := 1) dX2_reset_34 rfl rfl rfl ?_
  dsimp only [List.set_cons_zero, List.set_cons_succ]
  refine V_iload_n (i := 1) dX2_reset_35 rfl rfl ?_
  refine V_iconst (v := 3) dX2_reset_36 rfl ?_
  refine V_icmp_ge (tgt := 55) (by omega) (by omega) dX2_reset_37 rfl (fun h_37 => ?_) (fun h_37 => ?_)
  · exfalso; omega
  · refine V_aload_n (i := 0) dX2_reset_40 rfl rfl ?_
    refine V_get (C := RX2) (T := TX2) (N := 11) (ci := 2) (q := 0) (ref := "OrderChains$Engine") 4 rfl il_X2_reset_X2 rfl rfl fl_X2_reset_26 rfl rfl dX2_reset_41 ?_
    refine V_iload_n (i := 1) dX2_reset_44 rfl rfl ?_
    refine V_aaldC (q := 5) rfl (by omega) rfl dX2_reset_45 ?_
    refine V_callV (C := RX1) (q := 0) (ci := 1) (As := []) (rest := []) [6] (c_X1_reset l G (a 6) (ch 0)) vy_X1_reset gX2_reset_X1_reset rfl rfl rfl rfl rfl rfl rfl ⟨rfl, rfl⟩ ⟨rfl, rfl⟩ ⟨Nat.zero_le _, Nat.zero_le _⟩ rfl dX2_reset_46 (fun v Y hE => ?_)
    obtain ⟨rfl, rfl⟩ := hE
    refine ⟨rfl, ?_⟩
    dsimp only [vfill, List.set_cons_zero, List.set_cons_succ, Option.toList, List.cons_append, List.nil_append, Nat.add_zero]
    refine V_iinc (v := 1) dX2_reset_49 rfl (by decide) rfl rfl ?_
    dsimp only [List.set_cons_zero, List.set_cons_succ]
    refine V_goto (tgt := 35) dX2_reset_52 rfl ?_
    refine V_iload_n (i := 1) dX2_reset_35 rfl rfl ?_
    refine V_iconst (v := 3) dX2_reset_36 rfl ?_
    refine V_icmp_ge (tgt := 55) (by omega) (by omega) dX2_reset_37 rfl (fun h_37_2 => ?_) (fun h_37_2 => ?_)
    · exfalso; omega
    · refine V_aload_n (i := 0) dX2_reset_40 rfl rfl ?_
      refine V_get (C := RX2) (T := TX2) (N := 11) (ci := 2) (q := 0) (ref := "OrderChains$Engine") 4 rfl il_X2_reset_X2 rfl rfl fl_X2_reset_26 rfl rfl dX2_reset_41 ?_
      refine V_iload_n (i := 1) dX2_reset_44 rfl rfl ?_
      refine V_aaldC (q := 5) rfl (by omega) rfl dX2_reset_45 ?_
      refine V_callV (C := RX1) (q := 0) (ci := 1) (As := []) (rest := []) [7] (c_X1_reset l G (a 7) (ch 1)) vy_X1_reset gX2_reset_X1_reset rfl rfl rfl rfl rfl rfl rfl ⟨rfl, rfl⟩ ⟨rfl, rfl⟩ ⟨Nat.zero_le _, Nat.zero_le _⟩ rfl dX2_reset_46 (fun v Y hE => ?_)
      obtain ⟨rfl, rfl⟩ := hE
      refine ⟨rfl, ?_⟩
      dsimp only [vfill, List.set_cons_zero, List.set_cons_succ, Option.toList, List.cons_append, List.nil_append, Nat.add_zero]
      refine V_iinc (v := 2) dX2_reset_49 rfl (by decide) rfl rfl ?_
      dsimp only [List.set_cons_zero, List.set_cons_succ]
      refine V_goto (tgt := 35) dX2_reset_52 rfl ?_
      refine V_iload_n (i := 1) dX2_reset_35 rfl rfl ?_
      refine V_iconst (v := 3) dX2_reset_36 rfl ?_
      refine V_icmp_ge (tgt := 55) (by omega) (by omega) dX2_reset_37 rfl (fun h_37_3 => ?_) (fun h_37_3 => ?_)
      · exfalso; omega
      · refine V_aload_n (i := 0) dX2_reset_40 rfl rfl ?_
        refine V_get (C := RX2) (T := TX2) (N := 11) (ci := 2) (q := 0) (ref := "OrderChains$Engine") 4 rfl il_X2_reset_X2 rfl rfl fl_X2_reset_26 rfl rfl dX2_reset_41 ?_
        refine V_iload_n (i := 1) dX2_reset_44 rfl rfl ?_
        refine V_aaldC (q := 5) rfl (by omega) rfl dX2_reset_45 ?_
        refine V_callV (C := RX1) (q := 0) (ci := 1) (As := []) (rest := []) [8] (c_X1_reset l G (a 8) (ch 2)) vy_X1_reset gX2_reset_X1_reset rfl rfl rfl rfl rfl rfl rfl ⟨rfl, rfl⟩ ⟨rfl, rfl⟩ ⟨Nat.zero_le _, Nat.zero_le _⟩ rfl dX2_reset_46 (fun v Y hE => ?_)
        obtain ⟨rfl, rfl⟩ := hE
        refine ⟨rfl, ?_⟩
        dsimp only [vfill, List.set_cons_zero, List.set_cons_succ, Option.toList, List.cons_append, List.nil_append, Nat.add_zero]
        refine V_iinc (v := 3) dX2_reset_49 rfl (by decide) rfl rfl ?_
        dsimp only [List.set_cons_zero, List.set_cons_succ]
        refine V_goto (tgt := 35) dX2_reset_52 rfl ?_
        refine V_iload_n (i := 1) dX2_reset_35 rfl rfl ?_
        refine V_iconst (v := 3) dX2_reset_36 rfl ?_
        refine V_icmp_ge (tgt := 55) (by omega) (by omega) dX2_reset_37 rfl (fun h_37_4 => ?_) (fun h_37_4 => ?_)
        · refine V_aload_n (i := 0) dX2_reset_55 rfl rfl ?_
          refine V_iconst (v := 2) dX2_reset_56 rfl ?_
          refine V_put (C := RX2) (T := TX2) (N := 11) (ci := 2) (q := 0) (ref := "OrderChains$Engine") (ty := .int) (ty0 := tyX2) 5 rfl il_X2_reset_X2 tyX2_ok nmX2 rfl rfl fl_X2_reset_30 rfl rfl rfl rfl rfl rfl dX2_reset_57 ?_
          dsimp only [List.set_cons_zero, List.set_cons_succ]
          refine V_aload_n (i := 0) dX2_reset_60 rfl rfl ?_
          refine V_iconst (v := 0) dX2_reset_61 rfl ?_
          refine V_put (C := RX2) (T := TX2) (N := 11) (ci := 2) (q := 0) (ref := "OrderChains$Engine") (ty := .int) (ty0 := tyX2) 6 rfl il_X2_reset_X2 tyX2_ok nmX2 rfl rfl fl_X2_reset_34 rfl rfl rfl rfl rfl rfl dX2_reset_62 ?_
          dsimp only [List.set_cons_zero, List.set_cons_succ]
          refine V_aload_n (i := 0) dX2_reset_65 rfl rfl ?_
          refine V_iconst (v := 0) dX2_reset_66 rfl ?_
          refine V_put (C := RX2) (T := TX2) (N := 11) (ci := 2) (q := 0) (ref := "OrderChains$Engine") (ty := .int) (ty0 := tyX2) 7 rfl il_X2_reset_X2 tyX2_ok nmX2 rfl rfl fl_X2_reset_37 rfl rfl rfl rfl rfl rfl dX2_reset_67 ?_
          dsimp only [List.set_cons_zero, List.set_cons_succ]
          refine V_aload_n (i := 0) dX2_reset_70 rfl rfl ?_
          refine V_iconst (v := 0) dX2_reset_71 rfl ?_
          refine V_put (C := RX2) (T := TX2) (N := 11) (ci := 2) (q := 0) (ref := "OrderChains$Engine") (ty := .int) (ty0 := tyX2) 8 rfl il_X2_reset_X2 tyX2_ok nmX2 rfl rfl fl_X2_reset_40 rfl rfl rfl rfl rfl rfl dX2_reset_72 ?_
          dsimp only [List.set_cons_zero, List.set_cons_succ]
          refine V_vret hR dX2_reset_75 hkc hks ?_
          exact ⟨rfl, rfl⟩
        · exfalso; omega

abbrev rX2_copyFrom : Room := { frames := 2, cells := 0, slots := 0, locals := 43 }
theorem vy_X2_copyFrom : vY yX2_copyFrom wsX2_copyFrom cX2_copyFrom 3 none 1 := ⟨⟨_, rfl⟩, by decide +kernel, by decide +kernel, by decide +kernel⟩
theorem fl_X2_copyFrom_9 : Cond.fieldLink RX2 9 "OrderChains$Engine" "values" "[I" ∈ wsX2_copyFrom := List.mem_of_getElem? (i := 1) rfl
theorem il_X2_copyFrom_X2 : ∀ w ∈ wsX20, w ∈ wsX2_copyFrom := fun _ h => List.mem_cons_of_mem _ (List.mem_append_left _ (List.mem_append_right _ h))
theorem al_X2_copyFrom_59 : Cond.methodLink RX2 59 arraycopyName ∈ wsX2_copyFrom := List.mem_of_getElem? (i := 2) rfl
theorem an_X2_copyFrom : Cond.native arraycopyName ∈ wsX2_copyFrom := List.mem_of_getElem? (i := 3) rfl
theorem as_X2_copyFrom : Cond.static arraycopyName ∈ wsX2_copyFrom := List.mem_of_getElem? (i := 4) rfl
theorem ai_X2_copyFrom : Cond.initialized "java/lang/System" ∈ wsX2_copyFrom := List.mem_of_getElem? (i := 5) rfl
theorem fl_X2_copyFrom_15 : Cond.fieldLink RX2 15 "OrderChains$Engine" "owners" "[I" ∈ wsX2_copyFrom := List.mem_of_getElem? (i := 6) rfl
theorem fl_X2_copyFrom_18 : Cond.fieldLink RX2 18 "OrderChains$Engine" "marks" "[I" ∈ wsX2_copyFrom := List.mem_of_getElem? (i := 7) rfl
theorem fl_X2_copyFrom_21 : Cond.fieldLink RX2 21 "OrderChains$Engine" "lastWriters" "[I" ∈ wsX2_copyFrom := List.mem_of_getElem? (i := 8) rfl
theorem fl_X2_copyFrom_26 : Cond.fieldLink RX2 26 "OrderChains$Engine" "channels" "[LOrderChains$Channel;" ∈ wsX2_copyFrom := List.mem_of_getElem? (i := 9) rfl
theorem fl_X2_copyFrom_30 : Cond.fieldLink RX2 30 "OrderChains$Engine" "lastTurn" "I" ∈ wsX2_copyFrom := List.mem_of_getElem? (i := 10) rfl
theorem fl_X2_copyFrom_34 : Cond.fieldLink RX2 34 "OrderChains$Engine" "ticks" "I" ∈ wsX2_copyFrom := List.mem_of_getElem? (i := 11) rfl
theorem fl_X2_copyFrom_37 : Cond.fieldLink RX2 37 "OrderChains$Engine" "edits" "I" ∈ wsX2_copyFrom := List.mem_of_getElem? (i := 12) rfl
theorem fl_X2_copyFrom_40 : Cond.fieldLink RX2 40 "OrderChains$Engine" "writes" "I" ∈ wsX2_copyFrom := List.mem_of_getElem? (i := 13) rfl
set_option maxHeartbeats 4000000 in
set_option maxRecDepth 100000 in
/-- Engine.copyFrom -/
theorem c_X2_copyFrom (l : Launch) (G : vG) (a a2 val own mark lw bits s val2 own2 mark2 lw2 bits2 s2 : Nat → Nat) (ch ch2 : Nat → Nat → Nat) : Kc l G yX2_copyFrom wsX2_copyFrom rX2_copyFrom [.ref (a 0), .ref (a2 0)] [eO a s, iA G (a 1) 96 val, iA G (a 2) 96 own, iA G (a 3) 96 mark, iA G (a 4) 96 lw, eC G a, cX (a 6) (ch 0), cX (a 7) (ch 1), cX (a 8) (ch 2), iA G (a 9) 96 bits, eO a2 s2, iA G (a2 1) 96 val2, iA G (a2 2) 96 own2, iA G (a2 3) 96 mark2, iA G (a2 4) 96 lw2, eC G a2, cX (a2 6) (ch2 0), cX (a2 7) (ch2 1), cX (a2 8) (ch2 2), iA G (a2 9) 96 bits2] (fun r Y => r = none ∧ Y = eX G a (cpC (val, own, mark, lw, bits, s, ch) (val2, own2, mark2, lw2, bits2, s2, ch2)) ++ eX G a2 (val2, own2, mark2, lw2, bits2, s2, ch2)) 0 0 := by
  refine V_enter (own := RX2) [some (.ref (a 0)), some (.ref (a2 0)), none] (by decide +kernel) rfl rfl (Nat.le_of_ble_eq_true rfl) rfl (fun Γ hR hin => ?_)
  have hkc : 0 ≤ 0 := Nat.le_refl 0
  have hks : 0 ≤ 0 := Nat.le_refl 0
  refine V_aload_n (i := 1) dX2_copyFrom_0 rfl rfl ?_
  refine V_get (C := RX2) (T := TX2) (N := 11) (ci := 2) (q := 10) (ref := "OrderChains$Engine") 0 rfl il_X2_copyFrom_X2 rfl rfl fl_X2_copyFrom_9 rfl rfl dX2_copyFrom_1 ?_
  refine V_iconst (v := 0) dX2_copyFrom_4 rfl ?_
  refine V_aload_n (i := 0) dX2_copyFrom_5 rfl rfl ?_
  refine V_get (C := RX2) (T := TX2) (N := 11) (ci := 2) (q := 0) (ref := "OrderChains$Engine") 0 rfl il_X2_copyFrom_X2 rfl rfl fl_X2_copyFrom_9 rfl rfl dX2_copyFrom_6 ?_
  refine V_iconst (v := 0) dX2_copyFrom_9 rfl ?_
  refine V_bipush (v := 96) dX2_copyFrom_10 (by decide) ?_
  refine V_copy (q0 := 11) (q1 := 1) rfl rfl (by omega) (by omega) rfl al_X2_copyFrom_59 an_X2_copyFrom as_X2_copyFrom ai_X2_copyFrom ⟨by decide, by decide⟩ dX2_copyFrom_12 ?_
  dsimp only [List.set_cons_zero, List.set_cons_succ]
  refine V_aload_n (i := 1) dX2_copyFrom_15 rfl rfl ?_
  refine V_get (C := RX2) (T := TX2) (N := 11) (ci := 2) (q := 10) (ref := "OrderChains$Engine") 1 rfl il_X2_copyFrom_X2 rfl rfl fl_X2_copyFrom_15 rfl rfl dX2_copyFrom_16 ?_
  refine V_iconst (v := 0) dX2_copyFrom_19 rfl ?_
  refine V_aload_n (i := 0) dX2_copyFrom_20 rfl rfl ?_
  refine V_get (C := RX2) (T := TX2) (N := 11) (ci := 2) (q := 0) (ref := "OrderChains$Engine") 1 rfl il_X2_copyFrom_X2 rfl rfl fl_X2_copyFrom_15 rfl rfl dX2_copyFrom_21 ?_
  refine V_iconst (v := 0) dX2_copyFrom_24 rfl ?_
  refine V_bipush (v := 96) dX2_copyFrom_25 (by decide) ?_
  refine V_copy (q0 := 12) (q1 := 2) rfl rfl (by omega) (by omega) rfl al_X2_copyFrom_59 an_X2_copyFrom as_X2_copyFrom ai_X2_copyFrom ⟨by decide, by decide⟩ dX2_copyFrom_27 ?_
  dsimp only [List.set_cons_zero, List.set_cons_succ]
  refine V_aload_n (i := 1) dX2_copyFrom_30 rfl rfl ?_
  refine V_get (C := RX2) (T := TX2) (N := 11) (ci := 2) (q := 10) (ref := "OrderChains$Engine") 2 rfl il_X2_copyFrom_X2 rfl rfl fl_X2_copyFrom_18 rfl rfl dX2_copyFrom_31 ?_
  refine V_iconst (v := 0) dX2_copyFrom_34 rfl ?_
  refine V_aload_n (i := 0) dX2_copyFrom_35 rfl rfl ?_
  refine V_get (C := RX2) (T := TX2) (N := 11) (ci := 2) (q := 0) (ref := "OrderChains$Engine") 2 rfl il_X2_copyFrom_X2 rfl rfl fl_X2_copyFrom_18 rfl rfl dX2_copyFrom_36 ?_
  refine V_iconst (v := 0) dX2_copyFrom_39 rfl ?_
  refine V_bipush (v := 96) dX2_copyFrom_40 (by decide) ?_
  refine V_copy (q0 := 13) (q1 := 3) rfl rfl (by omega) (by omega) rfl al_X2_copyFrom_59 an_X2_copyFrom as_X2_copyFrom ai_X2_copyFrom ⟨by decide, by decide⟩ dX2_copyFrom_42 ?_
  dsimp only [List.set_cons_zero, List.set_cons_succ]
  refine V_aload_n (i := 1) dX2_copyFrom_45 rfl rfl ?_
  refine V_get (C := RX2) (T := TX2) (N := 11) (ci := 2) (q := 10) (ref := "OrderChains$Engine") 3 rfl il_X2_copyFrom_X2 rfl rfl fl_X2_copyFrom_21 rfl rfl dX2_copyFrom_46 ?_
  refine V_iconst (v := 0) dX2_copyFrom_49 rfl ?_
  refine V_aload_n (i := 0) dX2_copyFrom_50 rfl rfl ?_
  refine V_get (C := RX2) (T := TX2) (N := 11) (ci := 2) (q := 0) (ref := "OrderChains$Engine") 3 rfl il_X2_copyFrom_X2 rfl rfl fl_X2_copyFrom_21 rfl rfl dX2_copyFrom_51 ?_
  refine V_iconst (v := 0) dX2_copyFrom_54 rfl ?_
  refine V_bipush (v := 96) dX2_copyFrom_55 (by decide) ?_
  refine V_copy (q0 := 14) (q1 := 4) rfl rfl (by omega) (by omega) rfl al_X2_copyFrom_59 an_X2_copyFrom as_X2_copyFrom ai_X2_copyFrom ⟨by decide, by decide⟩ dX2_copyFrom_57 ?_
  dsimp only [List.set_cons_zero, List.set_cons_succ]
  refine V_iconst (v := 0) dX2_copyFrom_60 rfl ?_
  refine V_istore_n (i := 2) dX2_copyFrom_61 rfl rfl rfl ?_
  dsimp only [List.set_cons_zero, List.set_cons_succ]
  refine V_iload_n (i := 2) dX2_copyFrom_62 rfl rfl ?_
  refine V_iconst (v := 3) dX2_copyFrom_63 rfl ?_
  refine V_icmp_ge (tgt := 88) (by omega) (by omega) dX2_copyFrom_64 rfl (fun h_64 => ?_) (fun h_64 => ?_)
  · exfalso; omega
  · refine V_aload_n (i := 0) dX2_copyFrom_67 rfl rfl ?_
    refine V_get (C := RX2) (T := TX2) (N := 11) (ci := 2) (q := 0) (ref := "OrderChains$Engine") 4 rfl il_X2_copyFrom_X2 rfl rfl fl_X2_copyFrom_26 rfl rfl dX2_copyFrom_68 ?_
    refine V_iload_n (i := 2) dX2_copyFrom_71 rfl rfl ?_
    refine V_aaldC (q := 5) rfl (by omega) rfl dX2_copyFrom_72 ?_
    refine V_aload_n (i := 1) dX2_copyFrom_73 rfl rfl ?_
    refine V_get (C := RX2) (T := TX2) (N := 11) (ci := 2) (q := 10) (ref := "OrderChains$Engine") 4 rfl il_X2_copyFrom_X2 rfl rfl fl_X2_copyFrom_26 rfl rfl dX2_copyFrom_74 ?_
    refine V_iload_n (i := 2) dX2_copyFrom_77 rfl rfl ?_
    refine V_aaldC (q := 15) rfl (by omega) rfl dX2_copyFrom_78 ?_
    refine V_callV (C := RX1) (q := 0) (ci := 1) (As := _) (rest := []) [6, 16] (c_X1_copyFrom l G (a 6) (a2 6) (ch 0) (ch2 0)) vy_X1_copyFrom gX2_copyFrom_X1_copyFrom rfl rfl rfl rfl rfl rfl rfl ⟨rfl, rfl⟩ ⟨rfl, rfl⟩ ⟨Nat.zero_le _, Nat.zero_le _⟩ rfl dX2_copyFrom_79 (fun v Y hE => ?_)
    obtain ⟨rfl, rfl⟩ := hE
    refine ⟨rfl, ?_⟩
    dsimp only [vfill, List.set_cons_zero, List.set_cons_succ, Option.toList, List.cons_append, List.nil_append, Nat.add_zero]
    refine V_iinc (v := 1) dX2_copyFrom_82 rfl (by decide) rfl rfl ?_
    dsimp only [List.set_cons_zero, List.set_cons_succ]
    refine V_goto (tgt := 62) dX2_copyFrom_85 rfl ?_
    refine V_iload_n (i := 2) dX2_copyFrom_62 rfl rfl ?_
    refine V_iconst (v := 3) dX2_copyFrom_63 rfl ?_
    refine V_icmp_ge (tgt := 88) (by omega) (by omega) dX2_copyFrom_64 rfl (fun h_64_2 => ?_) (fun h_64_2 => ?_)
    · exfalso; omega
    · refine V_aload_n (i := 0) dX2_copyFrom_67 rfl rfl ?_
      refine V_get (C := RX2) (T := TX2) (N := 11) (ci := 2) (q := 0) (ref := "OrderChains$Engine") 4 rfl il_X2_copyFrom_X2 rfl rfl fl_X2_copyFrom_26 rfl rfl dX2_copyFrom_68 ?_
      refine V_iload_n (i := 2) dX2_copyFrom_71 rfl rfl ?_
      refine V_aaldC (q := 5) rfl (by omega) rfl dX2_copyFrom_72 ?_
      refine V_aload_n (i := 1) dX2_copyFrom_73 rfl rfl ?_
      refine V_get (C := RX2) (T := TX2) (N := 11) (ci := 2) (q := 10) (ref := "OrderChains$Engine") 4 rfl il_X2_copyFrom_X2 rfl rfl fl_X2_copyFrom_26 rfl rfl dX2_copyFrom_74 ?_
      refine V_iload_n (i := 2) dX2_copyFrom_77 rfl rfl ?_
      refine V_aaldC (q := 15) rfl (by omega) rfl dX2_copyFrom_78 ?_
      refine V_callV (C := RX1) (q := 0) (ci := 1) (As := _) (rest := []) [7, 17] (c_X1_copyFrom l G (a 7) (a2 7) (ch 1) (ch2 1)) vy_X1_copyFrom gX2_copyFrom_X1_copyFrom rfl rfl rfl rfl rfl rfl rfl ⟨rfl, rfl⟩ ⟨rfl, rfl⟩ ⟨Nat.zero_le _, Nat.zero_le _⟩ rfl dX2_copyFrom_79 (fun v Y hE => ?_)
      obtain ⟨rfl, rfl⟩ := hE
      refine ⟨rfl, ?_⟩
      dsimp only [vfill, List.set_cons_zero, List.set_cons_succ, Option.toList, List.cons_append, List.nil_append, Nat.add_zero]
      refine V_iinc (v := 2) dX2_copyFrom_82 rfl (by decide) rfl rfl ?_
      dsimp only [List.set_cons_zero, List.set_cons_succ]
      refine V_goto (tgt := 62) dX2_copyFrom_85 rfl ?_
      refine V_iload_n (i := 2) dX2_copyFrom_62 rfl rfl ?_
      refine V_iconst (v := 3) dX2_copyFrom_63 rfl ?_
      refine V_icmp_ge (tgt := 88) (by omega) (by omega) dX2_copyFrom_64 rfl (fun h_64_3 => ?_) (fun h_64_3 => ?_)
      · exfalso; omega
      · refine V_aload_n (i := 0) dX2_copyFrom_67 rfl rfl ?_
        refine V_get (C := RX2) (T := TX2) (N := 11) (ci := 2) (q := 0) (ref := "OrderChains$Engine") 4 rfl il_X2_copyFrom_X2 rfl rfl fl_X2_copyFrom_26 rfl rfl dX2_copyFrom_68 ?_
        refine V_iload_n (i := 2) dX2_copyFrom_71 rfl rfl ?_
        refine V_aaldC (q := 5) rfl (by omega) rfl dX2_copyFrom_72 ?_
        refine V_aload_n (i := 1) dX2_copyFrom_73 rfl rfl ?_
        refine V_get (C := RX2) (T := TX2) (N := 11) (ci := 2) (q := 10) (ref := "OrderChains$Engine") 4 rfl il_X2_copyFrom_X2 rfl rfl fl_X2_copyFrom_26 rfl rfl dX2_copyFrom_74 ?_
        refine V_iload_n (i := 2) dX2_copyFrom_77 rfl rfl ?_
        refine V_aaldC (q := 15) rfl (by omega) rfl dX2_copyFrom_78 ?_
        refine V_callV (C := RX1) (q := 0) (ci := 1) (As := _) (rest := []) [8, 18] (c_X1_copyFrom l G (a 8) (a2 8) (ch 2) (ch2 2)) vy_X1_copyFrom gX2_copyFrom_X1_copyFrom rfl rfl rfl rfl rfl rfl rfl ⟨rfl, rfl⟩ ⟨rfl, rfl⟩ ⟨Nat.zero_le _, Nat.zero_le _⟩ rfl dX2_copyFrom_79 (fun v Y hE => ?_)
        obtain ⟨rfl, rfl⟩ := hE
        refine ⟨rfl, ?_⟩
        dsimp only [vfill, List.set_cons_zero, List.set_cons_succ, Option.toList, List.cons_append, List.nil_append, Nat.add_zero]
        refine V_iinc (v := 3) dX2_copyFrom_82 rfl (by decide) rfl rfl ?_
        dsimp only [List.set_cons_zero, List.set_cons_succ]
        refine V_goto (tgt := 62) dX2_copyFrom_85 rfl ?_
        refine V_iload_n (i := 2) dX2_copyFrom_62 rfl rfl ?_
        refine V_iconst (v := 3) dX2_copyFrom_63 rfl ?_
        refine V_icmp_ge (tgt := 88) (by omega) (by omega) dX2_copyFrom_64 rfl (fun h_64_4 => ?_) (fun h_64_4 => ?_)
        · refine V_aload_n (i := 0) dX2_copyFrom_88 rfl rfl ?_
          refine V_aload_n (i := 1) dX2_copyFrom_89 rfl rfl ?_
          refine V_get (C := RX2) (T := TX2) (N := 11) (ci := 2) (q := 10) (ref := "OrderChains$Engine") 5 rfl il_X2_copyFrom_X2 rfl rfl fl_X2_copyFrom_30 rfl rfl dX2_copyFrom_90 ?_
          refine V_put (C := RX2) (T := TX2) (N := 11) (ci := 2) (q := 0) (ref := "OrderChains$Engine") (ty := .int) (ty0 := tyX2) 5 rfl il_X2_copyFrom_X2 tyX2_ok nmX2 rfl rfl fl_X2_copyFrom_30 rfl rfl rfl rfl rfl rfl dX2_copyFrom_93 ?_
          dsimp only [List.set_cons_zero, List.set_cons_succ]
          refine V_aload_n (i := 0) dX2_copyFrom_96 rfl rfl ?_
          refine V_aload_n (i := 1) dX2_copyFrom_97 rfl rfl ?_
          refine V_get (C := RX2) (T := TX2) (N := 11) (ci := 2) (q := 10) (ref := "OrderChains$Engine") 6 rfl il_X2_copyFrom_X2 rfl rfl fl_X2_copyFrom_34 rfl rfl dX2_copyFrom_98 ?_
          refine V_put (C := RX2) (T := TX2) (N := 11) (ci := 2) (q := 0) (ref := "OrderChains$Engine") (ty := .int) (ty0 := tyX2) 6 rfl il_X2_copyFrom_X2 tyX2_ok nmX2 rfl rfl fl_X2_copyFrom_34 rfl rfl rfl rfl rfl rfl dX2_copyFrom_101 ?_
          dsimp only [List.set_cons_zero, List.set_cons_succ]
          refine V_aload_n (i := 0) dX2_copyFrom_104 rfl rfl ?_
          refine V_aload_n (i := 1) dX2_copyFrom_105 rfl rfl ?_
          refine V_get (C := RX2) (T := TX2) (N := 11) (ci := 2) (q := 10) (ref := "OrderChains$Engine") 7 rfl il_X2_copyFrom_X2 rfl rfl fl_X2_copyFrom_37 rfl rfl dX2_copyFrom_106 ?_
          refine V_put (C := RX2) (T := TX2) (N := 11) (ci := 2) (q := 0) (ref := "OrderChains$Engine") (ty := .int) (ty0 := tyX2) 7 rfl il_X2_copyFrom_X2 tyX2_ok nmX2 rfl rfl fl_X2_copyFrom_37 rfl rfl rfl rfl rfl rfl dX2_copyFrom_109 ?_
          dsimp only [List.set_cons_zero, List.set_cons_succ]
          refine V_aload_n (i := 0) dX2_copyFrom_112 rfl rfl ?_
          refine V_aload_n (i := 1) dX2_copyFrom_113 rfl rfl ?_
          refine V_get (C := RX2) (T := TX2) (N := 11) (ci := 2) (q := 10) (ref := "OrderChains$Engine") 8 rfl il_X2_copyFrom_X2 rfl rfl fl_X2_copyFrom_40 rfl rfl dX2_copyFrom_114 ?_
          refine V_put (C := RX2) (T := TX2) (N := 11) (ci := 2) (q := 0) (ref := "OrderChains$Engine") (ty := .int) (ty0 := tyX2) 8 rfl il_X2_copyFrom_X2 tyX2_ok nmX2 rfl rfl fl_X2_copyFrom_40 rfl rfl rfl rfl rfl rfl dX2_copyFrom_117 ?_
          dsimp only [List.set_cons_zero, List.set_cons_succ]
          refine V_aload_n (i := 0) dX2_copyFrom_120 rfl rfl ?_
          refine V_callV (C := RX2) (q := 0) (ci := 2) (As := []) (rest := []) [0, 9] (c_X2_watchFromHere l G a (va_up (va_up (va_up (va_up s 0 (s2 0)) 1 (s2 1)) 2 (s2 2)) 3 (s2 3)) bits) vy_X2_watchFromHere gX2_copyFrom_X2_watchFromHere rfl rfl rfl rfl rfl rfl rfl ⟨rfl, rfl⟩ ⟨rfl, rfl⟩ ⟨Nat.zero_le _, Nat.zero_le _⟩ rfl dX2_copyFrom_121 (fun v Y hE => ?_)
          obtain ⟨rfl, rfl⟩ := hE
          refine ⟨rfl, ?_⟩
          dsimp only [vfill, List.set_cons_zero, List.set_cons_succ, Option.toList, List.cons_append, List.nil_append, Nat.add_zero]
          refine V_vret hR dX2_copyFrom_124 hkc hks ?_
          exact ⟨rfl, rfl⟩
        · exfalso; omega

abbrev rX2_tick : Room := { frames := 4, cells := 0, slots := 0, locals := 90 }
theorem vy_X2_tick : vY yX2_tick wsX2_tick cX2_tick 2 (some .boolean) 0 := ⟨⟨_, rfl⟩, by decide +kernel, by decide +kernel, by decide +kernel⟩
theorem fl_X2_tick_30 : Cond.fieldLink RX2 30 "OrderChains$Engine" "lastTurn" "I" ∈ wsX2_tick := List.mem_of_getElem? (i := 1) rfl
theorem il_X2_tick_X2 : ∀ w ∈ wsX20, w ∈ wsX2_tick := fun _ h => List.mem_cons_of_mem _ (List.mem_append_left _ (List.mem_append_right _ h))
theorem fl_X2_tick_34 : Cond.fieldLink RX2 34 "OrderChains$Engine" "ticks" "I" ∈ wsX2_tick := List.mem_of_getElem? (i := 2) rfl
theorem fl_X2_tick_26 : Cond.fieldLink RX2 26 "OrderChains$Engine" "channels" "[LOrderChains$Channel;" ∈ wsX2_tick := List.mem_of_getElem? (i := 3) rfl
set_option maxHeartbeats 4000000 in
set_option maxRecDepth 100000 in
/-- Engine.tick -/
theorem c_X2_tick (l : Launch) (G : vG) (a val own mark lw bits s : Nat → Nat) (ch : Nat → Nat → Nat) (hb : eB (val, own, mark, lw, bits, s, ch)) : Kc l G yX2_tick wsX2_tick rX2_tick [.ref (a 0)] [eO a s, iA G (a 1) 96 val, iA G (a 2) 96 own, iA G (a 3) 96 mark, iA G (a 4) 96 lw, eC G a, cX (a 6) (ch 0), cX (a 7) (ch 1), cX (a 8) (ch 2), iA G (a 9) 96 bits] (fun r Y => r = some (.int (nI (if nT (s 0) ch = 4294967287 then 0 else 1))) ∧ Y = eX G a (tickC (val, own, mark, lw, bits, s, ch))) 0 0 := by
  refine V_enter (own := RX2) [some (.ref (a 0)), none] (by decide +kernel) rfl rfl (Nat.le_of_ble_eq_true rfl) rfl (fun Γ hR hin => ?_)
  have hkc : 0 ≤ 0 := Nat.le_refl 0
  have hks : 0 ≤ 0 := Nat.le_refl 0
  obtain ⟨hv, ho, hm, hbt, hs0, hs4, hq⟩ := hb
  dsimp only at hv ho hm hbt hs0 hs4 hq
  refine V_aload_n (i := 0) dX2_tick_0 rfl rfl ?_
  refine V_callV (C := RX2) (q := 0) (ci := 2) (As := []) (rest := []) [0, 5, 6, 7, 8] (c_X2_nextTurn l G a s ch hs0 (by have := (hq 0 (by omega)).1; omega) (by have := (hq 1 (by omega)).1; omega) (by have := (hq 2 (by omega)).1; omega)) vy_X2_nextTurn gX2_tick_X2_nextTurn rfl rfl rfl rfl rfl rfl rfl ⟨rfl, rfl⟩ ⟨rfl, rfl⟩ ⟨Nat.zero_le _, Nat.zero_le _⟩ rfl dX2_tick_1 (fun v Y hE => ?_)
  obtain ⟨rfl, rfl⟩ := hE
  refine ⟨rfl, ?_⟩
  dsimp only [vfill, List.set_cons_zero, List.set_cons_succ, Option.toList, List.cons_append, List.nil_append, Nat.add_zero]
  rcases nT_cases (s 0) ch with en | en | en | en
  · refine V_top (b := 0) en ?_
    refine V_istore_n (i := 1) dX2_tick_4 rfl rfl rfl ?_
    dsimp only [List.set_cons_zero, List.set_cons_succ]
    refine V_iload_n (i := 1) dX2_tick_5 rfl rfl ?_
    refine V_bipush (v := 4294967287) dX2_tick_6 (by decide) ?_
    refine V_icmp_ne (tgt := 13) (by omega) (by omega) dX2_tick_8 rfl (fun h_8 => ?_) (fun h_8 => ?_)
    · refine V_aload_n (i := 0) dX2_tick_13 rfl rfl ?_
      refine V_iload_n (i := 1) dX2_tick_14 rfl rfl ?_
      refine V_put (C := RX2) (T := TX2) (N := 11) (ci := 2) (q := 0) (ref := "OrderChains$Engine") (ty := .int) (ty0 := tyX2) 5 rfl il_X2_tick_X2 tyX2_ok nmX2 rfl rfl fl_X2_tick_30 rfl rfl rfl rfl rfl rfl dX2_tick_15 ?_
      dsimp only [List.set_cons_zero, List.set_cons_succ]
      refine V_aload_n (i := 0) dX2_tick_18 rfl rfl ?_
      refine V_dup dX2_tick_19 rfl ?_
      refine V_get (C := RX2) (T := TX2) (N := 11) (ci := 2) (q := 0) (ref := "OrderChains$Engine") 6 rfl il_X2_tick_X2 rfl rfl fl_X2_tick_34 rfl rfl dX2_tick_20 ?_
      refine V_iconst (v := 1) dX2_tick_23 rfl ?_
      refine V_iadd dX2_tick_24 ?_
      refine V_put (C := RX2) (T := TX2) (N := 11) (ci := 2) (q := 0) (ref := "OrderChains$Engine") (ty := .int) (ty0 := tyX2) 6 rfl il_X2_tick_X2 tyX2_ok nmX2 rfl rfl fl_X2_tick_34 rfl rfl rfl rfl rfl rfl dX2_tick_25 ?_
      dsimp only [List.set_cons_zero, List.set_cons_succ]
      refine V_aload_n (i := 0) dX2_tick_28 rfl rfl ?_
      refine V_get (C := RX2) (T := TX2) (N := 11) (ci := 2) (q := 0) (ref := "OrderChains$Engine") 4 rfl il_X2_tick_X2 rfl rfl fl_X2_tick_26 rfl rfl dX2_tick_29 ?_
      refine V_iload_n (i := 1) dX2_tick_32 rfl rfl ?_
      refine V_aaldC (q := 5) rfl (by omega) rfl dX2_tick_33 ?_
      refine V_callV (C := RX1) (q := 0) (ci := 1) (As := []) (rest := []) [6] (c_X1_hasOrder l G (a 6) (ch 0) (by have := (hq 0 (by omega)).2.2.2.1; omega)) vy_X1_hasOrder gX2_tick_X1_hasOrder rfl rfl rfl rfl rfl rfl rfl ⟨rfl, rfl⟩ ⟨rfl, rfl⟩ ⟨Nat.zero_le _, Nat.zero_le _⟩ rfl dX2_tick_34 (fun v Y hE => ?_)
      obtain ⟨rfl, rfl⟩ := hE
      refine ⟨rfl, ?_⟩
      dsimp only [vfill, List.set_cons_zero, List.set_cons_succ, Option.toList, List.cons_append, List.nil_append, Nat.add_zero]
      refine V_if_eq (tgt := 48) (by split <;> decide) dX2_tick_37 rfl (fun h_37 => ?_) (fun h_37 => ?_)
      · refine V_aload_n (i := 0) dX2_tick_48 rfl rfl ?_
        refine V_aload_n (i := 0) dX2_tick_49 rfl rfl ?_
        refine V_get (C := RX2) (T := TX2) (N := 11) (ci := 2) (q := 0) (ref := "OrderChains$Engine") 4 rfl il_X2_tick_X2 rfl rfl fl_X2_tick_26 rfl rfl dX2_tick_50 ?_
        refine V_iload_n (i := 1) dX2_tick_53 rfl rfl ?_
        refine V_aaldC (q := 5) rfl (by omega) rfl dX2_tick_54 ?_
        refine V_callV (C := RX2) (q := 0) (ci := 2) (As := _) (rest := []) [0, 1, 3, 6] (c_X2_readOrder l G a val mark (va_up (va_up s 0 0) 1 (s 1 + 1)) (ch 0) (a 6) (hq 0 (by omega)).2.1 hv) vy_X2_readOrder gX2_tick_X2_readOrder rfl rfl rfl rfl rfl rfl rfl ⟨rfl, rfl⟩ ⟨rfl, rfl⟩ ⟨Nat.zero_le _, Nat.zero_le _⟩ rfl dX2_tick_55 (fun v Y hE => ?_)
        obtain ⟨rfl, rfl⟩ := hE
        refine ⟨rfl, ?_⟩
        dsimp only [vfill, List.set_cons_zero, List.set_cons_succ, Option.toList, List.cons_append, List.nil_append, Nat.add_zero]
        refine V_iconst (v := 1) dX2_tick_58 rfl ?_
        refine V_zret hR dX2_tick_59 (by first | exact Or.inl rfl | exact Or.inr rfl | omega) hkc hks ?_
        refine ⟨?_, ?_⟩
        · rw [en]; rfl
        · unfold tickC
          dsimp only
          rw [en]
          first | rfl | (rw [if_neg (by decide), if_pos (by by_cases z : ch 0 5 = 4294967287; exact z; rw [if_neg z] at h_37; exact absurd h_37 (by decide))]; rfl) | (rw [if_neg (by decide), if_neg (by intro z; rw [if_pos z] at h_37; exact absurd h_37 (by decide))]; rfl)
      · refine V_aload_n (i := 0) dX2_tick_40 rfl rfl ?_
        refine V_iload_n (i := 1) dX2_tick_41 rfl rfl ?_
        refine V_callV (C := RX2) (q := 0) (ci := 2) (As := _) (rest := []) [0, 1, 2, 3, 4, 5, 6, 9] (c_X2_doUnit l G a own mark val lw bits (va_up (va_up s 0 0) 1 (s 1 + 1)) (ch 0) 0 (by omega) hm (show s 4 < _ from hs4) ho hv (hq 0 (by omega)) (by intro z; rw [if_pos z] at h_37; exact absurd h_37 (by decide))) vy_X2_doUnit gX2_tick_X2_doUnit rfl rfl rfl rfl rfl rfl rfl ⟨rfl, rfl⟩ ⟨rfl, rfl⟩ ⟨Nat.zero_le _, Nat.zero_le _⟩ rfl dX2_tick_42 (fun v Y hE => ?_)
        obtain ⟨rfl, rfl⟩ := hE
        refine ⟨rfl, ?_⟩
        dsimp only [vfill, eW, List.set_cons_zero, List.set_cons_succ, Option.toList, List.cons_append, List.nil_append, Nat.add_zero]
        refine V_goto (tgt := 58) dX2_tick_45 rfl ?_
        refine V_iconst (v := 1) dX2_tick_58 rfl ?_
        refine V_zret hR dX2_tick_59 (by first | exact Or.inl rfl | exact Or.inr rfl | omega) hkc hks ?_
        refine ⟨?_, ?_⟩
        · rw [en]; rfl
        · unfold tickC
          dsimp only
          rw [en]
          first | rfl | (rw [if_neg (by decide), if_pos (by by_cases z : ch 0 5 = 4294967287; exact z; rw [if_neg z] at h_37; exact absurd h_37 (by decide))]; rfl) | (rw [if_neg (by decide), if_neg (by intro z; rw [if_pos z] at h_37; exact absurd h_37 (by decide))]; rfl)
    · exfalso; omega
  · refine V_top (b := 1) en ?_
    refine V_istore_n (i := 1) dX2_tick_4 rfl rfl rfl ?_
    dsimp only [List.set_cons_zero, List.set_cons_succ]
    refine V_iload_n (i := 1) dX2_tick_5 rfl rfl ?_
    refine V_bipush (v := 4294967287) dX2_tick_6 (by decide) ?_
    refine V_icmp_ne (tgt := 13) (by omega) (by omega) dX2_tick_8 rfl (fun h_8 => ?_) (fun h_8 => ?_)
    · refine V_aload_n (i := 0) dX2_tick_13 rfl rfl ?_
      refine V_iload_n (i := 1) dX2_tick_14 rfl rfl ?_
      refine V_put (C := RX2) (T := TX2) (N := 11) (ci := 2) (q := 0) (ref := "OrderChains$Engine") (ty := .int) (ty0 := tyX2) 5 rfl il_X2_tick_X2 tyX2_ok nmX2 rfl rfl fl_X2_tick_30 rfl rfl rfl rfl rfl rfl dX2_tick_15 ?_
      dsimp only [List.set_cons_zero, List.set_cons_succ]
      refine V_aload_n (i := 0) dX2_tick_18 rfl rfl ?_
      refine V_dup dX2_tick_19 rfl ?_
      refine V_get (C := RX2) (T := TX2) (N := 11) (ci := 2) (q := 0) (ref := "OrderChains$Engine") 6 rfl il_X2_tick_X2 rfl rfl fl_X2_tick_34 rfl rfl dX2_tick_20 ?_
      refine V_iconst (v := 1) dX2_tick_23 rfl ?_
      refine V_iadd dX2_tick_24 ?_
      refine V_put (C := RX2) (T := TX2) (N := 11) (ci := 2) (q := 0) (ref := "OrderChains$Engine") (ty := .int) (ty0 := tyX2) 6 rfl il_X2_tick_X2 tyX2_ok nmX2 rfl rfl fl_X2_tick_34 rfl rfl rfl rfl rfl rfl dX2_tick_25 ?_
      dsimp only [List.set_cons_zero, List.set_cons_succ]
      refine V_aload_n (i := 0) dX2_tick_28 rfl rfl ?_
      refine V_get (C := RX2) (T := TX2) (N := 11) (ci := 2) (q := 0) (ref := "OrderChains$Engine") 4 rfl il_X2_tick_X2 rfl rfl fl_X2_tick_26 rfl rfl dX2_tick_29 ?_
      refine V_iload_n (i := 1) dX2_tick_32 rfl rfl ?_
      refine V_aaldC (q := 5) rfl (by omega) rfl dX2_tick_33 ?_
      refine V_callV (C := RX1) (q := 0) (ci := 1) (As := []) (rest := []) [7] (c_X1_hasOrder l G (a 7) (ch 1) (by have := (hq 1 (by omega)).2.2.2.1; omega)) vy_X1_hasOrder gX2_tick_X1_hasOrder rfl rfl rfl rfl rfl rfl rfl ⟨rfl, rfl⟩ ⟨rfl, rfl⟩ ⟨Nat.zero_le _, Nat.zero_le _⟩ rfl dX2_tick_34 (fun v Y hE => ?_)
      obtain ⟨rfl, rfl⟩ := hE
      refine ⟨rfl, ?_⟩
      dsimp only [vfill, List.set_cons_zero, List.set_cons_succ, Option.toList, List.cons_append, List.nil_append, Nat.add_zero]
      refine V_if_eq (tgt := 48) (by split <;> decide) dX2_tick_37 rfl (fun h_37 => ?_) (fun h_37 => ?_)
      · refine V_aload_n (i := 0) dX2_tick_48 rfl rfl ?_
        refine V_aload_n (i := 0) dX2_tick_49 rfl rfl ?_
        refine V_get (C := RX2) (T := TX2) (N := 11) (ci := 2) (q := 0) (ref := "OrderChains$Engine") 4 rfl il_X2_tick_X2 rfl rfl fl_X2_tick_26 rfl rfl dX2_tick_50 ?_
        refine V_iload_n (i := 1) dX2_tick_53 rfl rfl ?_
        refine V_aaldC (q := 5) rfl (by omega) rfl dX2_tick_54 ?_
        refine V_callV (C := RX2) (q := 0) (ci := 2) (As := _) (rest := []) [0, 1, 3, 7] (c_X2_readOrder l G a val mark (va_up (va_up s 0 1) 1 (s 1 + 1)) (ch 1) (a 7) (hq 1 (by omega)).2.1 hv) vy_X2_readOrder gX2_tick_X2_readOrder rfl rfl rfl rfl rfl rfl rfl ⟨rfl, rfl⟩ ⟨rfl, rfl⟩ ⟨Nat.zero_le _, Nat.zero_le _⟩ rfl dX2_tick_55 (fun v Y hE => ?_)
        obtain ⟨rfl, rfl⟩ := hE
        refine ⟨rfl, ?_⟩
        dsimp only [vfill, List.set_cons_zero, List.set_cons_succ, Option.toList, List.cons_append, List.nil_append, Nat.add_zero]
        refine V_iconst (v := 1) dX2_tick_58 rfl ?_
        refine V_zret hR dX2_tick_59 (by first | exact Or.inl rfl | exact Or.inr rfl | omega) hkc hks ?_
        refine ⟨?_, ?_⟩
        · rw [en]; rfl
        · unfold tickC
          dsimp only
          rw [en]
          first | rfl | (rw [if_neg (by decide), if_pos (by by_cases z : ch 1 5 = 4294967287; exact z; rw [if_neg z] at h_37; exact absurd h_37 (by decide))]; rfl) | (rw [if_neg (by decide), if_neg (by intro z; rw [if_pos z] at h_37; exact absurd h_37 (by decide))]; rfl)
      · refine V_aload_n (i := 0) dX2_tick_40 rfl rfl ?_
        refine V_iload_n (i := 1) dX2_tick_41 rfl rfl ?_
        refine V_callV (C := RX2) (q := 0) (ci := 2) (As := _) (rest := []) [0, 1, 2, 3, 4, 5, 7, 9] (c_X2_doUnit l G a own mark val lw bits (va_up (va_up s 0 1) 1 (s 1 + 1)) (ch 1) 1 (by omega) hm (show s 4 < _ from hs4) ho hv (hq 1 (by omega)) (by intro z; rw [if_pos z] at h_37; exact absurd h_37 (by decide))) vy_X2_doUnit gX2_tick_X2_doUnit rfl rfl rfl rfl rfl rfl rfl ⟨rfl, rfl⟩ ⟨rfl, rfl⟩ ⟨Nat.zero_le _, Nat.zero_le _⟩ rfl dX2_tick_42 (fun v Y hE => ?_)
        obtain ⟨rfl, rfl⟩ := hE
        refine ⟨rfl, ?_⟩
        dsimp only [vfill, eW, List.set_cons_zero, List.set_cons_succ, Option.toList, List.cons_append, List.nil_append, Nat.add_zero]
        refine V_goto (tgt := 58) dX2_tick_45 rfl ?_
        refine V_iconst (v := 1) dX2_tick_58 rfl ?_
        refine V_zret hR dX2_tick_59 (by first | exact Or.inl rfl | exact Or.inr rfl | omega) hkc hks ?_
        refine ⟨?_, ?_⟩
        · rw [en]; rfl
        · unfold tickC
          dsimp only
          rw [en]
          first | rfl | (rw [if_neg (by decide), if_pos (by by_cases z : ch 1 5 = 4294967287; exact z; rw [if_neg z] at h_37; exact absurd h_37 (by decide))]; rfl) | (rw [if_neg (by decide), if_neg (by intro z; rw [if_pos z] at h_37; exact absurd h_37 (by decide))]; rfl)
    · exfalso; omega
  · refine V_top (b := 2) en ?_
    refine V_istore_n (i := 1) dX2_tick_4 rfl rfl rfl ?_
    dsimp only [List.set_cons_zero, List.set_cons_succ]
    refine V_iload_n (i := 1) dX2_tick_5 rfl rfl ?_
    refine V_bipush (v := 4294967287) dX2_tick_6 (by decide) ?_
    refine V_icmp_ne (tgt := 13) (by omega) (by omega) dX2_tick_8 rfl (fun h_8 => ?_) (fun h_8 => ?_)
    · refine V_aload_n (i := 0) dX2_tick_13 rfl rfl ?_
      refine V_iload_n (i := 1) dX2_tick_14 rfl rfl ?_
      refine V_put (C := RX2) (T := TX2) (N := 11) (ci := 2) (q := 0) (ref := "OrderChains$Engine") (ty := .int) (ty0 := tyX2) 5 rfl il_X2_tick_X2 tyX2_ok nmX2 rfl rfl fl_X2_tick_30 rfl rfl rfl rfl rfl rfl dX2_tick_15 ?_
      dsimp only [List.set_cons_zero, List.set_cons_succ]
      refine V_aload_n (i := 0) dX2_tick_18 rfl rfl ?_
      refine V_dup dX2_tick_19 rfl ?_
      refine V_get (C := RX2) (T := TX2) (N := 11) (ci := 2) (q := 0) (ref := "OrderChains$Engine") 6 rfl il_X2_tick_X2 rfl rfl fl_X2_tick_34 rfl rfl dX2_tick_20 ?_
      refine V_iconst (v := 1) dX2_tick_23 rfl ?_
      refine V_iadd dX2_tick_24 ?_
      refine V_put (C := RX2) (T := TX2) (N := 11) (ci := 2) (q := 0) (ref := "OrderChains$Engine") (ty := .int) (ty0 := tyX2) 6 rfl il_X2_tick_X2 tyX2_ok nmX2 rfl rfl fl_X2_tick_34 rfl rfl rfl rfl rfl rfl dX2_tick_25 ?_
      dsimp only [List.set_cons_zero, List.set_cons_succ]
      refine V_aload_n (i := 0) dX2_tick_28 rfl rfl ?_
      refine V_get (C := RX2) (T := TX2) (N := 11) (ci := 2) (q := 0) (ref := "OrderChains$Engine") 4 rfl il_X2_tick_X2 rfl rfl fl_X2_tick_26 rfl rfl dX2_tick_29 ?_
      refine V_iload_n (i := 1) dX2_tick_32 rfl rfl ?_
      refine V_aaldC (q := 5) rfl (by omega) rfl dX2_tick_33 ?_
      refine V_callV (C := RX1) (q := 0) (ci := 1) (As := []) (rest := []) [8] (c_X1_hasOrder l G (a 8) (ch 2) (by have := (hq 2 (by omega)).2.2.2.1; omega)) vy_X1_hasOrder gX2_tick_X1_hasOrder rfl rfl rfl rfl rfl rfl rfl ⟨rfl, rfl⟩ ⟨rfl, rfl⟩ ⟨Nat.zero_le _, Nat.zero_le _⟩ rfl dX2_tick_34 (fun v Y hE => ?_)
      obtain ⟨rfl, rfl⟩ := hE
      refine ⟨rfl, ?_⟩
      dsimp only [vfill, List.set_cons_zero, List.set_cons_succ, Option.toList, List.cons_append, List.nil_append, Nat.add_zero]
      refine V_if_eq (tgt := 48) (by split <;> decide) dX2_tick_37 rfl (fun h_37 => ?_) (fun h_37 => ?_)
      · refine V_aload_n (i := 0) dX2_tick_48 rfl rfl ?_
        refine V_aload_n (i := 0) dX2_tick_49 rfl rfl ?_
        refine V_get (C := RX2) (T := TX2) (N := 11) (ci := 2) (q := 0) (ref := "OrderChains$Engine") 4 rfl il_X2_tick_X2 rfl rfl fl_X2_tick_26 rfl rfl dX2_tick_50 ?_
        refine V_iload_n (i := 1) dX2_tick_53 rfl rfl ?_
        refine V_aaldC (q := 5) rfl (by omega) rfl dX2_tick_54 ?_
        refine V_callV (C := RX2) (q := 0) (ci := 2) (As := _) (rest := []) [0, 1, 3, 8] (c_X2_readOrder l G a val mark (va_up (va_up s 0 2) 1 (s 1 + 1)) (ch 2) (a 8) (hq 2 (by omega)).2.1 hv) vy_X2_readOrder gX2_tick_X2_readOrder rfl rfl rfl rfl rfl rfl rfl ⟨rfl, rfl⟩ ⟨rfl, rfl⟩ ⟨Nat.zero_le _, Nat.zero_le _⟩ rfl dX2_tick_55 (fun v Y hE => ?_)
        obtain ⟨rfl, rfl⟩ := hE
        refine ⟨rfl, ?_⟩
        dsimp only [vfill, List.set_cons_zero, List.set_cons_succ, Option.toList, List.cons_append, List.nil_append, Nat.add_zero]
        refine V_iconst (v := 1) dX2_tick_58 rfl ?_
        refine V_zret hR dX2_tick_59 (by first | exact Or.inl rfl | exact Or.inr rfl | omega) hkc hks ?_
        refine ⟨?_, ?_⟩
        · rw [en]; rfl
        · unfold tickC
          dsimp only
          rw [en]
          first | rfl | (rw [if_neg (by decide), if_pos (by by_cases z : ch 2 5 = 4294967287; exact z; rw [if_neg z] at h_37; exact absurd h_37 (by decide))]; rfl) | (rw [if_neg (by decide), if_neg (by intro z; rw [if_pos z] at h_37; exact absurd h_37 (by decide))]; rfl)
      · refine V_aload_n (i := 0) dX2_tick_40 rfl rfl ?_
        refine V_iload_n (i := 1) dX2_tick_41 rfl rfl ?_
        refine V_callV (C := RX2) (q := 0) (ci := 2) (As := _) (rest := []) [0, 1, 2, 3, 4, 5, 8, 9] (c_X2_doUnit l G a own mark val lw bits (va_up (va_up s 0 2) 1 (s 1 + 1)) (ch 2) 2 (by omega) hm (show s 4 < _ from hs4) ho hv (hq 2 (by omega)) (by intro z; rw [if_pos z] at h_37; exact absurd h_37 (by decide))) vy_X2_doUnit gX2_tick_X2_doUnit rfl rfl rfl rfl rfl rfl rfl ⟨rfl, rfl⟩ ⟨rfl, rfl⟩ ⟨Nat.zero_le _, Nat.zero_le _⟩ rfl dX2_tick_42 (fun v Y hE => ?_)
        obtain ⟨rfl, rfl⟩ := hE
        refine ⟨rfl, ?_⟩
        dsimp only [vfill, eW, List.set_cons_zero, List.set_cons_succ, Option.toList, List.cons_append, List.nil_append, Nat.add_zero]
        refine V_goto (tgt := 58) dX2_tick_45 rfl ?_
        refine V_iconst (v := 1) dX2_tick_58 rfl ?_
        refine V_zret hR dX2_tick_59 (by first | exact Or.inl rfl | exact Or.inr rfl | omega) hkc hks ?_
        refine ⟨?_, ?_⟩
        · rw [en]; rfl
        · unfold tickC
          dsimp only
          rw [en]
          first | rfl | (rw [if_neg (by decide), if_pos (by by_cases z : ch 2 5 = 4294967287; exact z; rw [if_neg z] at h_37; exact absurd h_37 (by decide))]; rfl) | (rw [if_neg (by decide), if_neg (by intro z; rw [if_pos z] at h_37; exact absurd h_37 (by decide))]; rfl)
    · exfalso; omega
  · refine V_top (b := 4294967287) en ?_
    refine V_istore_n (i := 1) dX2_tick_4 rfl rfl rfl ?_
    dsimp only [List.set_cons_zero, List.set_cons_succ]
    refine V_iload_n (i := 1) dX2_tick_5 rfl rfl ?_
    refine V_bipush (v := 4294967287) dX2_tick_6 (by decide) ?_
    refine V_icmp_ne (tgt := 13) (by omega) (by omega) dX2_tick_8 rfl (fun h_8 => ?_) (fun h_8 => ?_)
    · exfalso; omega
    · refine V_iconst (v := 0) dX2_tick_11 rfl ?_
      refine V_zret hR dX2_tick_12 (by first | exact Or.inl rfl | exact Or.inr rfl | omega) hkc hks ?_
      refine ⟨?_, ?_⟩
      · rw [en]; rfl
      · unfold tickC
        dsimp only
        rw [en]
        first | rfl | (rw [if_neg (by decide), if_pos (by by_cases z : ch 0 5 = 4294967287; exact z; rw [if_neg z] at h_37; exact absurd h_37 (by decide))]; rfl) | (rw [if_neg (by decide), if_neg (by intro z; rw [if_pos z] at h_37; exact absurd h_37 (by decide))]; rfl)

end ENG4
