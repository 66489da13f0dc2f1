section OC1
/-- the OrderChains object; its engines: 0 to 13 remembered ones, 14 live, 15 trial, 16 and 17 the slots -/
def oO (A : Nat → Nat) (ea : Nat → Nat → Nat) (n : Nat) : va_W := [(A 0, .inr (5, [.ref (A 1), .int (nI n), .ref (A 2), .ref (ea 14 0), .ref (ea 15 0), .ref (A 3), .ref (A 4), .ref (A 5), .ref (A 6)]))]
def sA (G : vG) (A : Nat → Nat) (ea : Nat → Nat → Nat) : va_W := [(A 4, .inl (G.2 3, 2, .inr (.inr (.inr (.inr (rA (fun k => ea (16 + k) 0)))))))]
def zA (G : vG) (a N : Nat) (f : Nat → Nat) : va_W := [(a, .inl (G.2 1, N, .inl (nA f)))]
theorem pk_out {p b : Nat} (hp : p < 4294967296) (h : b < p) (hb : b < 2147483648) : (nI p).toInt < 0 ∨ (b : Int) < (nI p).toInt := by
  by_cases z : p < 2147483648
  · exact Or.inr (by rw [nI_sm z]; omega)
  · exact Or.inl (by rw [nI_big (by omega) hp]; omega)

abbrev rX6_isValue : Room := { frames := 0, cells := 0, slots := 0, locals := 0 }
theorem vy_X6_isValue : vY yX6_isValue wsX6_isValue cX6_isValue 1 (some .boolean) 1 := ⟨⟨_, rfl⟩, by decide +kernel, by decide +kernel, by decide +kernel⟩
set_option maxHeartbeats 4000000 in
set_option maxRecDepth 100000 in
/-- X6_isValue -/
theorem c_X6_isValue (l : Launch) (G : vG) (p : Nat) (hp : p < 4294967296) : Kc l G yX6_isValue wsX6_isValue rX6_isValue [.int (nI p)] [] (fun r Y => r = some (.int (nI (if p < 100 then 1 else 0))) ∧ Y = []) 0 0 := by
  refine V_enter (own := RX6) [some (.int (nI p))] (by decide +kernel) rfl rfl (Nat.le_of_ble_eq_true rfl) rfl (fun Γ hR hin => ?_)
  have hkc : 0 ≤ 0 := Nat.le_refl 0
  have hks : 0 ≤ 0 := Nat.le_refl 0
  refine V_iload_n (i := 0) dX6_isValue_0 rfl rfl ?_
  refine V_if_lt (tgt := 14) hp dX6_isValue_1 rfl (fun h_1 => ?_) (fun h_1 => ?_)
  · refine V_iconst (v := 0) dX6_isValue_14 rfl ?_
    refine V_zret hR dX6_isValue_15 (by first | exact Or.inl rfl | exact Or.inr rfl | omega) hkc hks ?_
    refine ⟨?_, rfl⟩
    first | (rw [if_pos (show p < 100 by omega)]; done) | (rw [if_neg (show ¬ p < 100 by omega)]; done)
  · refine V_iload_n (i := 0) dX6_isValue_4 rfl rfl ?_
    refine V_bipush (v := 100) dX6_isValue_5 (by decide) ?_
    refine V_icmp_geA (tgt := 14) hp (by omega) dX6_isValue_7 rfl (fun h_7 => ?_) (fun h_7 => ?_)
    · refine V_iconst (v := 0) dX6_isValue_14 rfl ?_
      refine V_zret hR dX6_isValue_15 (by first | exact Or.inl rfl | exact Or.inr rfl | omega) hkc hks ?_
      refine ⟨?_, rfl⟩
      first | (rw [if_pos (show p < 100 by omega)]; done) | (rw [if_neg (show ¬ p < 100 by omega)]; done)
    · refine V_iconst (v := 1) dX6_isValue_10 rfl ?_
      refine V_goto (tgt := 15) dX6_isValue_11 rfl ?_
      refine V_zret hR dX6_isValue_15 (by first | exact Or.inl rfl | exact Or.inr rfl | omega) hkc hks ?_
      refine ⟨?_, rfl⟩
      first | (rw [if_pos (show p < 100 by omega)]; done) | (rw [if_neg (show ¬ p < 100 by omega)]; done)

abbrev rX6_isHorizon : Room := { frames := 0, cells := 0, slots := 0, locals := 0 }
theorem vy_X6_isHorizon : vY yX6_isHorizon wsX6_isHorizon cX6_isHorizon 1 (some .boolean) 1 := ⟨⟨_, rfl⟩, by decide +kernel, by decide +kernel, by decide +kernel⟩
set_option maxHeartbeats 4000000 in
set_option maxRecDepth 100000 in
/-- X6_isHorizon -/
theorem c_X6_isHorizon (l : Launch) (G : vG) (p : Nat) (hp : p < 4294967296) : Kc l G yX6_isHorizon wsX6_isHorizon rX6_isHorizon [.int (nI p)] [] (fun r Y => r = some (.int (nI (if p < 501 then 1 else 0))) ∧ Y = []) 0 0 := by
  refine V_enter (own := RX6) [some (.int (nI p))] (by decide +kernel) rfl rfl (Nat.le_of_ble_eq_true rfl) rfl (fun Γ hR hin => ?_)
  have hkc : 0 ≤ 0 := Nat.le_refl 0
  have hks : 0 ≤ 0 := Nat.le_refl 0
  refine V_iload_n (i := 0) dX6_isHorizon_0 rfl rfl ?_
  refine V_if_lt (tgt := 15) hp dX6_isHorizon_1 rfl (fun h_1 => ?_) (fun h_1 => ?_)
  · refine V_iconst (v := 0) dX6_isHorizon_15 rfl ?_
    refine V_zret hR dX6_isHorizon_16 (by first | exact Or.inl rfl | exact Or.inr rfl | omega) hkc hks ?_
    refine ⟨?_, rfl⟩
    first | (rw [if_pos (show p < 501 by omega)]; done) | (rw [if_neg (show ¬ p < 501 by omega)]; done)
  · refine V_iload_n (i := 0) dX6_isHorizon_4 rfl rfl ?_
    refine V_sipush (v := 500) dX6_isHorizon_5 (by decide) ?_
    refine V_icmp_gtA (tgt := 15) hp (by omega) dX6_isHorizon_8 rfl (fun h_8 => ?_) (fun h_8 => ?_)
    · refine V_iconst (v := 0) dX6_isHorizon_15 rfl ?_
      refine V_zret hR dX6_isHorizon_16 (by first | exact Or.inl rfl | exact Or.inr rfl | omega) hkc hks ?_
      refine ⟨?_, rfl⟩
      first | (rw [if_pos (show p < 501 by omega)]; done) | (rw [if_neg (show ¬ p < 501 by omega)]; done)
    · refine V_iconst (v := 1) dX6_isHorizon_11 rfl ?_
      refine V_goto (tgt := 16) dX6_isHorizon_12 rfl ?_
      refine V_zret hR dX6_isHorizon_16 (by first | exact Or.inl rfl | exact Or.inr rfl | omega) hkc hks ?_
      refine ⟨?_, rfl⟩
      first | (rw [if_pos (show p < 501 by omega)]; done) | (rw [if_neg (show ¬ p < 501 by omega)]; done)

abbrev rX6_append : Room := { frames := 6, cells := 1, slots := 6, locals := 92 }
theorem vy_X6_append : vY yX6_append wsX6_append cX6_append 2 (some .int) 1 := ⟨⟨_, rfl⟩, by decide +kernel, by decide +kernel, by decide +kernel⟩
theorem xk_X6_append_56 : Cond.classLink RX6 56 "java/lang/IllegalArgumentException" ∈ wsX6_append := List.mem_of_getElem? (i := 1) rfl
theorem xi_X6_append_56 : Cond.initialized "java/lang/IllegalArgumentException" ∈ wsX6_append := List.mem_of_getElem? (i := 2) rfl
theorem xw_X6_append_60 : ∀ w ∈ (vx_atS RX6 60 sIAE nms).filter goodWord, w ∈ wsX6_append := fun _ h => List.mem_cons_of_mem _ (List.mem_append_left _ (List.mem_append_right _ h))
theorem fl_X6_append_13 : Cond.fieldLink RX6 13 "OrderChains" "textLength" "I" ∈ wsX6_append := List.mem_of_getElem? (i := 5) rfl
theorem il_X6_append_X6 : ∀ w ∈ wsX60, w ∈ wsX6_append := fun _ h => List.mem_cons_of_mem _ (List.mem_append_left _ (List.mem_append_left _ (List.mem_append_right _ h)))
theorem fl_X6_append_9 : Cond.fieldLink RX6 9 "OrderChains" "text" "[I" ∈ wsX6_append := List.mem_of_getElem? (i := 6) rfl
theorem xk_X6_append_63 : Cond.classLink RX6 63 "java/lang/IllegalStateException" ∈ wsX6_append := List.mem_of_getElem? (i := 3) rfl
theorem xi_X6_append_63 : Cond.initialized "java/lang/IllegalStateException" ∈ wsX6_append := List.mem_of_getElem? (i := 4) rfl
theorem xw_X6_append_67 : ∀ w ∈ (vx_atS RX6 67 sISE nms).filter goodWord, w ∈ wsX6_append := fun _ h => List.mem_cons_of_mem _ (List.mem_append_right _ h)
set_option maxHeartbeats 4000000 in
set_option maxRecDepth 100000 in
/-- append -/
theorem c_X6_append (l : Launch) (hst : l.stackTraces = false) (G : vG) (A : Nat → Nat) (ea : Nat → Nat → Nat) (tx : Nat → Nat) (n p : Nat) (hp : p < 4294967296) (hn : n ≤ 140) : Kx l G yX6_append wsX6_append rX6_append [.ref (A 0), .int (nI p)] [oO A ea n, iA G (A 1) 140 tx] (fun v Y => (p < 256 ∧ n < 140) ∧ v = some (.int (nI (n + 1))) ∧ Y = [oO A ea (n + 1), iA G (A 1) 140 (va_up tx n p)]) (fun c Y => ((c = sIAE ∧ ¬ p < 256) ∨ (c = sISE ∧ p < 256 ∧ ¬ n < 140)) ∧ Y = [oO A ea n, iA G (A 1) 140 tx]) 1 6 := by
  refine V_enterX (own := RX6) [some (.ref (A 0)), some (.int (nI p))] hst (by decide +kernel) rfl rfl (Nat.le_of_ble_eq_true rfl) rfl (fun Γ hR hT => ?_)
  have hkc : 0 ≤ 1 := Nat.zero_le _
  have hks : 0 ≤ 6 := Nat.zero_le _
  have hmx : 0 + 1 ≤ 1 ∧ 0 + 6 ≤ 6 := ⟨by decide, by decide⟩
  refine V_iload_n (i := 1) dX6_append_0 rfl rfl ?_
  refine V_if_lt (tgt := 11) hp dX6_append_1 rfl (fun h_1 => ?_) (fun h_1 => ?_)
  · refine V_IAE (is := 58) (text := "no such character code") hT rfl xk_X6_append_56 xi_X6_append_56 xw_X6_append_60 (List.mem_of_getElem? (i := 19) rfl) ⟨rfl, rfl⟩ hmx hmx dX6_append_11 dX6_append_14 dX6_append_15 dX6_append_17 dX6_append_20 ?_
    exact ⟨Or.inl ⟨rfl, by omega⟩, rfl⟩
  · refine V_iload_n (i := 1) dX6_append_4 rfl rfl ?_
    refine V_sipush (v := 256) dX6_append_5 (by decide) ?_
    refine V_icmp_ltA (tgt := 21) hp (by omega) dX6_append_8 rfl (fun h_8 => ?_) (fun h_8 => ?_)
    · refine V_aload_n (i := 0) dX6_append_21 rfl rfl ?_
      refine V_get (C := RX6) (T := TX6) (N := 9) (ci := 5) (q := 0) (ref := "OrderChains") 1 rfl il_X6_append_X6 rfl rfl fl_X6_append_13 rfl rfl dX6_append_22 ?_
      refine V_sipush (v := 140) dX6_append_25 (by decide) ?_
      refine V_icmp_lt (tgt := 41) (by omega) (by omega) dX6_append_28 rfl (fun h_28 => ?_) (fun h_28 => ?_)
      · refine V_aload_n (i := 0) dX6_append_41 rfl rfl ?_
        refine V_get (C := RX6) (T := TX6) (N := 9) (ci := 5) (q := 0) (ref := "OrderChains") 0 rfl il_X6_append_X6 rfl rfl fl_X6_append_9 rfl rfl dX6_append_42 ?_
        refine V_aload_n (i := 0) dX6_append_45 rfl rfl ?_
        refine V_get (C := RX6) (T := TX6) (N := 9) (ci := 5) (q := 0) (ref := "OrderChains") 1 rfl il_X6_append_X6 rfl rfl fl_X6_append_13 rfl rfl dX6_append_46 ?_
        refine V_iload_n (i := 1) dX6_append_49 rfl rfl ?_
        refine V_iast (q := 1) rfl (by omega) rfl dX6_append_50 ?_
        dsimp only [List.set_cons_zero, List.set_cons_succ]
        refine V_aload_n (i := 0) dX6_append_51 rfl rfl ?_
        refine V_dup dX6_append_52 rfl ?_
        refine V_get (C := RX6) (T := TX6) (N := 9) (ci := 5) (q := 0) (ref := "OrderChains") 1 rfl il_X6_append_X6 rfl rfl fl_X6_append_13 rfl rfl dX6_append_53 ?_
        refine V_iconst (v := 1) dX6_append_56 rfl ?_
        refine V_iadd dX6_append_57 ?_
        refine V_put (C := RX6) (T := TX6) (N := 9) (ci := 5) (q := 0) (ref := "OrderChains") (ty := .int) (ty0 := tyX6) 1 rfl il_X6_append_X6 tyX6_ok nmX6 rfl rfl fl_X6_append_13 rfl rfl rfl rfl rfl rfl dX6_append_58 ?_
        dsimp only [List.set_cons_zero, List.set_cons_succ]
        refine V_aload_n (i := 0) dX6_append_61 rfl rfl ?_
        refine V_get (C := RX6) (T := TX6) (N := 9) (ci := 5) (q := 0) (ref := "OrderChains") 1 rfl il_X6_append_X6 rfl rfl fl_X6_append_13 rfl rfl dX6_append_62 ?_
        refine V_iret hR dX6_append_65 hkc hks ?_
        exact ⟨⟨by omega, by omega⟩, rfl, rfl⟩
      · refine V_ISE (is := 65) (text := "the text is full") hT rfl xk_X6_append_63 xi_X6_append_63 xw_X6_append_67 (List.mem_of_getElem? (i := 20) rfl) ⟨rfl, rfl⟩ hmx hmx dX6_append_31 dX6_append_34 dX6_append_35 dX6_append_37 dX6_append_40 ?_
        exact ⟨Or.inr ⟨rfl, by omega, by omega⟩, rfl⟩
    · refine V_IAE (is := 58) (text := "no such character code") hT rfl xk_X6_append_56 xi_X6_append_56 xw_X6_append_60 (List.mem_of_getElem? (i := 19) rfl) ⟨rfl, rfl⟩ hmx hmx dX6_append_11 dX6_append_14 dX6_append_15 dX6_append_17 dX6_append_20 ?_
      exact ⟨Or.inl ⟨rfl, by omega⟩, rfl⟩

abbrev rX6_clearText : Room := { frames := 0, cells := 0, slots := 0, locals := 0 }
theorem vy_X6_clearText : vY yX6_clearText wsX6_clearText cX6_clearText 2 (some .int) 0 := ⟨⟨_, rfl⟩, by decide +kernel, by decide +kernel, by decide +kernel⟩
theorem fl_X6_clearText_13 : Cond.fieldLink RX6 13 "OrderChains" "textLength" "I" ∈ wsX6_clearText := List.mem_of_getElem? (i := 1) rfl
theorem il_X6_clearText_X6 : ∀ w ∈ wsX60, w ∈ wsX6_clearText := fun _ h => List.mem_cons_of_mem _ (List.mem_append_right _ h)
set_option maxHeartbeats 4000000 in
set_option maxRecDepth 100000 in
/-- clearText -/
theorem c_X6_clearText (l : Launch) (G : vG) (A : Nat → Nat) (ea : Nat → Nat → Nat) (n : Nat) : Kc l G yX6_clearText wsX6_clearText rX6_clearText [.ref (A 0)] [oO A ea n] (fun v Y => v = some (.int (nI n)) ∧ Y = [oO A ea 0]) 0 0 := by
  refine V_enter (own := RX6) [some (.ref (A 0)), none] (by decide +kernel) rfl rfl (Nat.le_of_ble_eq_true rfl) rfl (fun Γ hR hin => ?_)
  have hkc : 0 ≤ 0 := Nat.le_refl 0
  have hks : 0 ≤ 0 := Nat.le_refl 0
  refine V_aload_n (i := 0) dX6_clearText_0 rfl rfl ?_
  refine V_get (C := RX6) (T := TX6) (N := 9) (ci := 5) (q := 0) (ref := "OrderChains") 1 rfl il_X6_clearText_X6 rfl rfl fl_X6_clearText_13 rfl rfl dX6_clearText_1 ?_
  refine V_istore_n (i := 1) dX6_clearText_4 rfl rfl rfl ?_
  dsimp only [List.set_cons_zero, List.set_cons_succ]
  refine V_aload_n (i := 0) dX6_clearText_5 rfl rfl ?_
  refine V_iconst (v := 0) dX6_clearText_6 rfl ?_
  refine V_put (C := RX6) (T := TX6) (N := 9) (ci := 5) (q := 0) (ref := "OrderChains") (ty := .int) (ty0 := tyX6) 1 rfl il_X6_clearText_X6 tyX6_ok nmX6 rfl rfl fl_X6_clearText_13 rfl rfl rfl rfl rfl rfl dX6_clearText_7 ?_
  dsimp only [List.set_cons_zero, List.set_cons_succ]
  refine V_iload_n (i := 1) dX6_clearText_10 rfl rfl ?_
  refine V_iret hR dX6_clearText_11 hkc hks ?_
  exact ⟨rfl, rfl⟩

abbrev rX6_errorPosition : Room := { frames := 6, cells := 0, slots := 0, locals := 132 }
theorem vy_X6_errorPosition : vY yX6_errorPosition wsX6_errorPosition cX6_errorPosition 1 (some .int) 0 := ⟨⟨_, rfl⟩, by decide +kernel, by decide +kernel, by decide +kernel⟩
theorem fl_X6_errorPosition_20 : Cond.fieldLink RX6 20 "OrderChains" "reader" "LOrderChains$TextReader;" ∈ wsX6_errorPosition := List.mem_of_getElem? (i := 1) rfl
theorem il_X6_errorPosition_X6 : ∀ w ∈ wsX60, w ∈ wsX6_errorPosition := fun _ h => List.mem_cons_of_mem _ (List.mem_append_left _ (List.mem_append_left _ (List.mem_append_left _ (List.mem_append_right _ h))))
theorem fl_X6_errorPosition_31 : Cond.fieldLink RX6 31 "OrderChains" "trial" "LOrderChains$Engine;" ∈ wsX6_errorPosition := List.mem_of_getElem? (i := 2) rfl
theorem fl_X6_errorPosition_9 : Cond.fieldLink RX6 9 "OrderChains" "text" "[I" ∈ wsX6_errorPosition := List.mem_of_getElem? (i := 3) rfl
theorem fl_X6_errorPosition_13 : Cond.fieldLink RX6 13 "OrderChains" "textLength" "I" ∈ wsX6_errorPosition := List.mem_of_getElem? (i := 4) rfl
set_option maxHeartbeats 4000000 in
set_option maxRecDepth 100000 in
/-- errorPosition -/
theorem c_X6_errorPosition (l : Launch) (G : vG) (A : Nat → Nat) (ea : Nat → Nat → Nat) (r tx : Nat → Nat) (t : vE) (n : Nat) (hn : n ≤ 140) (ht : ∀ k, k < 140 → tx k < 256) (hr : rB r) (het : eB t) : Kc l G yX6_errorPosition wsX6_errorPosition rX6_errorPosition [.ref (A 0)] [oO A ea n, tR (A 2) r, eK G (ea 15) t, iA G (A 1) 140 tx] (fun v Y => v = some (.int (nI (psT tx n 0 (va_up (va_up (va_up r 0 0) 2 0) 3 0, rsC t)).1)) ∧ Y = [oO A ea n, tR (A 2) (psT tx n 0 (va_up (va_up (va_up r 0 0) 2 0) 3 0, rsC t)).2.1, eK G (ea 15) (psT tx n 0 (va_up (va_up (va_up r 0 0) 2 0) 3 0, rsC t)).2.2, iA G (A 1) 140 tx]) 0 0 := by
  refine V_enter (own := RX6) [some (.ref (A 0))] (by decide +kernel) rfl rfl (Nat.le_of_ble_eq_true rfl) rfl (fun Γ hR hin => ?_)
  have hkc : 0 ≤ 0 := Nat.le_refl 0
  have hks : 0 ≤ 0 := Nat.le_refl 0
  refine V_aload_n (i := 0) dX6_errorPosition_0 rfl rfl ?_
  refine V_get (C := RX6) (T := TX6) (N := 9) (ci := 5) (q := 0) (ref := "OrderChains") 2 rfl il_X6_errorPosition_X6 rfl rfl fl_X6_errorPosition_20 rfl rfl dX6_errorPosition_1 ?_
  refine V_aload_n (i := 0) dX6_errorPosition_4 rfl rfl ?_
  refine V_get (C := RX6) (T := TX6) (N := 9) (ci := 5) (q := 0) (ref := "OrderChains") 4 rfl il_X6_errorPosition_X6 rfl rfl fl_X6_errorPosition_31 rfl rfl dX6_errorPosition_5 ?_
  refine V_aload_n (i := 0) dX6_errorPosition_8 rfl rfl ?_
  refine V_get (C := RX6) (T := TX6) (N := 9) (ci := 5) (q := 0) (ref := "OrderChains") 0 rfl il_X6_errorPosition_X6 rfl rfl fl_X6_errorPosition_9 rfl rfl dX6_errorPosition_9 ?_
  refine V_aload_n (i := 0) dX6_errorPosition_12 rfl rfl ?_
  refine V_get (C := RX6) (T := TX6) (N := 9) (ci := 5) (q := 0) (ref := "OrderChains") 1 rfl il_X6_errorPosition_X6 rfl rfl fl_X6_errorPosition_13 rfl rfl dX6_errorPosition_13 ?_
  refine V_callV (C := RX5) (q := 0) (ci := 4) (As := _) (rest := []) [1, 2, 3] (c_X5_readInto l G (A 2) (A 1) (ea 15) r tx t n hn ht hr het) vy_X5_readInto gX6_errorPosition_X5_readInto rfl rfl rfl rfl rfl rfl rfl ⟨rfl, rfl⟩ ⟨rfl, rfl⟩ ⟨Nat.zero_le _, Nat.zero_le _⟩ rfl dX6_errorPosition_16 (fun v Y hE => ?_)
  obtain ⟨rfl, rfl⟩ := hE
  refine ⟨rfl, ?_⟩
  dsimp only [vfill, List.set_cons_zero, List.set_cons_succ, Option.toList, List.cons_append, List.nil_append, Nat.add_zero]
  refine V_iret hR dX6_errorPosition_19 hkc hks ?_
  exact ⟨rfl, rfl⟩

theorem psT_lt (tx : Nat → Nat) : ∀ (k a : Nat) (x : vR), a + k ≤ 140 → (psT tx k a x).1 < 4294967296 ∧ ((psT tx k a x).1 ≤ 140 ∨ (psT tx k a x).1 = 4294967287)
  | 0, a, x, h => by
    show (if _ then _ else _ : Nat) < _ ∧ ((if _ then _ else _ : Nat) ≤ _ ∨ (if _ then _ else _ : Nat) = _)
    split <;> omega
  | k + 1, a, x, h => by
    have ih := psT_lt tx k (a + 1) (stT (tx a) x).2 (by omega)
    show (if _ then _ else _ : Nat × vR).1 < _ ∧ ((if _ then _ else _ : Nat × vR).1 ≤ _ ∨ (if _ then _ else _ : Nat × vR).1 = _)
    split
    · exact ⟨show a < _ by omega, Or.inl (show a ≤ 140 by omega)⟩
    · exact ih
theorem psT_B (tx : Nat → Nat) : ∀ (k a : Nat) (x : vR), rB x.1 → eB x.2 → rB (psT tx k a x).2.1 ∧ eB (psT tx k a x).2.2
  | 0, a, x, h1, h2 => ⟨h1, h2⟩
  | k + 1, a, x, h1, h2 => by
    have hg := rx_stT (c := tx a) h1 h2
    show rB (if _ then _ else _ : Nat × vR).2.1 ∧ eB (if _ then _ else _ : Nat × vR).2.2
    split
    · exact hg
    · exact psT_B tx k (a + 1) _ hg.1 hg.2
theorem rB_0 {r : Nat → Nat} (hr : rB r) : rB (va_up (va_up (va_up r 0 0) 2 0) 3 0) := ⟨show 0 < 9 by decide, hr.2.1, show 0 ≤ 96 by decide, fun _ => show 0 < 96 by decide, show 0 < 4 by decide, hr.2.2.2.2.2⟩
theorem c_X2_channelsThatAreI (l : Launch) (G : vG) (a : Nat → Nat) (e : vE) (c : Nat) (hc : c < 4294967296) (he : eB e) : Kc l G yX2_channelsThatAre wsX2_channelsThatAre rX2_channelsThatAre [.ref (a 0), .int (nI c)] [eO a e.2.2.2.2.2.1, eC G a, cX (a 6) (e.2.2.2.2.2.2 0), cX (a 7) (e.2.2.2.2.2.2 1), cX (a 8) (e.2.2.2.2.2.2 2)] (fun r Y => r = some (.int (nI (vsum (fun h => if e.2.2.2.2.2.2 h 0 = c then 1 else 0) 3))) ∧ Y = [eO a e.2.2.2.2.2.1, eC G a, cX (a 6) (e.2.2.2.2.2.2 0), cX (a 7) (e.2.2.2.2.2.2 1), cX (a 8) (e.2.2.2.2.2.2 2)]) 0 0 :=
  c_X2_channelsThatAre l G a e.2.2.2.2.2.1 e.2.2.2.2.2.2 c hc (by have := (he.2.2.2.2.2.2 0 (by omega)).1; omega) (by have := (he.2.2.2.2.2.2 1 (by omega)).1; omega) (by have := (he.2.2.2.2.2.2 2 (by omega)).1; omega)
/-- a callee over some of an engine's items, over the engine as one item -/
theorem Kc.frame {l : Launch} {G : vG} {y : MethodName} {ws : List Cond} {rm : Room} {as : List Value} {X F : List va_W} {E : Option Value → List va_W → Prop} {mc ms : Nat} (h : Kc l G y ws rm as X E mc ms) : Kc l G y ws rm as (X ++ F) (fun v Y => ∃ Y0, E v Y0 ∧ Y = Y0 ++ F) mc ms := by
  intro sz
  have hA : ∀ q, va_A X.flatten sz q → va_A (X ++ F).flatten sz q := fun q hq => by
    rw [List.flatten_append]
    rcases va_A.left.mp hq with h | h
    · exact va_A.left.mpr (Or.inl (by rw [List.map_append]; exact List.mem_append_left _ h))
    · exact va_A.left.mpr (Or.inr h)
  refine fun p e ha hc hk s m args below hf happ hp hk' => ?_
  obtain ⟨h1, h2, h3, h4, h5⟩ := hp
  rw [List.flatten_append] at h3 h5
  have hp0 : vPre G as X sz args s := ⟨h1, h2, h3.left, h4, h5.left⟩
  obtain ⟨n, o, g1, g2, g3, ⟨⟨v, Y, k1, k2, k3, k4⟩, k5⟩, L, k6, k7⟩ := h sz p e ha hc hk s m args below hf happ hp0 hk'
  refine ⟨n, o, g1, g2, g3, ⟨⟨v, Y ++ F, k1, ⟨Y, k2, rfl⟩, ?_⟩, k5.1, fun q hq hn => k5.2 q hq (fun z => hn (hA q z))⟩, L, k6, fun q hq => hA _ (k7 q hq)⟩
  subst h2
  rw [List.flatten_append, List.flatten_append]
  exact vjoin h3 (h5.self (sz := s.heap.size)) (fun q hq hn => k5.2 q hq hn) (fun q hq => by have := hA q hq; rw [List.flatten_append] at this; exact this) k3 k4
theorem Kc.convP {l : Launch} {G : vG} {y : MethodName} {ws : List Cond} {rm : Room} {as : List Value} {X X' : List va_W} {E E' : Option Value → List va_W → Prop} {mc ms : Nat} (h : Kc l G y ws rm as X E mc ms) (hX : X'.flatten.Perm X.flatten) (hE : ∀ v Y, E v Y → ∃ Y' : List va_W, Y.flatten.Perm Y'.flatten ∧ E' v Y') : Kc l G y ws rm as X' E' mc ms := by
  intro sz
  have hA : va_A X'.flatten sz = va_A X.flatten sz := funext fun q => propext (by rw [va_A.left, va_A.left, (hX.map Prod.fst).mem_iff])
  rw [hA]
  refine MetFree.mono (h sz) (fun a s hp => ?_) (fun _ _ _ _ _ h => h) (fun a st o t _ hq => ?_)
  · obtain ⟨h1, h2, h3, h4, h5⟩ := hp
    exact ⟨h1, h2, h3.perm hX, h4, h5.perm hX⟩
  · obtain ⟨⟨⟨v, Y, h1, h2, h3, h4⟩, h5⟩, h6⟩ := hq
    obtain ⟨Y', e1, e2⟩ := hE v Y h2
    exact ⟨⟨⟨v, Y', h1, e2, h3.perm e1, h4.perm e1⟩, h5⟩, h6⟩
theorem eK_perm (G : vG) (a : Nat → Nat) (e : vE) : [eK G a e].flatten.Perm ([eO a e.2.2.2.2.2.1, eC G a, cX (a 6) (e.2.2.2.2.2.2 0), cX (a 7) (e.2.2.2.2.2.2 1), cX (a 8) (e.2.2.2.2.2.2 2)] ++ [iA G (a 1) 96 e.1, iA G (a 2) 96 e.2.1, iA G (a 3) 96 e.2.2.1, iA G (a 4) 96 e.2.2.2.1, iA G (a 9) 96 e.2.2.2.2.1]).flatten := by
  rw [flX]
  refine List.Perm.flatten ?_
  show [_, _, _, _, _, _, _, _, _, _].Perm [_, _, _, _, _, _, _, _, _, _]
  refine List.Perm.cons _ ?_
  exact (List.perm_append_comm (l₁ := [_, _, _, _]) (l₂ := [_, _, _, _])).append_right [_]
theorem c_X2_channelsThatAreK (l : Launch) (G : vG) (a : Nat → Nat) (e : vE) (c : Nat) (hc : c < 4294967296) (he : eB e) : Kc l G yX2_channelsThatAre wsX2_channelsThatAre rX2_channelsThatAre [.ref (a 0), .int (nI c)] [eK G a e] (fun r Y => r = some (.int (nI (vsum (fun h => if e.2.2.2.2.2.2 h 0 = c then 1 else 0) 3))) ∧ Y = [eK G a e]) 0 0 := by
  refine ((c_X2_channelsThatAreI l G a e c hc he).frame).convP (eK_perm G a e) (fun v Y hE => ?_)
  obtain ⟨Y0, ⟨h1, rfl⟩, rfl⟩ := hE
  exact ⟨_, (eK_perm G a e).symm, h1, rfl⟩
abbrev rX6_load : Room := { frames := 6, cells := 1, slots := 6, locals := 132 }
theorem vy_X6_load : vY yX6_load wsX6_load cX6_load 2 (some .int) 0 := ⟨⟨_, rfl⟩, by decide +kernel, by decide +kernel, by decide +kernel⟩
theorem fl_X6_load_20 : Cond.fieldLink RX6 20 "OrderChains" "reader" "LOrderChains$TextReader;" ∈ wsX6_load := List.mem_of_getElem? (i := 3) rfl
theorem il_X6_load_X6 : ∀ w ∈ wsX60, w ∈ wsX6_load := fun _ h => List.mem_cons_of_mem _ (List.mem_append_left _ (List.mem_append_left _ (List.mem_append_left _ (List.mem_append_left _ (List.mem_append_left _ (List.mem_append_right _ h))))))
theorem fl_X6_load_31 : Cond.fieldLink RX6 31 "OrderChains" "trial" "LOrderChains$Engine;" ∈ wsX6_load := List.mem_of_getElem? (i := 4) rfl
theorem fl_X6_load_9 : Cond.fieldLink RX6 9 "OrderChains" "text" "[I" ∈ wsX6_load := List.mem_of_getElem? (i := 5) rfl
theorem fl_X6_load_13 : Cond.fieldLink RX6 13 "OrderChains" "textLength" "I" ∈ wsX6_load := List.mem_of_getElem? (i := 6) rfl
theorem fl_X6_load_27 : Cond.fieldLink RX6 27 "OrderChains" "live" "LOrderChains$Engine;" ∈ wsX6_load := List.mem_of_getElem? (i := 7) rfl
theorem fl_X6_load_37 : Cond.fieldLink RX6 37 "OrderChains" "history" "LOrderChains$History;" ∈ wsX6_load := List.mem_of_getElem? (i := 8) rfl
theorem fl_X6_load_45 : Cond.fieldLink RX6 45 "OrderChains" "slotFilled" "[Z" ∈ wsX6_load := List.mem_of_getElem? (i := 9) rfl
theorem xk_X6_load_63 : Cond.classLink RX6 63 "java/lang/IllegalStateException" ∈ wsX6_load := List.mem_of_getElem? (i := 1) rfl
theorem xi_X6_load_63 : Cond.initialized "java/lang/IllegalStateException" ∈ wsX6_load := List.mem_of_getElem? (i := 2) rfl
theorem xw_X6_load_67 : ∀ w ∈ (vx_atS RX6 67 sISE nms).filter goodWord, w ∈ wsX6_load := fun _ h => List.mem_cons_of_mem _ (List.mem_append_right _ h)
set_option maxHeartbeats 4000000 in
set_option maxRecDepth 100000 in
/-- load -/
theorem c_X6_load (l : Launch) (hst : l.stackTraces = false) (G : vG) (A : Nat → Nat) (ea : Nat → Nat → Nat) (r tx : Nat → Nat) (t : vE) (n : Nat) (hn : n ≤ 140) (ht : ∀ k, k < 140 → tx k < 256) (hr : rB r) (het : eB t) (e : vE) (o fl : Nat → Nat) : Kx l G yX6_load wsX6_load rX6_load [.ref (A 0)] [oO A ea n, tR (A 2) r, eK G (ea 15) t, iA G (A 1) 140 tx, eK G (ea 14) e, hO (A 3) (A 7) o, zA G (A 5) 2 fl] (fun v Y => (psT tx n 0 (va_up (va_up (va_up r 0 0) 2 0) 3 0, rsC t)).1 = 4294967287 ∧ v = some (.int (nI (vsum (fun h => if (psT tx n 0 (va_up (va_up (va_up r 0 0) 2 0) 3 0, rsC t)).2.2.2.2.2.2.2.2 h 0 = 1 then 1 else 0) 3))) ∧ Y = [oO A ea n, tR (A 2) (psT tx n 0 (va_up (va_up (va_up r 0 0) 2 0) 3 0, rsC t)).2.1, eK G (ea 15) (psT tx n 0 (va_up (va_up (va_up r 0 0) 2 0) 3 0, rsC t)).2.2, iA G (A 1) 140 tx, eK G (ea 14) (cpC e (psT tx n 0 (va_up (va_up (va_up r 0 0) 2 0) 3 0, rsC t)).2.2), hO (A 3) (A 7) (va_up o 1 0), zA G (A 5) 2 (va_up (va_up fl 0 0) 1 0)]) (fun c Y => c = sISE ∧ ¬ (psT tx n 0 (va_up (va_up (va_up r 0 0) 2 0) 3 0, rsC t)).1 = 4294967287 ∧ Y = [oO A ea n, tR (A 2) (psT tx n 0 (va_up (va_up (va_up r 0 0) 2 0) 3 0, rsC t)).2.1, eK G (ea 15) (psT tx n 0 (va_up (va_up (va_up r 0 0) 2 0) 3 0, rsC t)).2.2, iA G (A 1) 140 tx, eK G (ea 14) e, hO (A 3) (A 7) o, zA G (A 5) 2 fl]) 1 6 := by
  refine V_enterX (own := RX6) [some (.ref (A 0)), none] hst (by decide +kernel) rfl rfl (Nat.le_of_ble_eq_true rfl) rfl (fun Γ hR hT => ?_)
  have hkc : 0 ≤ 1 := Nat.zero_le _
  have hks : 0 ≤ 6 := Nat.zero_le _
  have hmx : 0 + 1 ≤ 1 ∧ 0 + 6 ≤ 6 := ⟨by decide, by decide⟩
  refine V_aload_n (i := 0) dX6_load_0 rfl rfl ?_
  refine V_get (C := RX6) (T := TX6) (N := 9) (ci := 5) (q := 0) (ref := "OrderChains") 2 rfl il_X6_load_X6 rfl rfl fl_X6_load_20 rfl rfl dX6_load_1 ?_
  refine V_aload_n (i := 0) dX6_load_4 rfl rfl ?_
  refine V_get (C := RX6) (T := TX6) (N := 9) (ci := 5) (q := 0) (ref := "OrderChains") 4 rfl il_X6_load_X6 rfl rfl fl_X6_load_31 rfl rfl dX6_load_5 ?_
  refine V_aload_n (i := 0) dX6_load_8 rfl rfl ?_
  refine V_get (C := RX6) (T := TX6) (N := 9) (ci := 5) (q := 0) (ref := "OrderChains") 0 rfl il_X6_load_X6 rfl rfl fl_X6_load_9 rfl rfl dX6_load_9 ?_
  refine V_aload_n (i := 0) dX6_load_12 rfl rfl ?_
  refine V_get (C := RX6) (T := TX6) (N := 9) (ci := 5) (q := 0) (ref := "OrderChains") 1 rfl il_X6_load_X6 rfl rfl fl_X6_load_13 rfl rfl dX6_load_13 ?_
  refine V_callV (C := RX5) (q := 0) (ci := 4) (As := _) (rest := []) [1, 2, 3] (c_X5_readInto l G (A 2) (A 1) (ea 15) r tx t n hn ht hr het) vy_X5_readInto gX6_load_X5_readInto rfl rfl rfl rfl rfl rfl rfl ⟨rfl, rfl⟩ ⟨rfl, rfl⟩ ⟨Nat.zero_le _, Nat.zero_le _⟩ rfl dX6_load_16 (fun v Y hE => ?_)
  obtain ⟨rfl, rfl⟩ := hE
  refine ⟨rfl, ?_⟩
  dsimp only [vfill, List.set_cons_zero, List.set_cons_succ, Option.toList, List.cons_append, List.nil_append, Nat.add_zero]
  have hpl := psT_lt tx n 0 (va_up (va_up (va_up r 0 0) 2 0) 3 0, rsC t) (by omega)
  have hpb := psT_B tx n 0 (va_up (va_up (va_up r 0 0) 2 0) 3 0, rsC t) (rB_0 hr) (eB_reset het)
  refine V_bipush (v := 4294967287) dX6_load_19 (by decide) ?_
  refine V_icmp_eq (tgt := 34) hpl.1 (by omega) dX6_load_21 rfl (fun h_21 => ?_) (fun h_21 => ?_)
  · refine V_aload_n (i := 0) dX6_load_34 rfl rfl ?_
    refine V_get (C := RX6) (T := TX6) (N := 9) (ci := 5) (q := 0) (ref := "OrderChains") 3 rfl il_X6_load_X6 rfl rfl fl_X6_load_27 rfl rfl dX6_load_35 ?_
    refine V_aload_n (i := 0) dX6_load_38 rfl rfl ?_
    refine V_get (C := RX6) (T := TX6) (N := 9) (ci := 5) (q := 0) (ref := "OrderChains") 4 rfl il_X6_load_X6 rfl rfl fl_X6_load_31 rfl rfl dX6_load_39 ?_
    refine V_callV (C := RX2) (q := 0) (ci := 2) (As := _) (rest := []) [4, 2] (c_X2_copyFromK l G (ea 14) (ea 15) e (psT tx n 0 (va_up (va_up (va_up r 0 0) 2 0) 3 0, rsC t)).2.2) vy_X2_copyFrom gX6_load_X2_copyFrom rfl rfl rfl rfl rfl rfl rfl ⟨rfl, rfl⟩ ⟨rfl, rfl⟩ ⟨Nat.zero_le _, Nat.zero_le _⟩ rfl dX6_load_42 (fun v Y hE => ?_)
    obtain ⟨rfl, rfl⟩ := hE
    refine ⟨rfl, ?_⟩
    dsimp only [vfill, List.set_cons_zero, List.set_cons_succ, Option.toList, List.cons_append, List.nil_append, Nat.add_zero]
    refine V_aload_n (i := 0) dX6_load_45 rfl rfl ?_
    refine V_get (C := RX6) (T := TX6) (N := 9) (ci := 5) (q := 0) (ref := "OrderChains") 5 rfl il_X6_load_X6 rfl rfl fl_X6_load_37 rfl rfl dX6_load_46 ?_
    refine V_callV (C := RX3) (q := 0) (ci := 3) (As := []) (rest := []) [5] (c_X3_forget l G (A 3) (A 7) o) vy_X3_forget gX6_load_X3_forget rfl rfl rfl rfl rfl rfl rfl ⟨rfl, rfl⟩ ⟨rfl, rfl⟩ ⟨Nat.zero_le _, Nat.zero_le _⟩ rfl dX6_load_49 (fun v Y hE => ?_)
    obtain ⟨rfl, rfl⟩ := hE
    refine ⟨rfl, ?_⟩
    dsimp only [vfill, List.set_cons_zero, List.set_cons_succ, Option.toList, List.cons_append, List.nil_append, Nat.add_zero]
    refine V_iconst (v := 0) dX6_load_52 rfl ?_
    refine V_istore_n (i := 1) dX6_load_53 rfl rfl rfl ?_
    dsimp only [List.set_cons_zero, List.set_cons_succ]
    refine V_iload_n (i := 1) dX6_load_54 rfl rfl ?_
    refine V_iconst (v := 2) dX6_load_55 rfl ?_
    refine V_icmp_ge (tgt := 72) (by omega) (by omega) dX6_load_56 rfl (fun h_56 => ?_) (fun h_56 => ?_)
    · exfalso; omega
    · refine V_aload_n (i := 0) dX6_load_59 rfl rfl ?_
      refine V_get (C := RX6) (T := TX6) (N := 9) (ci := 5) (q := 0) (ref := "OrderChains") 7 rfl il_X6_load_X6 rfl rfl fl_X6_load_45 rfl rfl dX6_load_60 ?_
      refine V_iload_n (i := 1) dX6_load_63 rfl rfl ?_
      refine V_iconst (v := 0) dX6_load_64 rfl ?_
      refine V_zast (q := 6) rfl (by omega) rfl (Or.inl rfl) dX6_load_65 ?_
      dsimp only [List.set_cons_zero, List.set_cons_succ]
      refine V_iinc (v := 1) dX6_load_66 rfl (by decide) rfl rfl ?_
      dsimp only [List.set_cons_zero, List.set_cons_succ]
      refine V_goto (tgt := 54) dX6_load_69 rfl ?_
      refine V_iload_n (i := 1) dX6_load_54 rfl rfl ?_
      refine V_iconst (v := 2) dX6_load_55 rfl ?_
      refine V_icmp_ge (tgt := 72) (by omega) (by omega) dX6_load_56 rfl (fun h_56_2 => ?_) (fun h_56_2 => ?_)
      · exfalso; omega
      · refine V_aload_n (i := 0) dX6_load_59 rfl rfl ?_
        refine V_get (C := RX6) (T := TX6) (N := 9) (ci := 5) (q := 0) (ref := "OrderChains") 7 rfl il_X6_load_X6 rfl rfl fl_X6_load_45 rfl rfl dX6_load_60 ?_
        refine V_iload_n (i := 1) dX6_load_63 rfl rfl ?_
        refine V_iconst (v := 0) dX6_load_64 rfl ?_
        refine V_zast (q := 6) rfl (by omega) rfl (Or.inl rfl) dX6_load_65 ?_
        dsimp only [List.set_cons_zero, List.set_cons_succ]
        refine V_iinc (v := 2) dX6_load_66 rfl (by decide) rfl rfl ?_
        dsimp only [List.set_cons_zero, List.set_cons_succ]
        refine V_goto (tgt := 54) dX6_load_69 rfl ?_
        refine V_iload_n (i := 1) dX6_load_54 rfl rfl ?_
        refine V_iconst (v := 2) dX6_load_55 rfl ?_
        refine V_icmp_ge (tgt := 72) (by omega) (by omega) dX6_load_56 rfl (fun h_56_3 => ?_) (fun h_56_3 => ?_)
        · refine V_aload_n (i := 0) dX6_load_72 rfl rfl ?_
          refine V_get (C := RX6) (T := TX6) (N := 9) (ci := 5) (q := 0) (ref := "OrderChains") 3 rfl il_X6_load_X6 rfl rfl fl_X6_load_27 rfl rfl dX6_load_73 ?_
          refine V_iconst (v := 1) dX6_load_76 rfl ?_
          refine V_callV (C := RX2) (q := 0) (ci := 2) (As := _) (rest := []) [4] (c_X2_channelsThatAreK l G (ea 14) (cpC e (psT tx n 0 (va_up (va_up (va_up r 0 0) 2 0) 3 0, rsC t)).2.2) 1 (by decide) (eB_cp hpb.2)) vy_X2_channelsThatAre gX6_load_X2_channelsThatAre rfl rfl rfl rfl rfl rfl rfl ⟨rfl, rfl⟩ ⟨rfl, rfl⟩ ⟨Nat.zero_le _, Nat.zero_le _⟩ rfl dX6_load_77 (fun v Y hE => ?_)
          obtain ⟨rfl, rfl⟩ := hE
          refine ⟨rfl, ?_⟩
          dsimp only [vfill, List.set_cons_zero, List.set_cons_succ, Option.toList, List.cons_append, List.nil_append, Nat.add_zero]
          refine V_iret hR dX6_load_80 hkc hks ?_
          exact ⟨h_21, rfl, rfl⟩
        · exfalso; omega
  · refine V_ISE (is := 72) (text := "the text is not an engine") hT rfl xk_X6_load_63 xi_X6_load_63 xw_X6_load_67 (List.mem_of_getElem? (i := 21) rfl) ⟨rfl, rfl⟩ hmx hmx dX6_load_24 dX6_load_27 dX6_load_28 dX6_load_30 dX6_load_33 ?_
    exact ⟨rfl, h_21, rfl⟩

end OC1
