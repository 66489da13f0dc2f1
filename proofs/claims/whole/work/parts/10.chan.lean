section CHAN
/-- a Channel at b: its thirteen ints -/
def cX (b : Nat) (q : Nat → Nat) : va_W := [(b, .inr (1, [.int (nI (q 0)), .int (nI (q 1)), .int (nI (q 2)), .int (nI (q 3)), .int (nI (q 4)), .int (nI (q 5)), .int (nI (q 6)), .int (nI (q 7)), .int (nI (q 8)), .int (nI (q 9)), .int (nI (q 10)), .int (nI (q 11)), .int (nI (q 12))]))]
/-- an int array of N at a -/
def iA (G : vG) (a N : Nat) (f : Nat → Nat) : va_W := [(a, .inl (G.2 0, N, .inl (nA f)))]
/-- become -/
def qBc (c : Nat) (q : Nat → Nat) : Nat → Nat := va_up (va_up (va_up (va_up q 0 c) 2 4294967287) 5 4294967287) 6 0
def qFail (w : Nat) (q : Nat → Nat) : Nat → Nat := va_up (qBc 3 q) 2 w
def qBegin (a : Nat) (q : Nat → Nat) : Nat → Nat := va_up (qBc 1 q) 1 a
def qGo (a : Nat) (q : Nat → Nat) : Nat → Nat := va_up (va_up (va_up q 5 4294967287) 6 0) 1 a
def qTake (f q : Nat → Nat) : Nat → Nat := va_up (va_up (va_up (va_up (va_up (va_up (va_up (va_up q 5 (q 1)) 7 (f (q 1))) 8 (f (q 1 + 1))) 9 (f (q 1 + 2))) 10 (f (q 1 + 3))) 11 (f (q 1 + 4))) 12 (f (q 1 + 5))) 3 (q 3 + 1)
def qReset (q : Nat → Nat) : Nat → Nat := va_up (va_up (va_up (qBc 0 q) 1 0) 3 0) 4 0

abbrev rX1_become : Room := { frames := 0, cells := 0, slots := 0, locals := 0 }
theorem vy_X1_become : vY yX1_become wsX1_become cX1_become 2 none 1 := ⟨⟨_, rfl⟩, by decide +kernel, by decide +kernel, by decide +kernel⟩
theorem fl_X1_become_9 : Cond.fieldLink RX1 9 "OrderChains$Channel" "condition" "I" ∈ wsX1_become := List.mem_of_getElem? (i := 1) rfl
theorem il_X1_become_X1 : ∀ w ∈ wsX10, w ∈ wsX1_become := fun _ h => List.mem_cons_of_mem _ (List.mem_append_right _ h)
theorem fl_X1_become_18 : Cond.fieldLink RX1 18 "OrderChains$Channel" "cause" "I" ∈ wsX1_become := List.mem_of_getElem? (i := 2) rfl
theorem fl_X1_become_27 : Cond.fieldLink RX1 27 "OrderChains$Channel" "place" "I" ∈ wsX1_become := List.mem_of_getElem? (i := 3) rfl
theorem fl_X1_become_30 : Cond.fieldLink RX1 30 "OrderChains$Channel" "units" "I" ∈ wsX1_become := List.mem_of_getElem? (i := 4) rfl
set_option maxHeartbeats 4000000 in
set_option maxRecDepth 100000 in
/-- Channel.become -/
theorem c_X1_become (l : Launch) (G : vG) (b c : Nat) (q : Nat → Nat) : Kc l G yX1_become wsX1_become rX1_become [.ref b, .int (nI c)] [cX b q] (fun v Y => v = none ∧ Y = [cX b (qBc c q)]) 0 0 := by
  refine V_enter (own := RX1) [some (.ref b), some (.int (nI c))] (by decide +kernel) rfl rfl (Nat.le_of_ble_eq_true rfl) rfl (fun Γ hR hin => ?_)
  have hkc : 0 ≤ 0 := Nat.le_refl 0
  have hks : 0 ≤ 0 := Nat.le_refl 0
  refine V_aload_n (i := 0) dX1_become_0 rfl rfl ?_
  refine V_iload_n (i := 1) dX1_become_1 rfl rfl ?_
  refine V_put (C := RX1) (T := TX1) (N := 13) (ci := 1) (q := 0) (ref := "OrderChains$Channel") (ty := .int) (ty0 := tyX1) 0 rfl il_X1_become_X1 tyX1_ok nmX1 rfl rfl fl_X1_become_9 rfl rfl rfl rfl rfl rfl dX1_become_2 ?_
  dsimp only [List.set_cons_zero, List.set_cons_succ]
  refine V_aload_n (i := 0) dX1_become_5 rfl rfl ?_
  refine V_bipush (v := 4294967287) dX1_become_6 (by decide) ?_
  refine V_put (C := RX1) (T := TX1) (N := 13) (ci := 1) (q := 0) (ref := "OrderChains$Channel") (ty := .int) (ty0 := tyX1) 2 rfl il_X1_become_X1 tyX1_ok nmX1 rfl rfl fl_X1_become_18 rfl rfl rfl rfl rfl rfl dX1_become_8 ?_
  dsimp only [List.set_cons_zero, List.set_cons_succ]
  refine V_aload_n (i := 0) dX1_become_11 rfl rfl ?_
  refine V_bipush (v := 4294967287) dX1_become_12 (by decide) ?_
  refine V_put (C := RX1) (T := TX1) (N := 13) (ci := 1) (q := 0) (ref := "OrderChains$Channel") (ty := .int) (ty0 := tyX1) 5 rfl il_X1_become_X1 tyX1_ok nmX1 rfl rfl fl_X1_become_27 rfl rfl rfl rfl rfl rfl dX1_become_14 ?_
  dsimp only [List.set_cons_zero, List.set_cons_succ]
  refine V_aload_n (i := 0) dX1_become_17 rfl rfl ?_
  refine V_iconst (v := 0) dX1_become_18 rfl ?_
  refine V_put (C := RX1) (T := TX1) (N := 13) (ci := 1) (q := 0) (ref := "OrderChains$Channel") (ty := .int) (ty0 := tyX1) 6 rfl il_X1_become_X1 tyX1_ok nmX1 rfl rfl fl_X1_become_30 rfl rfl rfl rfl rfl rfl dX1_become_19 ?_
  dsimp only [List.set_cons_zero, List.set_cons_succ]
  refine V_vret hR dX1_become_22 hkc hks ?_
  exact ⟨rfl, rfl⟩

abbrev rX1_fail : Room := { frames := 1, cells := 0, slots := 0, locals := 21 }
theorem vy_X1_fail : vY yX1_fail wsX1_fail cX1_fail 2 none 1 := ⟨⟨_, rfl⟩, by decide +kernel, by decide +kernel, by decide +kernel⟩
theorem fl_X1_fail_18 : Cond.fieldLink RX1 18 "OrderChains$Channel" "cause" "I" ∈ wsX1_fail := List.mem_of_getElem? (i := 1) rfl
theorem il_X1_fail_X1 : ∀ w ∈ wsX10, w ∈ wsX1_fail := fun _ h => List.mem_cons_of_mem _ (List.mem_append_right _ h)
set_option maxHeartbeats 4000000 in
set_option maxRecDepth 100000 in
/-- Channel.fail -/
theorem c_X1_fail (l : Launch) (G : vG) (b w : Nat) (q : Nat → Nat) : Kc l G yX1_fail wsX1_fail rX1_fail [.ref b, .int (nI w)] [cX b q] (fun v Y => v = none ∧ Y = [cX b (qFail w q)]) 0 0 := by
  refine V_enter (own := RX1) [some (.ref b), some (.int (nI w))] (by decide +kernel) rfl rfl (Nat.le_of_ble_eq_true rfl) rfl (fun Γ hR hin => ?_)
  have hkc : 0 ≤ 0 := Nat.le_refl 0
  have hks : 0 ≤ 0 := Nat.le_refl 0
  refine V_aload_n (i := 0) dX1_fail_0 rfl rfl ?_
  refine V_iconst (v := 3) dX1_fail_1 rfl ?_
  refine V_callV (C := RX1) (q := 0) (ci := 1) (As := _) (rest := []) [0] (c_X1_become l G b 3 q) vy_X1_become gX1_fail_X1_become rfl rfl rfl rfl rfl rfl rfl ⟨rfl, rfl⟩ ⟨rfl, rfl⟩ ⟨Nat.zero_le _, Nat.zero_le _⟩ rfl dX1_fail_2 (fun v Y hE => ?_)
  obtain ⟨rfl, rfl⟩ := hE
  refine ⟨rfl, ?_⟩
  dsimp only [vfill, List.set_cons_zero, List.set_cons_succ, Option.toList, List.cons_append, List.nil_append, Nat.add_zero]
  refine V_aload_n (i := 0) dX1_fail_5 rfl rfl ?_
  refine V_iload_n (i := 1) dX1_fail_6 rfl rfl ?_
  refine V_put (C := RX1) (T := TX1) (N := 13) (ci := 1) (q := 0) (ref := "OrderChains$Channel") (ty := .int) (ty0 := tyX1) 2 rfl il_X1_fail_X1 tyX1_ok nmX1 rfl rfl fl_X1_fail_18 rfl rfl rfl rfl rfl rfl dX1_fail_7 ?_
  dsimp only [List.set_cons_zero, List.set_cons_succ]
  refine V_vret hR dX1_fail_10 hkc hks ?_
  exact ⟨rfl, rfl⟩

abbrev rX1_beginAt : Room := { frames := 1, cells := 0, slots := 0, locals := 21 }
theorem vy_X1_beginAt : vY yX1_beginAt wsX1_beginAt cX1_beginAt 2 none 1 := ⟨⟨_, rfl⟩, by decide +kernel, by decide +kernel, by decide +kernel⟩
theorem fl_X1_beginAt_15 : Cond.fieldLink RX1 15 "OrderChains$Channel" "head" "I" ∈ wsX1_beginAt := List.mem_of_getElem? (i := 1) rfl
theorem il_X1_beginAt_X1 : ∀ w ∈ wsX10, w ∈ wsX1_beginAt := fun _ h => List.mem_cons_of_mem _ (List.mem_append_right _ h)
set_option maxHeartbeats 4000000 in
set_option maxRecDepth 100000 in
/-- Channel.beginAt -/
theorem c_X1_beginAt (l : Launch) (G : vG) (b a : Nat) (q : Nat → Nat) : Kc l G yX1_beginAt wsX1_beginAt rX1_beginAt [.ref b, .int (nI a)] [cX b q] (fun v Y => v = none ∧ Y = [cX b (qBegin a q)]) 0 0 := by
  refine V_enter (own := RX1) [some (.ref b), some (.int (nI a))] (by decide +kernel) rfl rfl (Nat.le_of_ble_eq_true rfl) rfl (fun Γ hR hin => ?_)
  have hkc : 0 ≤ 0 := Nat.le_refl 0
  have hks : 0 ≤ 0 := Nat.le_refl 0
  refine V_aload_n (i := 0) dX1_beginAt_0 rfl rfl ?_
  refine V_iconst (v := 1) dX1_beginAt_1 rfl ?_
  refine V_callV (C := RX1) (q := 0) (ci := 1) (As := _) (rest := []) [0] (c_X1_become l G b 1 q) vy_X1_become gX1_beginAt_X1_become rfl rfl rfl rfl rfl rfl rfl ⟨rfl, rfl⟩ ⟨rfl, rfl⟩ ⟨Nat.zero_le _, Nat.zero_le _⟩ rfl dX1_beginAt_2 (fun v Y hE => ?_)
  obtain ⟨rfl, rfl⟩ := hE
  refine ⟨rfl, ?_⟩
  dsimp only [vfill, List.set_cons_zero, List.set_cons_succ, Option.toList, List.cons_append, List.nil_append, Nat.add_zero]
  refine V_aload_n (i := 0) dX1_beginAt_5 rfl rfl ?_
  refine V_iload_n (i := 1) dX1_beginAt_6 rfl rfl ?_
  refine V_put (C := RX1) (T := TX1) (N := 13) (ci := 1) (q := 0) (ref := "OrderChains$Channel") (ty := .int) (ty0 := tyX1) 1 rfl il_X1_beginAt_X1 tyX1_ok nmX1 rfl rfl fl_X1_beginAt_15 rfl rfl rfl rfl rfl rfl dX1_beginAt_7 ?_
  dsimp only [List.set_cons_zero, List.set_cons_succ]
  refine V_vret hR dX1_beginAt_10 hkc hks ?_
  exact ⟨rfl, rfl⟩

abbrev rX1_reset : Room := { frames := 1, cells := 0, slots := 0, locals := 21 }
theorem vy_X1_reset : vY yX1_reset wsX1_reset cX1_reset 1 none 0 := ⟨⟨_, rfl⟩, by decide +kernel, by decide +kernel, by decide +kernel⟩
theorem fl_X1_reset_15 : Cond.fieldLink RX1 15 "OrderChains$Channel" "head" "I" ∈ wsX1_reset := List.mem_of_getElem? (i := 1) rfl
theorem il_X1_reset_X1 : ∀ w ∈ wsX10, w ∈ wsX1_reset := fun _ h => List.mem_cons_of_mem _ (List.mem_append_right _ h)
theorem fl_X1_reset_21 : Cond.fieldLink RX1 21 "OrderChains$Channel" "ordersRead" "I" ∈ wsX1_reset := List.mem_of_getElem? (i := 2) rfl
theorem fl_X1_reset_24 : Cond.fieldLink RX1 24 "OrderChains$Channel" "cellsWritten" "I" ∈ wsX1_reset := List.mem_of_getElem? (i := 3) rfl
set_option maxHeartbeats 4000000 in
set_option maxRecDepth 100000 in
/-- Channel.reset -/
theorem c_X1_reset (l : Launch) (G : vG) (b : Nat) (q : Nat → Nat) : Kc l G yX1_reset wsX1_reset rX1_reset [.ref b] [cX b q] (fun v Y => v = none ∧ Y = [cX b (qReset q)]) 0 0 := by
  refine V_enter (own := RX1) [some (.ref b)] (by decide +kernel) rfl rfl (Nat.le_of_ble_eq_true rfl) rfl (fun Γ hR hin => ?_)
  have hkc : 0 ≤ 0 := Nat.le_refl 0
  have hks : 0 ≤ 0 := Nat.le_refl 0
  refine V_aload_n (i := 0) dX1_reset_0 rfl rfl ?_
  refine V_iconst (v := 0) dX1_reset_1 rfl ?_
  refine V_callV (C := RX1) (q := 0) (ci := 1) (As := _) (rest := []) [0] (c_X1_become l G b 0 q) vy_X1_become gX1_reset_X1_become rfl rfl rfl rfl rfl rfl rfl ⟨rfl, rfl⟩ ⟨rfl, rfl⟩ ⟨Nat.zero_le _, Nat.zero_le _⟩ rfl dX1_reset_2 (fun v Y hE => ?_)
  obtain ⟨rfl, rfl⟩ := hE
  refine ⟨rfl, ?_⟩
  dsimp only [vfill, List.set_cons_zero, List.set_cons_succ, Option.toList, List.cons_append, List.nil_append, Nat.add_zero]
  refine V_aload_n (i := 0) dX1_reset_5 rfl rfl ?_
  refine V_iconst (v := 0) dX1_reset_6 rfl ?_
  refine V_put (C := RX1) (T := TX1) (N := 13) (ci := 1) (q := 0) (ref := "OrderChains$Channel") (ty := .int) (ty0 := tyX1) 1 rfl il_X1_reset_X1 tyX1_ok nmX1 rfl rfl fl_X1_reset_15 rfl rfl rfl rfl rfl rfl dX1_reset_7 ?_
  dsimp only [List.set_cons_zero, List.set_cons_succ]
  refine V_aload_n (i := 0) dX1_reset_10 rfl rfl ?_
  refine V_iconst (v := 0) dX1_reset_11 rfl ?_
  refine V_put (C := RX1) (T := TX1) (N := 13) (ci := 1) (q := 0) (ref := "OrderChains$Channel") (ty := .int) (ty0 := tyX1) 3 rfl il_X1_reset_X1 tyX1_ok nmX1 rfl rfl fl_X1_reset_21 rfl rfl rfl rfl rfl rfl dX1_reset_12 ?_
  dsimp only [List.set_cons_zero, List.set_cons_succ]
  refine V_aload_n (i := 0) dX1_reset_15 rfl rfl ?_
  refine V_iconst (v := 0) dX1_reset_16 rfl ?_
  refine V_put (C := RX1) (T := TX1) (N := 13) (ci := 1) (q := 0) (ref := "OrderChains$Channel") (ty := .int) (ty0 := tyX1) 4 rfl il_X1_reset_X1 tyX1_ok nmX1 rfl rfl fl_X1_reset_24 rfl rfl rfl rfl rfl rfl dX1_reset_17 ?_
  dsimp only [List.set_cons_zero, List.set_cons_succ]
  refine V_vret hR dX1_reset_20 hkc hks ?_
  exact ⟨rfl, rfl⟩

abbrev rX1_goOnAt : Room := { frames := 0, cells := 0, slots := 0, locals := 0 }
theorem vy_X1_goOnAt : vY yX1_goOnAt wsX1_goOnAt cX1_goOnAt 2 none 1 := ⟨⟨_, rfl⟩, by decide +kernel, by decide +kernel, by decide +kernel⟩
theorem fl_X1_goOnAt_27 : Cond.fieldLink RX1 27 "OrderChains$Channel" "place" "I" ∈ wsX1_goOnAt := List.mem_of_getElem? (i := 1) rfl
theorem il_X1_goOnAt_X1 : ∀ w ∈ wsX10, w ∈ wsX1_goOnAt := fun _ h => List.mem_cons_of_mem _ (List.mem_append_right _ h)
theorem fl_X1_goOnAt_30 : Cond.fieldLink RX1 30 "OrderChains$Channel" "units" "I" ∈ wsX1_goOnAt := List.mem_of_getElem? (i := 2) rfl
theorem fl_X1_goOnAt_15 : Cond.fieldLink RX1 15 "OrderChains$Channel" "head" "I" ∈ wsX1_goOnAt := List.mem_of_getElem? (i := 3) rfl
set_option maxHeartbeats 4000000 in
set_option maxRecDepth 100000 in
/-- Channel.goOnAt -/
theorem c_X1_goOnAt (l : Launch) (G : vG) (b a : Nat) (q : Nat → Nat) : Kc l G yX1_goOnAt wsX1_goOnAt rX1_goOnAt [.ref b, .int (nI a)] [cX b q] (fun v Y => v = none ∧ Y = [cX b (qGo a q)]) 0 0 := by
  refine V_enter (own := RX1) [some (.ref b), some (.int (nI a))] (by decide +kernel) rfl rfl (Nat.le_of_ble_eq_true rfl) rfl (fun Γ hR hin => ?_)
  have hkc : 0 ≤ 0 := Nat.le_refl 0
  have hks : 0 ≤ 0 := Nat.le_refl 0
  refine V_aload_n (i := 0) dX1_goOnAt_0 rfl rfl ?_
  refine V_bipush (v := 4294967287) dX1_goOnAt_1 (by decide) ?_
  refine V_put (C := RX1) (T := TX1) (N := 13) (ci := 1) (q := 0) (ref := "OrderChains$Channel") (ty := .int) (ty0 := tyX1) 5 rfl il_X1_goOnAt_X1 tyX1_ok nmX1 rfl rfl fl_X1_goOnAt_27 rfl rfl rfl rfl rfl rfl dX1_goOnAt_3 ?_
  dsimp only [List.set_cons_zero, List.set_cons_succ]
  refine V_aload_n (i := 0) dX1_goOnAt_6 rfl rfl ?_
  refine V_iconst (v := 0) dX1_goOnAt_7 rfl ?_
  refine V_put (C := RX1) (T := TX1) (N := 13) (ci := 1) (q := 0) (ref := "OrderChains$Channel") (ty := .int) (ty0 := tyX1) 6 rfl il_X1_goOnAt_X1 tyX1_ok nmX1 rfl rfl fl_X1_goOnAt_30 rfl rfl rfl rfl rfl rfl dX1_goOnAt_8 ?_
  dsimp only [List.set_cons_zero, List.set_cons_succ]
  refine V_aload_n (i := 0) dX1_goOnAt_11 rfl rfl ?_
  refine V_iload_n (i := 1) dX1_goOnAt_12 rfl rfl ?_
  refine V_put (C := RX1) (T := TX1) (N := 13) (ci := 1) (q := 0) (ref := "OrderChains$Channel") (ty := .int) (ty0 := tyX1) 1 rfl il_X1_goOnAt_X1 tyX1_ok nmX1 rfl rfl fl_X1_goOnAt_15 rfl rfl rfl rfl rfl rfl dX1_goOnAt_13 ?_
  dsimp only [List.set_cons_zero, List.set_cons_succ]
  refine V_vret hR dX1_goOnAt_16 hkc hks ?_
  exact ⟨rfl, rfl⟩

abbrev rX1_hasOrder : Room := { frames := 0, cells := 0, slots := 0, locals := 0 }
theorem vy_X1_hasOrder : vY yX1_hasOrder wsX1_hasOrder cX1_hasOrder 1 (some .boolean) 0 := ⟨⟨_, rfl⟩, by decide +kernel, by decide +kernel, by decide +kernel⟩
theorem fl_X1_hasOrder_27 : Cond.fieldLink RX1 27 "OrderChains$Channel" "place" "I" ∈ wsX1_hasOrder := List.mem_of_getElem? (i := 1) rfl
theorem il_X1_hasOrder_X1 : ∀ w ∈ wsX10, w ∈ wsX1_hasOrder := fun _ h => List.mem_cons_of_mem _ (List.mem_append_right _ h)
set_option maxHeartbeats 4000000 in
set_option maxRecDepth 100000 in
/-- Channel.hasOrder -/
theorem c_X1_hasOrder (l : Launch) (G : vG) (b : Nat) (q : Nat → Nat) (h5 : q 5 < 4294967296) : Kc l G yX1_hasOrder wsX1_hasOrder rX1_hasOrder [.ref b] [cX b q] (fun v Y => v = some (.int (nI (if q 5 = 4294967287 then 0 else 1))) ∧ Y = [cX b q]) 0 0 := by
  refine V_enter (own := RX1) [some (.ref b)] (by decide +kernel) rfl rfl (Nat.le_of_ble_eq_true rfl) rfl (fun Γ hR hin => ?_)
  have hkc : 0 ≤ 0 := Nat.le_refl 0
  have hks : 0 ≤ 0 := Nat.le_refl 0
  refine V_aload_n (i := 0) dX1_hasOrder_0 rfl rfl ?_
  refine V_get (C := RX1) (T := TX1) (N := 13) (ci := 1) (q := 0) (ref := "OrderChains$Channel") 5 rfl il_X1_hasOrder_X1 rfl rfl fl_X1_hasOrder_27 rfl rfl dX1_hasOrder_1 ?_
  refine V_bipush (v := 4294967287) dX1_hasOrder_4 (by decide) ?_
  refine V_icmp_eq (tgt := 13) (by omega) (by omega) dX1_hasOrder_6 rfl (fun h_6 => ?_) (fun h_6 => ?_)
  · refine V_iconst (v := 0) dX1_hasOrder_13 rfl ?_
    refine V_zret hR dX1_hasOrder_14 (by first | exact Or.inl rfl | exact Or.inr rfl | omega) hkc hks ?_
    first | exact ⟨by rw [if_pos h_6], rfl⟩ | exact ⟨by rw [if_neg h_6], rfl⟩
  · refine V_iconst (v := 1) dX1_hasOrder_9 rfl ?_
    refine V_goto (tgt := 14) dX1_hasOrder_10 rfl ?_
    refine V_zret hR dX1_hasOrder_14 (by first | exact Or.inl rfl | exact Or.inr rfl | omega) hkc hks ?_
    first | exact ⟨by rw [if_pos h_6], rfl⟩ | exact ⟨by rw [if_neg h_6], rfl⟩

abbrev rX1_unitsLeft : Room := { frames := 1, cells := 0, slots := 0, locals := 20 }
theorem vy_X1_unitsLeft : vY yX1_unitsLeft wsX1_unitsLeft cX1_unitsLeft 1 (some .int) 0 := ⟨⟨_, rfl⟩, by decide +kernel, by decide +kernel, by decide +kernel⟩
theorem fl_X1_unitsLeft_33 : Cond.fieldLink RX1 33 "OrderChains$Channel" "kind" "I" ∈ wsX1_unitsLeft := List.mem_of_getElem? (i := 1) rfl
theorem il_X1_unitsLeft_X1 : ∀ w ∈ wsX10, w ∈ wsX1_unitsLeft := fun _ h => List.mem_cons_of_mem _ (List.mem_append_right _ h)
theorem fl_X1_unitsLeft_42 : Cond.fieldLink RX1 42 "OrderChains$Channel" "count" "I" ∈ wsX1_unitsLeft := List.mem_of_getElem? (i := 2) rfl
theorem fl_X1_unitsLeft_30 : Cond.fieldLink RX1 30 "OrderChains$Channel" "units" "I" ∈ wsX1_unitsLeft := List.mem_of_getElem? (i := 3) rfl
set_option maxHeartbeats 4000000 in
set_option maxRecDepth 100000 in
/-- Channel.unitsLeft -/
theorem c_X1_unitsLeft (l : Launch) (G : vG) (b : Nat) (q : Nat → Nat) (h5 : q 5 < 4294967296) (h7 : q 7 < 4294967296) (hu : q 5 ≠ 4294967287 → q 7 ≠ 6 → q 6 ≤ q 10) : Kc l G yX1_unitsLeft wsX1_unitsLeft rX1_unitsLeft [.ref b] [cX b q] (fun v Y => v = some (.int (nI (if q 5 = 4294967287 ∨ q 7 = 6 then 0 else q 10 - q 6))) ∧ Y = [cX b q]) 0 0 := by
  refine V_enter (own := RX1) [some (.ref b)] (by decide +kernel) rfl rfl (Nat.le_of_ble_eq_true rfl) rfl (fun Γ hR hin => ?_)
  have hkc : 0 ≤ 0 := Nat.le_refl 0
  have hks : 0 ≤ 0 := Nat.le_refl 0
  refine V_aload_n (i := 0) dX1_unitsLeft_0 rfl rfl ?_
  refine V_callV (C := RX1) (q := 0) (ci := 1) (As := []) (rest := []) [0] (c_X1_hasOrder l G b q h5) vy_X1_hasOrder gX1_unitsLeft_X1_hasOrder rfl rfl rfl rfl rfl rfl rfl ⟨rfl, rfl⟩ ⟨rfl, rfl⟩ ⟨Nat.zero_le _, Nat.zero_le _⟩ rfl dX1_unitsLeft_1 (fun v Y hE => ?_)
  obtain ⟨rfl, rfl⟩ := hE
  refine ⟨rfl, ?_⟩
  dsimp only [vfill, List.set_cons_zero, List.set_cons_succ, Option.toList, List.cons_append, List.nil_append, Nat.add_zero]
  refine V_if_eq (tgt := 28) (by split <;> decide) dX1_unitsLeft_4 rfl (fun h_4 => ?_) (fun h_4 => ?_)
  · refine V_iconst (v := 0) dX1_unitsLeft_28 rfl ?_
    refine V_iret hR dX1_unitsLeft_29 hkc hks ?_
    refine ⟨?_, rfl⟩
    first | (rw [if_pos (Or.inr h_13)]; done) | (rw [if_neg (fun z => z.elim (fun z => by rw [if_pos z] at h_4; exact h_4 rfl) h_13)]; done) | (by_cases z : q 5 = 4294967287; rw [if_pos (Or.inl z)]; rw [if_neg z] at h_4; exact absurd h_4 (by decide))
  · refine V_aload_n (i := 0) dX1_unitsLeft_7 rfl rfl ?_
    refine V_get (C := RX1) (T := TX1) (N := 13) (ci := 1) (q := 0) (ref := "OrderChains$Channel") 7 rfl il_X1_unitsLeft_X1 rfl rfl fl_X1_unitsLeft_33 rfl rfl dX1_unitsLeft_8 ?_
    refine V_bipush (v := 6) dX1_unitsLeft_11 (by decide) ?_
    refine V_icmp_eq (tgt := 28) (by omega) (by omega) dX1_unitsLeft_13 rfl (fun h_13 => ?_) (fun h_13 => ?_)
    · refine V_iconst (v := 0) dX1_unitsLeft_28 rfl ?_
      refine V_iret hR dX1_unitsLeft_29 hkc hks ?_
      refine ⟨?_, rfl⟩
      first | (rw [if_pos (Or.inr h_13)]; done) | (rw [if_neg (fun z => z.elim (fun z => by rw [if_pos z] at h_4; exact h_4 rfl) h_13)]; done) | (by_cases z : q 5 = 4294967287; rw [if_pos (Or.inl z)]; rw [if_neg z] at h_4; exact absurd h_4 (by decide))
    · refine V_aload_n (i := 0) dX1_unitsLeft_16 rfl rfl ?_
      refine V_get (C := RX1) (T := TX1) (N := 13) (ci := 1) (q := 0) (ref := "OrderChains$Channel") 10 rfl il_X1_unitsLeft_X1 rfl rfl fl_X1_unitsLeft_42 rfl rfl dX1_unitsLeft_17 ?_
      refine V_aload_n (i := 0) dX1_unitsLeft_20 rfl rfl ?_
      refine V_get (C := RX1) (T := TX1) (N := 13) (ci := 1) (q := 0) (ref := "OrderChains$Channel") 6 rfl il_X1_unitsLeft_X1 rfl rfl fl_X1_unitsLeft_30 rfl rfl dX1_unitsLeft_21 ?_
      refine V_isub dX1_unitsLeft_24 (hu (by intro z; rw [if_pos z] at h_4; exact h_4 rfl) h_13) ?_
      refine V_goto (tgt := 29) dX1_unitsLeft_25 rfl ?_
      refine V_iret hR dX1_unitsLeft_29 hkc hks ?_
      refine ⟨?_, rfl⟩
      first | (rw [if_pos (Or.inr h_13)]; done) | (rw [if_neg (fun z => z.elim (fun z => by rw [if_pos z] at h_4; exact h_4 rfl) h_13)]; done) | (by_cases z : q 5 = 4294967287; rw [if_pos (Or.inl z)]; rw [if_neg z] at h_4; exact absurd h_4 (by decide))

abbrev rX1_takeOrder : Room := { frames := 0, cells := 0, slots := 0, locals := 0 }
theorem vy_X1_takeOrder : vY yX1_takeOrder wsX1_takeOrder cX1_takeOrder 2 none 1 := ⟨⟨_, rfl⟩, by decide +kernel, by decide +kernel, by decide +kernel⟩
theorem fl_X1_takeOrder_15 : Cond.fieldLink RX1 15 "OrderChains$Channel" "head" "I" ∈ wsX1_takeOrder := List.mem_of_getElem? (i := 1) rfl
theorem il_X1_takeOrder_X1 : ∀ w ∈ wsX10, w ∈ wsX1_takeOrder := fun _ h => List.mem_cons_of_mem _ (List.mem_append_right _ h)
theorem fl_X1_takeOrder_27 : Cond.fieldLink RX1 27 "OrderChains$Channel" "place" "I" ∈ wsX1_takeOrder := List.mem_of_getElem? (i := 2) rfl
theorem fl_X1_takeOrder_33 : Cond.fieldLink RX1 33 "OrderChains$Channel" "kind" "I" ∈ wsX1_takeOrder := List.mem_of_getElem? (i := 3) rfl
theorem fl_X1_takeOrder_36 : Cond.fieldLink RX1 36 "OrderChains$Channel" "from" "I" ∈ wsX1_takeOrder := List.mem_of_getElem? (i := 4) rfl
theorem fl_X1_takeOrder_39 : Cond.fieldLink RX1 39 "OrderChains$Channel" "to" "I" ∈ wsX1_takeOrder := List.mem_of_getElem? (i := 5) rfl
theorem fl_X1_takeOrder_42 : Cond.fieldLink RX1 42 "OrderChains$Channel" "count" "I" ∈ wsX1_takeOrder := List.mem_of_getElem? (i := 6) rfl
theorem fl_X1_takeOrder_45 : Cond.fieldLink RX1 45 "OrderChains$Channel" "stride" "I" ∈ wsX1_takeOrder := List.mem_of_getElem? (i := 7) rfl
theorem fl_X1_takeOrder_48 : Cond.fieldLink RX1 48 "OrderChains$Channel" "next" "I" ∈ wsX1_takeOrder := List.mem_of_getElem? (i := 8) rfl
theorem fl_X1_takeOrder_21 : Cond.fieldLink RX1 21 "OrderChains$Channel" "ordersRead" "I" ∈ wsX1_takeOrder := List.mem_of_getElem? (i := 9) rfl
set_option maxHeartbeats 4000000 in
set_option maxRecDepth 100000 in
/-- Channel.takeOrder -/
theorem c_X1_takeOrder (l : Launch) (G : vG) (b a : Nat) (q f : Nat → Nat) (hh : q 1 ≤ 90) : Kc l G yX1_takeOrder wsX1_takeOrder rX1_takeOrder [.ref b, .ref a] [cX b q, iA G a 96 f] (fun v Y => v = none ∧ Y = [cX b (qTake f q), iA G a 96 f]) 0 0 := by
  refine V_enter (own := RX1) [some (.ref b), some (.ref a)] (by decide +kernel) rfl rfl (Nat.le_of_ble_eq_true rfl) rfl (fun Γ hR hin => ?_)
  have hkc : 0 ≤ 0 := Nat.le_refl 0
  have hks : 0 ≤ 0 := Nat.le_refl 0
  refine V_aload_n (i := 0) dX1_takeOrder_0 rfl rfl ?_
  refine V_aload_n (i := 0) dX1_takeOrder_1 rfl rfl ?_
  refine V_get (C := RX1) (T := TX1) (N := 13) (ci := 1) (q := 0) (ref := "OrderChains$Channel") 1 rfl il_X1_takeOrder_X1 rfl rfl fl_X1_takeOrder_15 rfl rfl dX1_takeOrder_2 ?_
  refine V_put (C := RX1) (T := TX1) (N := 13) (ci := 1) (q := 0) (ref := "OrderChains$Channel") (ty := .int) (ty0 := tyX1) 5 rfl il_X1_takeOrder_X1 tyX1_ok nmX1 rfl rfl fl_X1_takeOrder_27 rfl rfl rfl rfl rfl rfl dX1_takeOrder_5 ?_
  dsimp only [List.set_cons_zero, List.set_cons_succ]
  refine V_aload_n (i := 0) dX1_takeOrder_8 rfl rfl ?_
  refine V_aload_n (i := 1) dX1_takeOrder_9 rfl rfl ?_
  refine V_aload_n (i := 0) dX1_takeOrder_10 rfl rfl ?_
  refine V_get (C := RX1) (T := TX1) (N := 13) (ci := 1) (q := 0) (ref := "OrderChains$Channel") 1 rfl il_X1_takeOrder_X1 rfl rfl fl_X1_takeOrder_15 rfl rfl dX1_takeOrder_11 ?_
  refine V_iald (q := 1) rfl (by omega) rfl dX1_takeOrder_14 ?_
  refine V_put (C := RX1) (T := TX1) (N := 13) (ci := 1) (q := 0) (ref := "OrderChains$Channel") (ty := .int) (ty0 := tyX1) 7 rfl il_X1_takeOrder_X1 tyX1_ok nmX1 rfl rfl fl_X1_takeOrder_33 rfl rfl rfl rfl rfl rfl dX1_takeOrder_15 ?_
  dsimp only [List.set_cons_zero, List.set_cons_succ]
  refine V_aload_n (i := 0) dX1_takeOrder_18 rfl rfl ?_
  refine V_aload_n (i := 1) dX1_takeOrder_19 rfl rfl ?_
  refine V_aload_n (i := 0) dX1_takeOrder_20 rfl rfl ?_
  refine V_get (C := RX1) (T := TX1) (N := 13) (ci := 1) (q := 0) (ref := "OrderChains$Channel") 1 rfl il_X1_takeOrder_X1 rfl rfl fl_X1_takeOrder_15 rfl rfl dX1_takeOrder_21 ?_
  refine V_iconst (v := 1) dX1_takeOrder_24 rfl ?_
  refine V_iadd dX1_takeOrder_25 ?_
  refine V_iald (q := 1) rfl (by omega) rfl dX1_takeOrder_26 ?_
  refine V_put (C := RX1) (T := TX1) (N := 13) (ci := 1) (q := 0) (ref := "OrderChains$Channel") (ty := .int) (ty0 := tyX1) 8 rfl il_X1_takeOrder_X1 tyX1_ok nmX1 rfl rfl fl_X1_takeOrder_36 rfl rfl rfl rfl rfl rfl dX1_takeOrder_27 ?_
  dsimp only [List.set_cons_zero, List.set_cons_succ]
  refine V_aload_n (i := 0) dX1_takeOrder_30 rfl rfl ?_
  refine V_aload_n (i := 1) dX1_takeOrder_31 rfl rfl ?_
  refine V_aload_n (i := 0) dX1_takeOrder_32 rfl rfl ?_
  refine V_get (C := RX1) (T := TX1) (N := 13) (ci := 1) (q := 0) (ref := "OrderChains$Channel") 1 rfl il_X1_takeOrder_X1 rfl rfl fl_X1_takeOrder_15 rfl rfl dX1_takeOrder_33 ?_
  refine V_iconst (v := 2) dX1_takeOrder_36 rfl ?_
  refine V_iadd dX1_takeOrder_37 ?_
  refine V_iald (q := 1) rfl (by omega) rfl dX1_takeOrder_38 ?_
  refine V_put (C := RX1) (T := TX1) (N := 13) (ci := 1) (q := 0) (ref := "OrderChains$Channel") (ty := .int) (ty0 := tyX1) 9 rfl il_X1_takeOrder_X1 tyX1_ok nmX1 rfl rfl fl_X1_takeOrder_39 rfl rfl rfl rfl rfl rfl dX1_takeOrder_39 ?_
  dsimp only [List.set_cons_zero, List.set_cons_succ]
  refine V_aload_n (i := 0) dX1_takeOrder_42 rfl rfl ?_
  refine V_aload_n (i := 1) dX1_takeOrder_43 rfl rfl ?_
  refine V_aload_n (i := 0) dX1_takeOrder_44 rfl rfl ?_
  refine V_get (C := RX1) (T := TX1) (N := 13) (ci := 1) (q := 0) (ref := "OrderChains$Channel") 1 rfl il_X1_takeOrder_X1 rfl rfl fl_X1_takeOrder_15 rfl rfl dX1_takeOrder_45 ?_
  refine V_iconst (v := 3) dX1_takeOrder_48 rfl ?_
  refine V_iadd dX1_takeOrder_49 ?_
  refine V_iald (q := 1) rfl (by omega) rfl dX1_takeOrder_50 ?_
  refine V_put (C := RX1) (T := TX1) (N := 13) (ci := 1) (q := 0) (ref := "OrderChains$Channel") (ty := .int) (ty0 := tyX1) 10 rfl il_X1_takeOrder_X1 tyX1_ok nmX1 rfl rfl fl_X1_takeOrder_42 rfl rfl rfl rfl rfl rfl dX1_takeOrder_51 ?_
  dsimp only [List.set_cons_zero, List.set_cons_succ]
  refine V_aload_n (i := 0) dX1_takeOrder_54 rfl rfl ?_
  refine V_aload_n (i := 1) dX1_takeOrder_55 rfl rfl ?_
  refine V_aload_n (i := 0) dX1_takeOrder_56 rfl rfl ?_
  refine V_get (C := RX1) (T := TX1) (N := 13) (ci := 1) (q := 0) (ref := "OrderChains$Channel") 1 rfl il_X1_takeOrder_X1 rfl rfl fl_X1_takeOrder_15 rfl rfl dX1_takeOrder_57 ?_
  refine V_iconst (v := 4) dX1_takeOrder_60 rfl ?_
  refine V_iadd dX1_takeOrder_61 ?_
  refine V_iald (q := 1) rfl (by omega) rfl dX1_takeOrder_62 ?_
  refine V_put (C := RX1) (T := TX1) (N := 13) (ci := 1) (q := 0) (ref := "OrderChains$Channel") (ty := .int) (ty0 := tyX1) 11 rfl il_X1_takeOrder_X1 tyX1_ok nmX1 rfl rfl fl_X1_takeOrder_45 rfl rfl rfl rfl rfl rfl dX1_takeOrder_63 ?_
  dsimp only [List.set_cons_zero, List.set_cons_succ]
  refine V_aload_n (i := 0) dX1_takeOrder_66 rfl rfl ?_
  refine V_aload_n (i := 1) dX1_takeOrder_67 rfl rfl ?_
  refine V_aload_n (i := 0) dX1_takeOrder_68 rfl rfl ?_
  refine V_get (C := RX1) (T := TX1) (N := 13) (ci := 1) (q := 0) (ref := "OrderChains$Channel") 1 rfl il_X1_takeOrder_X1 rfl rfl fl_X1_takeOrder_15 rfl rfl dX1_takeOrder_69 ?_
  refine V_iconst (v := 5) dX1_takeOrder_72 rfl ?_
  refine V_iadd dX1_takeOrder_73 ?_
  refine V_iald (q := 1) rfl (by omega) rfl dX1_takeOrder_74 ?_
  refine V_put (C := RX1) (T := TX1) (N := 13) (ci := 1) (q := 0) (ref := "OrderChains$Channel") (ty := .int) (ty0 := tyX1) 12 rfl il_X1_takeOrder_X1 tyX1_ok nmX1 rfl rfl fl_X1_takeOrder_48 rfl rfl rfl rfl rfl rfl dX1_takeOrder_75 ?_
  dsimp only [List.set_cons_zero, List.set_cons_succ]
  refine V_aload_n (i := 0) dX1_takeOrder_78 rfl rfl ?_
  refine V_dup dX1_takeOrder_79 rfl ?_
  refine V_get (C := RX1) (T := TX1) (N := 13) (ci := 1) (q := 0) (ref := "OrderChains$Channel") 3 rfl il_X1_takeOrder_X1 rfl rfl fl_X1_takeOrder_21 rfl rfl dX1_takeOrder_80 ?_
  refine V_iconst (v := 1) dX1_takeOrder_83 rfl ?_
  refine V_iadd dX1_takeOrder_84 ?_
  refine V_put (C := RX1) (T := TX1) (N := 13) (ci := 1) (q := 0) (ref := "OrderChains$Channel") (ty := .int) (ty0 := tyX1) 3 rfl il_X1_takeOrder_X1 tyX1_ok nmX1 rfl rfl fl_X1_takeOrder_21 rfl rfl rfl rfl rfl rfl dX1_takeOrder_85 ?_
  dsimp only [List.set_cons_zero, List.set_cons_succ]
  refine V_vret hR dX1_takeOrder_88 hkc hks ?_
  exact ⟨rfl, rfl⟩

abbrev rX1_copyFrom : Room := { frames := 0, cells := 0, slots := 0, locals := 0 }
theorem vy_X1_copyFrom : vY yX1_copyFrom wsX1_copyFrom cX1_copyFrom 2 none 1 := ⟨⟨_, rfl⟩, by decide +kernel, by decide +kernel, by decide +kernel⟩
theorem fl_X1_copyFrom_9 : Cond.fieldLink RX1 9 "OrderChains$Channel" "condition" "I" ∈ wsX1_copyFrom := List.mem_of_getElem? (i := 1) rfl
theorem il_X1_copyFrom_X1 : ∀ w ∈ wsX10, w ∈ wsX1_copyFrom := fun _ h => List.mem_cons_of_mem _ (List.mem_append_right _ h)
theorem fl_X1_copyFrom_15 : Cond.fieldLink RX1 15 "OrderChains$Channel" "head" "I" ∈ wsX1_copyFrom := List.mem_of_getElem? (i := 2) rfl
theorem fl_X1_copyFrom_18 : Cond.fieldLink RX1 18 "OrderChains$Channel" "cause" "I" ∈ wsX1_copyFrom := List.mem_of_getElem? (i := 3) rfl
theorem fl_X1_copyFrom_21 : Cond.fieldLink RX1 21 "OrderChains$Channel" "ordersRead" "I" ∈ wsX1_copyFrom := List.mem_of_getElem? (i := 4) rfl
theorem fl_X1_copyFrom_24 : Cond.fieldLink RX1 24 "OrderChains$Channel" "cellsWritten" "I" ∈ wsX1_copyFrom := List.mem_of_getElem? (i := 5) rfl
theorem fl_X1_copyFrom_27 : Cond.fieldLink RX1 27 "OrderChains$Channel" "place" "I" ∈ wsX1_copyFrom := List.mem_of_getElem? (i := 6) rfl
theorem fl_X1_copyFrom_30 : Cond.fieldLink RX1 30 "OrderChains$Channel" "units" "I" ∈ wsX1_copyFrom := List.mem_of_getElem? (i := 7) rfl
theorem fl_X1_copyFrom_33 : Cond.fieldLink RX1 33 "OrderChains$Channel" "kind" "I" ∈ wsX1_copyFrom := List.mem_of_getElem? (i := 8) rfl
theorem fl_X1_copyFrom_36 : Cond.fieldLink RX1 36 "OrderChains$Channel" "from" "I" ∈ wsX1_copyFrom := List.mem_of_getElem? (i := 9) rfl
theorem fl_X1_copyFrom_39 : Cond.fieldLink RX1 39 "OrderChains$Channel" "to" "I" ∈ wsX1_copyFrom := List.mem_of_getElem? (i := 10) rfl
theorem fl_X1_copyFrom_42 : Cond.fieldLink RX1 42 "OrderChains$Channel" "count" "I" ∈ wsX1_copyFrom := List.mem_of_getElem? (i := 11) rfl
theorem fl_X1_copyFrom_45 : Cond.fieldLink RX1 45 "OrderChains$Channel" "stride" "I" ∈ wsX1_copyFrom := List.mem_of_getElem? (i := 12) rfl
theorem fl_X1_copyFrom_48 : Cond.fieldLink RX1 48 "OrderChains$Channel" "next" "I" ∈ wsX1_copyFrom := List.mem_of_getElem? (i := 13) rfl
set_option maxHeartbeats 4000000 in
set_option maxRecDepth 100000 in
/-- Channel.copyFrom -/
theorem c_X1_copyFrom (l : Launch) (G : vG) (b b2 : Nat) (q p : Nat → Nat) : Kc l G yX1_copyFrom wsX1_copyFrom rX1_copyFrom [.ref b, .ref b2] [cX b q, cX b2 p] (fun v Y => v = none ∧ Y = [cX b p, cX b2 p]) 0 0 := by
  refine V_enter (own := RX1) [some (.ref b), some (.ref b2)] (by decide +kernel) rfl rfl (Nat.le_of_ble_eq_true rfl) rfl (fun Γ hR hin => ?_)
  have hkc : 0 ≤ 0 := Nat.le_refl 0
  have hks : 0 ≤ 0 := Nat.le_refl 0
  refine V_aload_n (i := 0) dX1_copyFrom_0 rfl rfl ?_
  refine V_aload_n (i := 1) dX1_copyFrom_1 rfl rfl ?_
  refine V_get (C := RX1) (T := TX1) (N := 13) (ci := 1) (q := 1) (ref := "OrderChains$Channel") 0 rfl il_X1_copyFrom_X1 rfl rfl fl_X1_copyFrom_9 rfl rfl dX1_copyFrom_2 ?_
  refine V_put (C := RX1) (T := TX1) (N := 13) (ci := 1) (q := 0) (ref := "OrderChains$Channel") (ty := .int) (ty0 := tyX1) 0 rfl il_X1_copyFrom_X1 tyX1_ok nmX1 rfl rfl fl_X1_copyFrom_9 rfl rfl rfl rfl rfl rfl dX1_copyFrom_5 ?_
  dsimp only [List.set_cons_zero, List.set_cons_succ]
  refine V_aload_n (i := 0) dX1_copyFrom_8 rfl rfl ?_
  refine V_aload_n (i := 1) dX1_copyFrom_9 rfl rfl ?_
  refine V_get (C := RX1) (T := TX1) (N := 13) (ci := 1) (q := 1) (ref := "OrderChains$Channel") 1 rfl il_X1_copyFrom_X1 rfl rfl fl_X1_copyFrom_15 rfl rfl dX1_copyFrom_10 ?_
  refine V_put (C := RX1) (T := TX1) (N := 13) (ci := 1) (q := 0) (ref := "OrderChains$Channel") (ty := .int) (ty0 := tyX1) 1 rfl il_X1_copyFrom_X1 tyX1_ok nmX1 rfl rfl fl_X1_copyFrom_15 rfl rfl rfl rfl rfl rfl dX1_copyFrom_13 ?_
  dsimp only [List.set_cons_zero, List.set_cons_succ]
  refine V_aload_n (i := 0) dX1_copyFrom_16 rfl rfl ?_
  refine V_aload_n (i := 1) dX1_copyFrom_17 rfl rfl ?_
  refine V_get (C := RX1) (T := TX1) (N := 13) (ci := 1) (q := 1) (ref := "OrderChains$Channel") 2 rfl il_X1_copyFrom_X1 rfl rfl fl_X1_copyFrom_18 rfl rfl dX1_copyFrom_18 ?_
  refine V_put (C := RX1) (T := TX1) (N := 13) (ci := 1) (q := 0) (ref := "OrderChains$Channel") (ty := .int) (ty0 := tyX1) 2 rfl il_X1_copyFrom_X1 tyX1_ok nmX1 rfl rfl fl_X1_copyFrom_18 rfl rfl rfl rfl rfl rfl dX1_copyFrom_21 ?_
  dsimp only [List.set_cons_zero, List.set_cons_succ]
  refine V_aload_n (i := 0) dX1_copyFrom_24 rfl rfl ?_
  refine V_aload_n (i := 1) dX1_copyFrom_25 rfl rfl ?_
  refine V_get (C := RX1) (T := TX1) (N := 13) (ci := 1) (q := 1) (ref := "OrderChains$Channel") 3 rfl il_X1_copyFrom_X1 rfl rfl fl_X1_copyFrom_21 rfl rfl dX1_copyFrom_26 ?_
  refine V_put (C := RX1) (T := TX1) (N := 13) (ci := 1) (q := 0) (ref := "OrderChains$Channel") (ty := .int) (ty0 := tyX1) 3 rfl il_X1_copyFrom_X1 tyX1_ok nmX1 rfl rfl fl_X1_copyFrom_21 rfl rfl rfl rfl rfl rfl dX1_copyFrom_29 ?_
  dsimp only [List.set_cons_zero, List.set_cons_succ]
  refine V_aload_n (i := 0) dX1_copyFrom_32 rfl rfl ?_
  refine V_aload_n (i := 1) dX1_copyFrom_33 rfl rfl ?_
  refine V_get (C := RX1) (T := TX1) (N := 13) (ci := 1) (q := 1) (ref := "OrderChains$Channel") 4 rfl il_X1_copyFrom_X1 rfl rfl fl_X1_copyFrom_24 rfl rfl dX1_copyFrom_34 ?_
  refine V_put (C := RX1) (T := TX1) (N := 13) (ci := 1) (q := 0) (ref := "OrderChains$Channel") (ty := .int) (ty0 := tyX1) 4 rfl il_X1_copyFrom_X1 tyX1_ok nmX1 rfl rfl fl_X1_copyFrom_24 rfl rfl rfl rfl rfl rfl dX1_copyFrom_37 ?_
  dsimp only [List.set_cons_zero, List.set_cons_succ]
  refine V_aload_n (i := 0) dX1_copyFrom_40 rfl rfl ?_
  refine V_aload_n (i := 1) dX1_copyFrom_41 rfl rfl ?_
  refine V_get (C := RX1) (T := TX1) (N := 13) (ci := 1) (q := 1) (ref := "OrderChains$Channel") 5 rfl il_X1_copyFrom_X1 rfl rfl fl_X1_copyFrom_27 rfl rfl dX1_copyFrom_42 ?_
  refine V_put (C := RX1) (T := TX1) (N := 13) (ci := 1) (q := 0) (ref := "OrderChains$Channel") (ty := .int) (ty0 := tyX1) 5 rfl il_X1_copyFrom_X1 tyX1_ok nmX1 rfl rfl fl_X1_copyFrom_27 rfl rfl rfl rfl rfl rfl dX1_copyFrom_45 ?_
  dsimp only [List.set_cons_zero, List.set_cons_succ]
  refine V_aload_n (i := 0) dX1_copyFrom_48 rfl rfl ?_
  refine V_aload_n (i := 1) dX1_copyFrom_49 rfl rfl ?_
  refine V_get (C := RX1) (T := TX1) (N := 13) (ci := 1) (q := 1) (ref := "OrderChains$Channel") 6 rfl il_X1_copyFrom_X1 rfl rfl fl_X1_copyFrom_30 rfl rfl dX1_copyFrom_50 ?_
  refine V_put (C := RX1) (T := TX1) (N := 13) (ci := 1) (q := 0) (ref := "OrderChains$Channel") (ty := .int) (ty0 := tyX1) 6 rfl il_X1_copyFrom_X1 tyX1_ok nmX1 rfl rfl fl_X1_copyFrom_30 rfl rfl rfl rfl rfl rfl dX1_copyFrom_53 ?_
  dsimp only [List.set_cons_zero, List.set_cons_succ]
  refine V_aload_n (i := 0) dX1_copyFrom_56 rfl rfl ?_
  refine V_aload_n (i := 1) dX1_copyFrom_57 rfl rfl ?_
  refine V_get (C := RX1) (T := TX1) (N := 13) (ci := 1) (q := 1) (ref := "OrderChains$Channel") 7 rfl il_X1_copyFrom_X1 rfl rfl fl_X1_copyFrom_33 rfl rfl dX1_copyFrom_58 ?_
  refine V_put (C := RX1) (T := TX1) (N := 13) (ci := 1) (q := 0) (ref := "OrderChains$Channel") (ty := .int) (ty0 := tyX1) 7 rfl il_X1_copyFrom_X1 tyX1_ok nmX1 rfl rfl fl_X1_copyFrom_33 rfl rfl rfl rfl rfl rfl dX1_copyFrom_61 ?_
  dsimp only [List.set_cons_zero, List.set_cons_succ]
  refine V_aload_n (i := 0) dX1_copyFrom_64 rfl rfl ?_
  refine V_aload_n (i := 1) dX1_copyFrom_65 rfl rfl ?_
  refine V_get (C := RX1) (T := TX1) (N := 13) (ci := 1) (q := 1) (ref := "OrderChains$Channel") 8 rfl il_X1_copyFrom_X1 rfl rfl fl_X1_copyFrom_36 rfl rfl dX1_copyFrom_66 ?_
  refine V_put (C := RX1) (T := TX1) (N := 13) (ci := 1) (q := 0) (ref := "OrderChains$Channel") (ty := .int) (ty0 := tyX1) 8 rfl il_X1_copyFrom_X1 tyX1_ok nmX1 rfl rfl fl_X1_copyFrom_36 rfl rfl rfl rfl rfl rfl dX1_copyFrom_69 ?_
  dsimp only [List.set_cons_zero, List.set_cons_succ]
  refine V_aload_n (i := 0) dX1_copyFrom_72 rfl rfl ?_
  refine V_aload_n (i := 1) dX1_copyFrom_73 rfl rfl ?_
  refine V_get (C := RX1) (T := TX1) (N := 13) (ci := 1) (q := 1) (ref := "OrderChains$Channel") 9 rfl il_X1_copyFrom_X1 rfl rfl fl_X1_copyFrom_39 rfl rfl dX1_copyFrom_74 ?_
  refine V_put (C := RX1) (T := TX1) (N := 13) (ci := 1) (q := 0) (ref := "OrderChains$Channel") (ty := .int) (ty0 := tyX1) 9 rfl il_X1_copyFrom_X1 tyX1_ok nmX1 rfl rfl fl_X1_copyFrom_39 rfl rfl rfl rfl rfl rfl dX1_copyFrom_77 ?_
  dsimp only [List.set_cons_zero, List.set_cons_succ]
  refine V_aload_n (i := 0) dX1_copyFrom_80 rfl rfl ?_
  refine V_aload_n (i := 1) dX1_copyFrom_81 rfl rfl ?_
  refine V_get (C := RX1) (T := TX1) (N := 13) (ci := 1) (q := 1) (ref := "OrderChains$Channel") 10 rfl il_X1_copyFrom_X1 rfl rfl fl_X1_copyFrom_42 rfl rfl dX1_copyFrom_82 ?_
  refine V_put (C := RX1) (T := TX1) (N := 13) (ci := 1) (q := 0) (ref := "OrderChains$Channel") (ty := .int) (ty0 := tyX1) 10 rfl il_X1_copyFrom_X1 tyX1_ok nmX1 rfl rfl fl_X1_copyFrom_42 rfl rfl rfl rfl rfl rfl dX1_copyFrom_85 ?_
  dsimp only [List.set_cons_zero, List.set_cons_succ]
  refine V_aload_n (i := 0) dX1_copyFrom_88 rfl rfl ?_
  refine V_aload_n (i := 1) dX1_copyFrom_89 rfl rfl ?_
  refine V_get (C := RX1) (T := TX1) (N := 13) (ci := 1) (q := 1) (ref := "OrderChains$Channel") 11 rfl il_X1_copyFrom_X1 rfl rfl fl_X1_copyFrom_45 rfl rfl dX1_copyFrom_90 ?_
  refine V_put (C := RX1) (T := TX1) (N := 13) (ci := 1) (q := 0) (ref := "OrderChains$Channel") (ty := .int) (ty0 := tyX1) 11 rfl il_X1_copyFrom_X1 tyX1_ok nmX1 rfl rfl fl_X1_copyFrom_45 rfl rfl rfl rfl rfl rfl dX1_copyFrom_93 ?_
  dsimp only [List.set_cons_zero, List.set_cons_succ]
  refine V_aload_n (i := 0) dX1_copyFrom_96 rfl rfl ?_
  refine V_aload_n (i := 1) dX1_copyFrom_97 rfl rfl ?_
  refine V_get (C := RX1) (T := TX1) (N := 13) (ci := 1) (q := 1) (ref := "OrderChains$Channel") 12 rfl il_X1_copyFrom_X1 rfl rfl fl_X1_copyFrom_48 rfl rfl dX1_copyFrom_98 ?_
  refine V_put (C := RX1) (T := TX1) (N := 13) (ci := 1) (q := 0) (ref := "OrderChains$Channel") (ty := .int) (ty0 := tyX1) 12 rfl il_X1_copyFrom_X1 tyX1_ok nmX1 rfl rfl fl_X1_copyFrom_48 rfl rfl rfl rfl rfl rfl dX1_copyFrom_101 ?_
  dsimp only [List.set_cons_zero, List.set_cons_succ]
  refine V_vret hR dX1_copyFrom_104 hkc hks ?_
  exact ⟨rfl, rfl⟩

end CHAN
