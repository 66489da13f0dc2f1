section SCRIPT
theorem flX {G : vG} {a : Nat → Nat} {e : vE} : [eK G a e].flatten = (eX G a e).flatten := by
  show eK G a e ++ [] = _
  rw [List.append_nil]
  rfl
def sm (b n : Nat) : Nat := if b + n < 96 then b + n else 96
def setV (e : vE) (c v : Nat) : vE := (va_up e.1 c v, e.2)
def setO (e : vE) (o : Nat → Nat) : vE := (e.1, o, e.2.2)
def setC (e : vE) (h : Nat) (q : Nat → Nat) : vE := (e.1, e.2.1, e.2.2.1, e.2.2.2.1, e.2.2.2.2.1, e.2.2.2.2.2.1, va_up e.2.2.2.2.2.2 h q)
def scC (g : Nat) (e : vE) : Nat × vE :=
  if g / 10000 = 1 then (if 10 * (g / 1000 % 10) + g / 100 % 10 < 96 then (1, setV e (10 * (g / 1000 % 10) + g / 100 % 10) (10 * (g / 10 % 10) + g % 10)) else (0, e))
  else if g / 10000 = 2 then (if 10 * (g / 1000 % 10) + g / 100 % 10 = 0 then (if (runC (10 * (g / 10 % 10) + g % 10) e).1 = 0 then 0 else 1, (runC (10 * (g / 10 % 10) + g % 10) e).2) else (0, e))
  else if g / 10000 = 3 then (if g % 10 = 0 ∧ g / 1000 % 10 < 3 ∧ 10 * (g / 100 % 10) + g / 10 % 10 < 96 then (1, setC e (g / 1000 % 10) (qBegin (10 * (g / 100 % 10) + g / 10 % 10) (e.2.2.2.2.2.2 (g / 1000 % 10)))) else (0, e))
  else if g / 10000 = 4 then (if g / 100 % 10 = 0 ∧ 10 * (g / 10 % 10) + g % 10 = 0 ∧ g / 1000 % 10 < 3 ∧ e.2.2.2.2.2.2 (g / 1000 % 10) 0 = 1 then (1, setC e (g / 1000 % 10) (qBc 0 (e.2.2.2.2.2.2 (g / 1000 % 10)))) else (0, e))
  else if g / 10000 = 5 then (if 10 * (g / 1000 % 10) + g / 100 % 10 < 96 ∧ 1 ≤ g % 10 ∧ g / 10 % 10 < 4 then (1, setO e (gvF (10 * (g / 1000 % 10) + g / 100 % 10) (sm (10 * (g / 1000 % 10) + g / 100 % 10) (g % 10)) (g / 10 % 10) e.2.1)) else (0, e))
  else if g / 10000 = 6 then (if 10 * (g / 1000 % 10) + g / 100 % 10 < 96 ∧ e.1 (10 * (g / 1000 % 10) + g / 100 % 10) = 10 * (g / 10 % 10) + g % 10 then (1, e) else (0, e))
  else if g / 10000 = 7 then (if 10 * (g / 100 % 10) + g / 10 % 10 = 0 ∧ g / 1000 % 10 < 3 ∧ e.2.2.2.2.2.2 (g / 1000 % 10) 0 = g % 10 then (1, e) else (0, e))
  else if g / 10000 = 8 then (if g / 100 % 10 = 0 ∧ g / 1000 % 10 < 3 ∧ ¬ nI (e.2.2.2.2.2.2 (g / 1000 % 10) 4) < nI (10 * (g / 10 % 10) + g % 10) then (1, e) else (0, e))
  else if g / 10000 = 9 then (if 10 * (g / 1000 % 10) + g / 100 % 10 = 0 ∧ ¬ nI (10 * (g / 10 % 10) + g % 10) < nI (e.2.2.2.2.2.1 2) then (1, e) else (0, e))
  else (0, e)
theorem b01 {c : Prop} [Decidable c] (h : ¬ (if c then 1 else 0) = 0) : c := by
  by_cases z : c
  · exact z
  · rw [if_neg z] at h; exact absurd rfl h
theorem b00 {c : Prop} [Decidable c] (h : (if c then 1 else 0) = 0) : ¬ c := fun z => by rw [if_pos z] at h; exact absurd h (by decide)

abbrev rX4_setsValue : Room := { frames := 1, cells := 0, slots := 0, locals := 20 }
theorem vy_X4_setsValue : vY yX4_setsValue wsX4_setsValue cX4_setsValue 3 (some .boolean) 3 := ⟨⟨_, rfl⟩, by decide +kernel, by decide +kernel, by decide +kernel⟩
theorem st_X4_setsValue_X6_isCell : Cond.static yX6_isCell ∈ wsX4_setsValue := List.mem_of_getElem? (i := 2) rfl
theorem in_X4_setsValue_X6 : Cond.initialized RX6 ∈ wsX4_setsValue := List.mem_of_getElem? (i := 3) rfl
theorem fl_X4_setsValue_36 : Cond.fieldLink RX4 36 "OrderChains$Engine" "values" "[I" ∈ wsX4_setsValue := List.mem_of_getElem? (i := 1) rfl
theorem il_X4_setsValue_X2 : ∀ w ∈ wsX20, w ∈ wsX4_setsValue := fun _ h => List.mem_cons_of_mem _ (List.mem_append_right _ h)
set_option maxHeartbeats 4000000 in
set_option maxRecDepth 100000 in
/-- Script.setsValue -/
theorem c_X4_setsValue (l : Launch) (G : vG) (a val own mark lw bits s : Nat → Nat) (ch : Nat → Nat → Nat) (c v : Nat) (hc : c < 100) : Kc l G yX4_setsValue wsX4_setsValue rX4_setsValue [.ref (a 0), .int (nI c), .int (nI v)] [eO a s, iA G (a 1) 96 val, iA G (a 2) 96 own, iA G (a 3) 96 mark, iA G (a 4) 96 lw, eC G a, cX (a 6) (ch 0), cX (a 7) (ch 1), cX (a 8) (ch 2), iA G (a 9) 96 bits] (fun r Y => r = some (.int (nI (if c < 96 then 1 else 0))) ∧ Y = eX G a (if c < 96 then setV (val, own, mark, lw, bits, s, ch) c v else (val, own, mark, lw, bits, s, ch))) 0 0 := by
  refine V_enter (own := RX4) [some (.ref (a 0)), some (.int (nI c)), some (.int (nI v))] (by decide +kernel) rfl rfl (Nat.le_of_ble_eq_true rfl) rfl (fun Γ hR hin => ?_)
  have hkc : 0 ≤ 0 := Nat.le_refl 0
  have hks : 0 ≤ 0 := Nat.le_refl 0
  refine V_iload_n (i := 1) dX4_setsValue_0 rfl rfl ?_
  refine V_callSN (As := _) (rest := []) (host := RX6) [] (c_X6_isCell l G (c) (by omega)) vy_X6_isCell gX4_setsValue_X6_isCell_n32 (fun _ h => h.2.2.2.1) st_X4_setsValue_X6_isCell in_X4_setsValue_X6 rfl rfl rfl rfl ⟨rfl, rfl⟩ ⟨rfl, rfl⟩ ⟨Nat.zero_le _, Nat.zero_le _⟩ rfl dX4_setsValue_1 (fun v Y hE => ?_)
  obtain ⟨rfl, rfl⟩ := hE
  refine ⟨rfl, ?_⟩
  dsimp only [vfill, List.set_cons_zero, List.set_cons_succ, Option.toList, List.cons_append, List.nil_append, Nat.add_zero]
  refine V_if_ne (tgt := 9) (by split <;> decide) dX4_setsValue_4 rfl (fun h_4 => ?_) (fun h_4 => ?_)
  · have hz := b01 h_4
    refine V_aload_n (i := 0) dX4_setsValue_9 rfl rfl ?_
    refine V_get (C := RX2) (T := TX2) (N := 11) (ci := 2) (q := 0) (ref := "OrderChains$Engine") 0 rfl il_X4_setsValue_X2 rfl rfl fl_X4_setsValue_36 rfl rfl dX4_setsValue_10 ?_
    refine V_iload_n (i := 1) dX4_setsValue_13 rfl rfl ?_
    refine V_iload_n (i := 2) dX4_setsValue_14 rfl rfl ?_
    refine V_iast (q := 1) rfl (by omega) rfl dX4_setsValue_15 ?_
    dsimp only [List.set_cons_zero, List.set_cons_succ]
    refine V_iconst (v := 1) dX4_setsValue_16 rfl ?_
    refine V_zret hR dX4_setsValue_17 (by first | exact Or.inl rfl | exact Or.inr rfl | omega) hkc hks ?_
    rw [if_pos hz, if_pos hz]
    exact ⟨rfl, rfl⟩
  · refine V_iconst (v := 0) dX4_setsValue_7 rfl ?_
    refine V_zret hR dX4_setsValue_8 (by first | exact Or.inl rfl | exact Or.inr rfl | omega) hkc hks ?_
    rw [if_neg (b00 h_4), if_neg (b00 h_4)]
    exact ⟨rfl, rfl⟩

theorem c_X4_setsValueK (l : Launch) (G : vG) (a : Nat → Nat) (e : vE) (c v : Nat) (hc : c < 100) : Kc l G yX4_setsValue wsX4_setsValue rX4_setsValue [.ref (a 0), .int (nI c), .int (nI v)] [eK G a e] (fun r9 Y => r9 = some (.int (nI (if c < 96 then 1 else 0))) ∧ Y = [eK G a (if c < 96 then setV e c v else e)]) 0 0 := by
  obtain ⟨val, own, mark, lw, bits, s, ch⟩ := e
  refine (c_X4_setsValue l G a val own mark lw bits s ch c v hc).conv flX (fun r9 Y hE => ?_)
  obtain ⟨h1, rfl⟩ := hE
  exact ⟨_, flX, h1, rfl⟩
abbrev rX4_starts : Room := { frames := 2, cells := 0, slots := 0, locals := 42 }
theorem vy_X4_starts : vY yX4_starts wsX4_starts cX4_starts 3 (some .boolean) 3 := ⟨⟨_, rfl⟩, by decide +kernel, by decide +kernel, by decide +kernel⟩
theorem st_X4_starts_X6_isChannel : Cond.static yX6_isChannel ∈ wsX4_starts := List.mem_of_getElem? (i := 2) rfl
theorem in_X4_starts_X6 : Cond.initialized RX6 ∈ wsX4_starts := List.mem_of_getElem? (i := 3) rfl
theorem st_X4_starts_X6_isCell : Cond.static yX6_isCell ∈ wsX4_starts := List.mem_of_getElem? (i := 5) rfl
theorem fl_X4_starts_43 : Cond.fieldLink RX4 43 "OrderChains$Engine" "channels" "[LOrderChains$Channel;" ∈ wsX4_starts := List.mem_of_getElem? (i := 1) rfl
theorem il_X4_starts_X2 : ∀ w ∈ wsX20, w ∈ wsX4_starts := fun _ h => List.mem_cons_of_mem _ (List.mem_append_left _ (List.mem_append_right _ h))
set_option maxHeartbeats 4000000 in
set_option maxRecDepth 100000 in
/-- Script.starts -/
theorem c_X4_starts (l : Launch) (G : vG) (a val own mark lw bits s : Nat → Nat) (ch : Nat → Nat → Nat) (h c : Nat) (hh : h < 10) (hc : c < 100) : Kc l G yX4_starts wsX4_starts rX4_starts [.ref (a 0), .int (nI h), .int (nI c)] [eO a s, iA G (a 1) 96 val, iA G (a 2) 96 own, iA G (a 3) 96 mark, iA G (a 4) 96 lw, eC G a, cX (a 6) (ch 0), cX (a 7) (ch 1), cX (a 8) (ch 2), iA G (a 9) 96 bits] (fun r Y => r = some (.int (nI (if h < 3 ∧ c < 96 then 1 else 0))) ∧ Y = eX G a (if h < 3 ∧ c < 96 then setC (val, own, mark, lw, bits, s, ch) h (qBegin c (ch h)) else (val, own, mark, lw, bits, s, ch))) 0 0 := by
  refine V_enter (own := RX4) [some (.ref (a 0)), some (.int (nI h)), some (.int (nI c))] (by decide +kernel) rfl rfl (Nat.le_of_ble_eq_true rfl) rfl (fun Γ hR hin => ?_)
  have hkc : 0 ≤ 0 := Nat.le_refl 0
  have hks : 0 ≤ 0 := Nat.le_refl 0
  refine V_iload_n (i := 1) dX4_starts_0 rfl rfl ?_
  refine V_callSN (As := _) (rest := []) (host := RX6) [] (c_X6_isChannel l G (h) (by omega)) vy_X6_isChannel gX4_starts_X6_isChannel_n40 (fun _ h => h.2.2.2.2.1) st_X4_starts_X6_isChannel in_X4_starts_X6 rfl rfl rfl rfl ⟨rfl, rfl⟩ ⟨rfl, rfl⟩ ⟨Nat.zero_le _, Nat.zero_le _⟩ rfl dX4_starts_1 (fun v Y hE => ?_)
  obtain ⟨rfl, rfl⟩ := hE
  refine ⟨rfl, ?_⟩
  dsimp only [vfill, List.set_cons_zero, List.set_cons_succ, Option.toList, List.cons_append, List.nil_append, Nat.add_zero]
  refine V_if_eq (tgt := 14) (by split <;> decide) dX4_starts_4 rfl (fun h_4 => ?_) (fun h_4 => ?_)
  · refine V_iconst (v := 0) dX4_starts_14 rfl ?_
    refine V_zret hR dX4_starts_15 (by first | exact Or.inl rfl | exact Or.inr rfl | omega) hkc hks ?_
    have hz : ¬ (h < 3 ∧ c < 96) := fun z => by first | exact b00 h_4 z.1 | exact b00 h_11 z.2
    rw [if_neg hz, if_neg hz]
    exact ⟨rfl, rfl⟩
  · refine V_iload_n (i := 2) dX4_starts_7 rfl rfl ?_
    refine V_callSN (As := _) (rest := []) (host := RX6) [] (c_X6_isCell l G (c) (by omega)) vy_X6_isCell gX4_starts_X6_isCell_n32 (fun _ h => h.2.2.2.1) st_X4_starts_X6_isCell in_X4_starts_X6 rfl rfl rfl rfl ⟨rfl, rfl⟩ ⟨rfl, rfl⟩ ⟨Nat.zero_le _, Nat.zero_le _⟩ rfl dX4_starts_8 (fun v Y hE => ?_)
    obtain ⟨rfl, rfl⟩ := hE
    refine ⟨rfl, ?_⟩
    dsimp only [vfill, List.set_cons_zero, List.set_cons_succ, Option.toList, List.cons_append, List.nil_append, Nat.add_zero]
    refine V_if_ne (tgt := 16) (by split <;> decide) dX4_starts_11 rfl (fun h_11 => ?_) (fun h_11 => ?_)
    · have hz : h < 3 ∧ c < 96 := ⟨b01 h_4, b01 h_11⟩
      refine V_aload_n (i := 0) dX4_starts_16 rfl rfl ?_
      refine V_get (C := RX2) (T := TX2) (N := 11) (ci := 2) (q := 0) (ref := "OrderChains$Engine") 4 rfl il_X4_starts_X2 rfl rfl fl_X4_starts_43 rfl rfl dX4_starts_17 ?_
      rcases (show h = 0 ∨ h = 1 ∨ h = 2 by omega) with rfl | rfl | rfl
      · refine V_iload_n (i := 1) dX4_starts_20 rfl rfl ?_
        refine V_aaldC (q := 5) rfl (by omega) rfl dX4_starts_21 ?_
        refine V_iload_n (i := 2) dX4_starts_22 rfl rfl ?_
        refine V_callV (C := RX1) (q := 0) (ci := 1) (As := _) (rest := []) [6] (c_X1_beginAt l G (a 6) c (ch 0)) vy_X1_beginAt gX4_starts_X1_beginAt rfl rfl rfl rfl rfl rfl rfl ⟨rfl, rfl⟩ ⟨rfl, rfl⟩ ⟨Nat.zero_le _, Nat.zero_le _⟩ rfl dX4_starts_23 (fun v Y hE => ?_)
        obtain ⟨rfl, rfl⟩ := hE
        refine ⟨rfl, ?_⟩
        dsimp only [vfill, List.set_cons_zero, List.set_cons_succ, Option.toList, List.cons_append, List.nil_append, Nat.add_zero]
        refine V_iconst (v := 1) dX4_starts_26 rfl ?_
        refine V_zret hR dX4_starts_27 (by first | exact Or.inl rfl | exact Or.inr rfl | omega) hkc hks ?_
        rw [if_pos hz, if_pos hz]
        exact ⟨rfl, rfl⟩
      · refine V_iload_n (i := 1) dX4_starts_20 rfl rfl ?_
        refine V_aaldC (q := 5) rfl (by omega) rfl dX4_starts_21 ?_
        refine V_iload_n (i := 2) dX4_starts_22 rfl rfl ?_
        refine V_callV (C := RX1) (q := 0) (ci := 1) (As := _) (rest := []) [7] (c_X1_beginAt l G (a 7) c (ch 1)) vy_X1_beginAt gX4_starts_X1_beginAt rfl rfl rfl rfl rfl rfl rfl ⟨rfl, rfl⟩ ⟨rfl, rfl⟩ ⟨Nat.zero_le _, Nat.zero_le _⟩ rfl dX4_starts_23 (fun v Y hE => ?_)
        obtain ⟨rfl, rfl⟩ := hE
        refine ⟨rfl, ?_⟩
        dsimp only [vfill, List.set_cons_zero, List.set_cons_succ, Option.toList, List.cons_append, List.nil_append, Nat.add_zero]
        refine V_iconst (v := 1) dX4_starts_26 rfl ?_
        refine V_zret hR dX4_starts_27 (by first | exact Or.inl rfl | exact Or.inr rfl | omega) hkc hks ?_
        rw [if_pos hz, if_pos hz]
        exact ⟨rfl, rfl⟩
      · refine V_iload_n (i := 1) dX4_starts_20 rfl rfl ?_
        refine V_aaldC (q := 5) rfl (by omega) rfl dX4_starts_21 ?_
        refine V_iload_n (i := 2) dX4_starts_22 rfl rfl ?_
        refine V_callV (C := RX1) (q := 0) (ci := 1) (As := _) (rest := []) [8] (c_X1_beginAt l G (a 8) c (ch 2)) vy_X1_beginAt gX4_starts_X1_beginAt rfl rfl rfl rfl rfl rfl rfl ⟨rfl, rfl⟩ ⟨rfl, rfl⟩ ⟨Nat.zero_le _, Nat.zero_le _⟩ rfl dX4_starts_23 (fun v Y hE => ?_)
        obtain ⟨rfl, rfl⟩ := hE
        refine ⟨rfl, ?_⟩
        dsimp only [vfill, List.set_cons_zero, List.set_cons_succ, Option.toList, List.cons_append, List.nil_append, Nat.add_zero]
        refine V_iconst (v := 1) dX4_starts_26 rfl ?_
        refine V_zret hR dX4_starts_27 (by first | exact Or.inl rfl | exact Or.inr rfl | omega) hkc hks ?_
        rw [if_pos hz, if_pos hz]
        exact ⟨rfl, rfl⟩
    · refine V_iconst (v := 0) dX4_starts_14 rfl ?_
      refine V_zret hR dX4_starts_15 (by first | exact Or.inl rfl | exact Or.inr rfl | omega) hkc hks ?_
      have hz : ¬ (h < 3 ∧ c < 96) := fun z => by first | exact b00 h_4 z.1 | exact b00 h_11 z.2
      rw [if_neg hz, if_neg hz]
      exact ⟨rfl, rfl⟩

theorem c_X4_startsK (l : Launch) (G : vG) (a : Nat → Nat) (e : vE) (h c : Nat) (hh : h < 10) (hc : c < 100) : Kc l G yX4_starts wsX4_starts rX4_starts [.ref (a 0), .int (nI h), .int (nI c)] [eK G a e] (fun r9 Y => r9 = some (.int (nI (if h < 3 ∧ c < 96 then 1 else 0))) ∧ Y = [eK G a (if h < 3 ∧ c < 96 then setC e h (qBegin c (e.2.2.2.2.2.2 h)) else e)]) 0 0 := by
  obtain ⟨val, own, mark, lw, bits, s, ch⟩ := e
  refine (c_X4_starts l G a val own mark lw bits s ch h c hh hc).conv flX (fun r9 Y hE => ?_)
  obtain ⟨h1, rfl⟩ := hE
  exact ⟨_, flX, h1, rfl⟩
abbrev rX4_stops : Room := { frames := 1, cells := 0, slots := 0, locals := 21 }
theorem vy_X4_stops : vY yX4_stops wsX4_stops cX4_stops 2 (some .boolean) 2 := ⟨⟨_, rfl⟩, by decide +kernel, by decide +kernel, by decide +kernel⟩
theorem st_X4_stops_X6_isChannel : Cond.static yX6_isChannel ∈ wsX4_stops := List.mem_of_getElem? (i := 3) rfl
theorem in_X4_stops_X6 : Cond.initialized RX6 ∈ wsX4_stops := List.mem_of_getElem? (i := 4) rfl
theorem fl_X4_stops_43 : Cond.fieldLink RX4 43 "OrderChains$Engine" "channels" "[LOrderChains$Channel;" ∈ wsX4_stops := List.mem_of_getElem? (i := 1) rfl
theorem il_X4_stops_X2 : ∀ w ∈ wsX20, w ∈ wsX4_stops := fun _ h => List.mem_cons_of_mem _ (List.mem_append_left _ (List.mem_append_right _ h))
theorem fl_X4_stops_47 : Cond.fieldLink RX4 47 "OrderChains$Channel" "condition" "I" ∈ wsX4_stops := List.mem_of_getElem? (i := 2) rfl
theorem il_X4_stops_X1 : ∀ w ∈ wsX10, w ∈ wsX4_stops := fun _ h => List.mem_cons_of_mem _ (List.mem_append_right _ h)
set_option maxHeartbeats 4000000 in
set_option maxRecDepth 100000 in
/-- Script.stops -/
theorem c_X4_stops (l : Launch) (G : vG) (a val own mark lw bits s : Nat → Nat) (ch : Nat → Nat → Nat) (h : Nat) (hh : h < 10) (hq : ∀ h, h < 3 → ch h 0 < 4) : Kc l G yX4_stops wsX4_stops rX4_stops [.ref (a 0), .int (nI h)] [eO a s, iA G (a 1) 96 val, iA G (a 2) 96 own, iA G (a 3) 96 mark, iA G (a 4) 96 lw, eC G a, cX (a 6) (ch 0), cX (a 7) (ch 1), cX (a 8) (ch 2), iA G (a 9) 96 bits] (fun r Y => r = some (.int (nI (if h < 3 ∧ ch h 0 = 1 then 1 else 0))) ∧ Y = eX G a (if h < 3 ∧ ch h 0 = 1 then setC (val, own, mark, lw, bits, s, ch) h (qBc 0 (ch h)) else (val, own, mark, lw, bits, s, ch))) 0 0 := by
  refine V_enter (own := RX4) [some (.ref (a 0)), some (.int (nI h))] (by decide +kernel) rfl rfl (Nat.le_of_ble_eq_true rfl) rfl (fun Γ hR hin => ?_)
  have hkc : 0 ≤ 0 := Nat.le_refl 0
  have hks : 0 ≤ 0 := Nat.le_refl 0
  refine V_iload_n (i := 1) dX4_stops_0 rfl rfl ?_
  refine V_callSN (As := _) (rest := []) (host := RX6) [] (c_X6_isChannel l G (h) (by omega)) vy_X6_isChannel gX4_stops_X6_isChannel_n40 (fun _ h => h.2.2.2.2.1) st_X4_stops_X6_isChannel in_X4_stops_X6 rfl rfl rfl rfl ⟨rfl, rfl⟩ ⟨rfl, rfl⟩ ⟨Nat.zero_le _, Nat.zero_le _⟩ rfl dX4_stops_1 (fun v Y hE => ?_)
  obtain ⟨rfl, rfl⟩ := hE
  refine ⟨rfl, ?_⟩
  dsimp only [vfill, List.set_cons_zero, List.set_cons_succ, Option.toList, List.cons_append, List.nil_append, Nat.add_zero]
  refine V_if_eq (tgt := 20) (by split <;> decide) dX4_stops_4 rfl (fun h_4 => ?_) (fun h_4 => ?_)
  · refine V_iconst (v := 0) dX4_stops_20 rfl ?_
    refine V_zret hR dX4_stops_21 (by first | exact Or.inl rfl | exact Or.inr rfl | omega) hkc hks ?_
    first | (rw [if_neg (fun z => b00 h_4 z.1), if_neg (fun z => b00 h_4 z.1)]; exact ⟨rfl, rfl⟩) | (rw [if_neg (fun z => h_17 z.2), if_neg (fun z => h_17 z.2)]; exact ⟨rfl, rfl⟩)
  · have h3 : h < 3 := b01 h_4
    refine V_aload_n (i := 0) dX4_stops_7 rfl rfl ?_
    refine V_get (C := RX2) (T := TX2) (N := 11) (ci := 2) (q := 0) (ref := "OrderChains$Engine") 4 rfl il_X4_stops_X2 rfl rfl fl_X4_stops_43 rfl rfl dX4_stops_8 ?_
    rcases (show h = 0 ∨ h = 1 ∨ h = 2 by omega) with rfl | rfl | rfl
    · refine V_iload_n (i := 1) dX4_stops_11 rfl rfl ?_
      refine V_aaldC (q := 5) rfl (by omega) rfl dX4_stops_12 ?_
      refine V_get (C := RX1) (T := TX1) (N := 13) (ci := 1) (q := 6) (ref := "OrderChains$Channel") 0 rfl il_X4_stops_X1 rfl rfl fl_X4_stops_47 rfl rfl dX4_stops_13 ?_
      refine V_iconst (v := 1) dX4_stops_16 rfl ?_
      refine V_icmp_eq (tgt := 22) (by have := hq 0 (by omega); have := hq 1 (by omega); have := hq 2 (by omega); omega) (by omega) dX4_stops_17 rfl (fun h_17 => ?_) (fun h_17 => ?_)
      · refine V_aload_n (i := 0) dX4_stops_22 rfl rfl ?_
        refine V_get (C := RX2) (T := TX2) (N := 11) (ci := 2) (q := 0) (ref := "OrderChains$Engine") 4 rfl il_X4_stops_X2 rfl rfl fl_X4_stops_43 rfl rfl dX4_stops_23 ?_
        refine V_iload_n (i := 1) dX4_stops_26 rfl rfl ?_
        refine V_aaldC (q := 5) rfl (by omega) rfl dX4_stops_27 ?_
        refine V_iconst (v := 0) dX4_stops_28 rfl ?_
        refine V_callV (C := RX1) (q := 0) (ci := 1) (As := _) (rest := []) [6] (c_X1_become l G (a 6) 0 (ch 0)) vy_X1_become gX4_stops_X1_become rfl rfl rfl rfl rfl rfl rfl ⟨rfl, rfl⟩ ⟨rfl, rfl⟩ ⟨Nat.zero_le _, Nat.zero_le _⟩ rfl dX4_stops_29 (fun v Y hE => ?_)
        obtain ⟨rfl, rfl⟩ := hE
        refine ⟨rfl, ?_⟩
        dsimp only [vfill, List.set_cons_zero, List.set_cons_succ, Option.toList, List.cons_append, List.nil_append, Nat.add_zero]
        refine V_iconst (v := 1) dX4_stops_32 rfl ?_
        refine V_zret hR dX4_stops_33 (by first | exact Or.inl rfl | exact Or.inr rfl | omega) hkc hks ?_
        rw [if_pos ⟨by decide, h_17⟩, if_pos ⟨by decide, h_17⟩]
        exact ⟨rfl, rfl⟩
      · refine V_iconst (v := 0) dX4_stops_20 rfl ?_
        refine V_zret hR dX4_stops_21 (by first | exact Or.inl rfl | exact Or.inr rfl | omega) hkc hks ?_
        first | (rw [if_neg (fun z => b00 h_4 z.1), if_neg (fun z => b00 h_4 z.1)]; exact ⟨rfl, rfl⟩) | (rw [if_neg (fun z => h_17 z.2), if_neg (fun z => h_17 z.2)]; exact ⟨rfl, rfl⟩)
    · refine V_iload_n (i := 1) dX4_stops_11 rfl rfl ?_
      refine V_aaldC (q := 5) rfl (by omega) rfl dX4_stops_12 ?_
      refine V_get (C := RX1) (T := TX1) (N := 13) (ci := 1) (q := 7) (ref := "OrderChains$Channel") 0 rfl il_X4_stops_X1 rfl rfl fl_X4_stops_47 rfl rfl dX4_stops_13 ?_
      refine V_iconst (v := 1) dX4_stops_16 rfl ?_
      refine V_icmp_eq (tgt := 22) (by have := hq 0 (by omega); have := hq 1 (by omega); have := hq 2 (by omega); omega) (by omega) dX4_stops_17 rfl (fun h_17 => ?_) (fun h_17 => ?_)
      · refine V_aload_n (i := 0) dX4_stops_22 rfl rfl ?_
        refine V_get (C := RX2) (T := TX2) (N := 11) (ci := 2) (q := 0) (ref := "OrderChains$Engine") 4 rfl il_X4_stops_X2 rfl rfl fl_X4_stops_43 rfl rfl dX4_stops_23 ?_
        refine V_iload_n (i := 1) dX4_stops_26 rfl rfl ?_
        refine V_aaldC (q := 5) rfl (by omega) rfl dX4_stops_27 ?_
        refine V_iconst (v := 0) dX4_stops_28 rfl ?_
        refine V_callV (C := RX1) (q := 0) (ci := 1) (As := _) (rest := []) [7] (c_X1_become l G (a 7) 0 (ch 1)) vy_X1_become gX4_stops_X1_become rfl rfl rfl rfl rfl rfl rfl ⟨rfl, rfl⟩ ⟨rfl, rfl⟩ ⟨Nat.zero_le _, Nat.zero_le _⟩ rfl dX4_stops_29 (fun v Y hE => ?_)
        obtain ⟨rfl, rfl⟩ := hE
        refine ⟨rfl, ?_⟩
        dsimp only [vfill, List.set_cons_zero, List.set_cons_succ, Option.toList, List.cons_append, List.nil_append, Nat.add_zero]
        refine V_iconst (v := 1) dX4_stops_32 rfl ?_
        refine V_zret hR dX4_stops_33 (by first | exact Or.inl rfl | exact Or.inr rfl | omega) hkc hks ?_
        rw [if_pos ⟨by decide, h_17⟩, if_pos ⟨by decide, h_17⟩]
        exact ⟨rfl, rfl⟩
      · refine V_iconst (v := 0) dX4_stops_20 rfl ?_
        refine V_zret hR dX4_stops_21 (by first | exact Or.inl rfl | exact Or.inr rfl | omega) hkc hks ?_
        first | (rw [if_neg (fun z => b00 h_4 z.1), if_neg (fun z => b00 h_4 z.1)]; exact ⟨rfl, rfl⟩) | (rw [if_neg (fun z => h_17 z.2), if_neg (fun z => h_17 z.2)]; exact ⟨rfl, rfl⟩)
    · refine V_iload_n (i := 1) dX4_stops_11 rfl rfl ?_
      refine V_aaldC (q := 5) rfl (by omega) rfl dX4_stops_12 ?_
      refine V_get (C := RX1) (T := TX1) (N := 13) (ci := 1) (q := 8) (ref := "OrderChains$Channel") 0 rfl il_X4_stops_X1 rfl rfl fl_X4_stops_47 rfl rfl dX4_stops_13 ?_
      refine V_iconst (v := 1) dX4_stops_16 rfl ?_
      refine V_icmp_eq (tgt := 22) (by have := hq 0 (by omega); have := hq 1 (by omega); have := hq 2 (by omega); omega) (by omega) dX4_stops_17 rfl (fun h_17 => ?_) (fun h_17 => ?_)
      · refine V_aload_n (i := 0) dX4_stops_22 rfl rfl ?_
        refine V_get (C := RX2) (T := TX2) (N := 11) (ci := 2) (q := 0) (ref := "OrderChains$Engine") 4 rfl il_X4_stops_X2 rfl rfl fl_X4_stops_43 rfl rfl dX4_stops_23 ?_
        refine V_iload_n (i := 1) dX4_stops_26 rfl rfl ?_
        refine V_aaldC (q := 5) rfl (by omega) rfl dX4_stops_27 ?_
        refine V_iconst (v := 0) dX4_stops_28 rfl ?_
        refine V_callV (C := RX1) (q := 0) (ci := 1) (As := _) (rest := []) [8] (c_X1_become l G (a 8) 0 (ch 2)) vy_X1_become gX4_stops_X1_become rfl rfl rfl rfl rfl rfl rfl ⟨rfl, rfl⟩ ⟨rfl, rfl⟩ ⟨Nat.zero_le _, Nat.zero_le _⟩ rfl dX4_stops_29 (fun v Y hE => ?_)
        obtain ⟨rfl, rfl⟩ := hE
        refine ⟨rfl, ?_⟩
        dsimp only [vfill, List.set_cons_zero, List.set_cons_succ, Option.toList, List.cons_append, List.nil_append, Nat.add_zero]
        refine V_iconst (v := 1) dX4_stops_32 rfl ?_
        refine V_zret hR dX4_stops_33 (by first | exact Or.inl rfl | exact Or.inr rfl | omega) hkc hks ?_
        rw [if_pos ⟨by decide, h_17⟩, if_pos ⟨by decide, h_17⟩]
        exact ⟨rfl, rfl⟩
      · refine V_iconst (v := 0) dX4_stops_20 rfl ?_
        refine V_zret hR dX4_stops_21 (by first | exact Or.inl rfl | exact Or.inr rfl | omega) hkc hks ?_
        first | (rw [if_neg (fun z => b00 h_4 z.1), if_neg (fun z => b00 h_4 z.1)]; exact ⟨rfl, rfl⟩) | (rw [if_neg (fun z => h_17 z.2), if_neg (fun z => h_17 z.2)]; exact ⟨rfl, rfl⟩)

theorem c_X4_stopsK (l : Launch) (G : vG) (a : Nat → Nat) (e : vE) (h : Nat) (hh : h < 10) (hq : ∀ h, h < 3 → e.2.2.2.2.2.2 h 0 < 4) : Kc l G yX4_stops wsX4_stops rX4_stops [.ref (a 0), .int (nI h)] [eK G a e] (fun r9 Y => r9 = some (.int (nI (if h < 3 ∧ e.2.2.2.2.2.2 h 0 = 1 then 1 else 0))) ∧ Y = [eK G a (if h < 3 ∧ e.2.2.2.2.2.2 h 0 = 1 then setC e h (qBc 0 (e.2.2.2.2.2.2 h)) else e)]) 0 0 := by
  obtain ⟨val, own, mark, lw, bits, s, ch⟩ := e
  refine (c_X4_stops l G a val own mark lw bits s ch h hh hq).conv flX (fun r9 Y hE => ?_)
  obtain ⟨h1, rfl⟩ := hE
  exact ⟨_, flX, h1, rfl⟩
abbrev rX4_gives : Room := { frames := 1, cells := 0, slots := 0, locals := 25 }
theorem vy_X4_gives : vY yX4_gives wsX4_gives cX4_gives 4 (some .boolean) 4 := ⟨⟨_, rfl⟩, by decide +kernel, by decide +kernel, by decide +kernel⟩
theorem st_X4_gives_X6_isCell : Cond.static yX6_isCell ∈ wsX4_gives := List.mem_of_getElem? (i := 1) rfl
theorem in_X4_gives_X6 : Cond.initialized RX6 ∈ wsX4_gives := List.mem_of_getElem? (i := 2) rfl
set_option maxHeartbeats 4000000 in
set_option maxRecDepth 100000 in
/-- Script.gives -/
theorem c_X4_gives (l : Launch) (G : vG) (a val own mark lw bits s : Nat → Nat) (ch : Nat → Nat → Nat) (c n o : Nat) (hc : c < 100) (hn : n < 10) (ho : o < 10) (hw : ∀ k, k < 96 → own k < 4) : Kc l G yX4_gives wsX4_gives rX4_gives [.ref (a 0), .int (nI c), .int (nI n), .int (nI o)] [eO a s, iA G (a 1) 96 val, iA G (a 2) 96 own, iA G (a 3) 96 mark, iA G (a 4) 96 lw, eC G a, cX (a 6) (ch 0), cX (a 7) (ch 1), cX (a 8) (ch 2), iA G (a 9) 96 bits] (fun r Y => r = some (.int (nI (if c < 96 ∧ 1 ≤ n ∧ o < 4 then 1 else 0))) ∧ Y = eX G a (if c < 96 ∧ 1 ≤ n ∧ o < 4 then setO (val, own, mark, lw, bits, s, ch) (gvF c (sm c n) o own) else (val, own, mark, lw, bits, s, ch))) 0 0 := by
  refine V_enter (own := RX4) [some (.ref (a 0)), some (.int (nI c)), some (.int (nI n)), some (.int (nI o))] (by decide +kernel) rfl rfl (Nat.le_of_ble_eq_true rfl) rfl (fun Γ hR hin => ?_)
  have hkc : 0 ≤ 0 := Nat.le_refl 0
  have hks : 0 ≤ 0 := Nat.le_refl 0
  refine V_iload_n (i := 1) dX4_gives_0 rfl rfl ?_
  refine V_callSN (As := _) (rest := []) (host := RX6) [] (c_X6_isCell l G (c) (by omega)) vy_X6_isCell gX4_gives_X6_isCell_n32 (fun _ h => h.2.2.2.1) st_X4_gives_X6_isCell in_X4_gives_X6 rfl rfl rfl rfl ⟨rfl, rfl⟩ ⟨rfl, rfl⟩ ⟨Nat.zero_le _, Nat.zero_le _⟩ rfl dX4_gives_1 (fun v Y hE => ?_)
  obtain ⟨rfl, rfl⟩ := hE
  refine ⟨rfl, ?_⟩
  dsimp only [vfill, List.set_cons_zero, List.set_cons_succ, Option.toList, List.cons_append, List.nil_append, Nat.add_zero]
  refine V_if_eq (tgt := 17) (by split <;> decide) dX4_gives_4 rfl (fun h_4 => ?_) (fun h_4 => ?_)
  · refine V_iconst (v := 0) dX4_gives_17 rfl ?_
    refine V_zret hR dX4_gives_18 (by first | exact Or.inl rfl | exact Or.inr rfl | omega) hkc hks ?_
    have hz : ¬ (c < 96 ∧ 1 ≤ n ∧ o < 4) := fun z => by first | exact b00 h_4 z.1 | omega
    rw [if_neg hz, if_neg hz]
    exact ⟨rfl, rfl⟩
  · refine V_iload_n (i := 2) dX4_gives_7 rfl rfl ?_
    refine V_iconst (v := 1) dX4_gives_8 rfl ?_
    refine V_icmp_lt (tgt := 17) (by omega) (by omega) dX4_gives_9 rfl (fun h_9 => ?_) (fun h_9 => ?_)
    · refine V_iconst (v := 0) dX4_gives_17 rfl ?_
      refine V_zret hR dX4_gives_18 (by first | exact Or.inl rfl | exact Or.inr rfl | omega) hkc hks ?_
      have hz : ¬ (c < 96 ∧ 1 ≤ n ∧ o < 4) := fun z => by first | exact b00 h_4 z.1 | omega
      rw [if_neg hz, if_neg hz]
      exact ⟨rfl, rfl⟩
    · refine V_iload_n (i := 3) dX4_gives_12 rfl rfl ?_
      refine V_iconst (v := 4) dX4_gives_13 rfl ?_
      refine V_icmp_lt (tgt := 19) (by omega) (by omega) dX4_gives_14 rfl (fun h_14 => ?_) (fun h_14 => ?_)
      · refine V_aload_n (i := 0) dX4_gives_19 rfl rfl ?_
        refine V_iload_n (i := 1) dX4_gives_20 rfl rfl ?_
        refine V_iload_n (i := 2) dX4_gives_21 rfl rfl ?_
        refine V_iload_n (i := 3) dX4_gives_22 rfl rfl ?_
        refine V_callV (C := RX2) (q := 0) (ci := 2) (As := _) (rest := []) [0, 2] (c_X2_giveCells l G a s own c n o (b01 h_4) (by omega) (by omega) hw) vy_X2_giveCells gX4_gives_X2_giveCells rfl rfl rfl rfl rfl rfl rfl ⟨rfl, rfl⟩ ⟨rfl, rfl⟩ ⟨Nat.zero_le _, Nat.zero_le _⟩ rfl dX4_gives_23 (fun v Y hE => ?_)
        obtain ⟨rfl, rfl⟩ := hE
        refine ⟨rfl, ?_⟩
        dsimp only [vfill, List.set_cons_zero, List.set_cons_succ, Option.toList, List.cons_append, List.nil_append, Nat.add_zero]
        refine V_pop dX4_gives_26 rfl ?_
        refine V_iconst (v := 1) dX4_gives_27 rfl ?_
        refine V_zret hR dX4_gives_28 (by first | exact Or.inl rfl | exact Or.inr rfl | omega) hkc hks ?_
        have hz : c < 96 ∧ 1 ≤ n ∧ o < 4 := ⟨b01 h_4, by omega, by omega⟩
        rw [if_pos hz, if_pos hz]
        exact ⟨rfl, rfl⟩
      · refine V_iconst (v := 0) dX4_gives_17 rfl ?_
        refine V_zret hR dX4_gives_18 (by first | exact Or.inl rfl | exact Or.inr rfl | omega) hkc hks ?_
        have hz : ¬ (c < 96 ∧ 1 ≤ n ∧ o < 4) := fun z => by first | exact b00 h_4 z.1 | omega
        rw [if_neg hz, if_neg hz]
        exact ⟨rfl, rfl⟩

theorem c_X4_givesK (l : Launch) (G : vG) (a : Nat → Nat) (e : vE) (c n o : Nat) (hc : c < 100) (hn : n < 10) (ho : o < 10) (hw : ∀ k, k < 96 → e.2.1 k < 4) : Kc l G yX4_gives wsX4_gives rX4_gives [.ref (a 0), .int (nI c), .int (nI n), .int (nI o)] [eK G a e] (fun r9 Y => r9 = some (.int (nI (if c < 96 ∧ 1 ≤ n ∧ o < 4 then 1 else 0))) ∧ Y = [eK G a (if c < 96 ∧ 1 ≤ n ∧ o < 4 then setO e (gvF c (sm c n) o e.2.1) else e)]) 0 0 := by
  obtain ⟨val, own, mark, lw, bits, s, ch⟩ := e
  refine (c_X4_gives l G a val own mark lw bits s ch c n o hc hn ho hw).conv flX (fun r9 Y hE => ?_)
  obtain ⟨h1, rfl⟩ := hE
  exact ⟨_, flX, h1, rfl⟩
abbrev rX4_succeeds : Room := { frames := 6, cells := 0, slots := 0, locals := 133 }
theorem vy_X4_succeeds : vY yX4_succeeds wsX4_succeeds cX4_succeeds 9 (some .boolean) 2 := ⟨⟨_, rfl⟩, by decide +kernel, by decide +kernel, by decide +kernel⟩
theorem st_X4_succeeds_X6_isCell : Cond.static yX6_isCell ∈ wsX4_succeeds := List.mem_of_getElem? (i := 10) rfl
theorem in_X4_succeeds_X6 : Cond.initialized RX6 ∈ wsX4_succeeds := List.mem_of_getElem? (i := 11) rfl
theorem fl_X4_succeeds_36 : Cond.fieldLink RX4 36 "OrderChains$Engine" "values" "[I" ∈ wsX4_succeeds := List.mem_of_getElem? (i := 1) rfl
theorem il_X4_succeeds_X2 : ∀ w ∈ wsX20, w ∈ wsX4_succeeds := fun _ h => List.mem_cons_of_mem _ (List.mem_append_left _ (List.mem_append_right _ h))
theorem st_X4_succeeds_X6_isChannel : Cond.static yX6_isChannel ∈ wsX4_succeeds := List.mem_of_getElem? (i := 113) rfl
theorem fl_X4_succeeds_43 : Cond.fieldLink RX4 43 "OrderChains$Engine" "channels" "[LOrderChains$Channel;" ∈ wsX4_succeeds := List.mem_of_getElem? (i := 2) rfl
theorem fl_X4_succeeds_47 : Cond.fieldLink RX4 47 "OrderChains$Channel" "condition" "I" ∈ wsX4_succeeds := List.mem_of_getElem? (i := 3) rfl
theorem il_X4_succeeds_X1 : ∀ w ∈ wsX10, w ∈ wsX4_succeeds := fun _ h => List.mem_cons_of_mem _ (List.mem_append_right _ h)
theorem fl_X4_succeeds_53 : Cond.fieldLink RX4 53 "OrderChains$Channel" "cellsWritten" "I" ∈ wsX4_succeeds := List.mem_of_getElem? (i := 4) rfl
theorem fl_X4_succeeds_56 : Cond.fieldLink RX4 56 "OrderChains$Engine" "edits" "I" ∈ wsX4_succeeds := List.mem_of_getElem? (i := 5) rfl
set_option maxHeartbeats 4000000 in
set_option maxRecDepth 100000 in
/-- Script.succeeds -/
theorem c_X4_succeeds (l : Launch) (G : vG) (a : Nat → Nat) (e : vE) (g : Nat) (hg : g < 100000) (he : eB e) : Kc l G yX4_succeeds wsX4_succeeds rX4_succeeds [.ref (a 0), .int (nI g)] [eK G a e] (fun v Y => v = some (.int (nI (scC g e).1)) ∧ Y = [eK G a (scC g e).2]) 0 0 := by
  refine V_enter (own := RX4) [some (.ref (a 0)), some (.int (nI g)), none, none, none, none, none, none, none] (by decide +kernel) rfl rfl (Nat.le_of_ble_eq_true rfl) rfl (fun Γ hR hin => ?_)
  have hkc : 0 ≤ 0 := Nat.le_refl 0
  have hks : 0 ≤ 0 := Nat.le_refl 0
  refine V_iload_n (i := 1) dX4_succeeds_0 rfl rfl ?_
  refine V_sipush (v := 1000) dX4_succeeds_1 (by decide) ?_
  refine V_idiv dX4_succeeds_4 (by omega) (by omega) (by omega) ?_
  refine V_bipush (v := 10) dX4_succeeds_5 (by decide) ?_
  refine V_irem dX4_succeeds_7 (by omega) (by omega) (by omega) ?_
  refine V_istore_n (i := 2) dX4_succeeds_8 rfl rfl rfl ?_
  dsimp only [List.set_cons_zero, List.set_cons_succ]
  refine V_iload_n (i := 1) dX4_succeeds_9 rfl rfl ?_
  refine V_bipush (v := 100) dX4_succeeds_10 (by decide) ?_
  refine V_idiv dX4_succeeds_12 (by omega) (by omega) (by omega) ?_
  refine V_bipush (v := 10) dX4_succeeds_13 (by decide) ?_
  refine V_irem dX4_succeeds_15 (by omega) (by omega) (by omega) ?_
  refine V_istore_n (i := 3) dX4_succeeds_16 rfl rfl rfl ?_
  dsimp only [List.set_cons_zero, List.set_cons_succ]
  refine V_iload_n (i := 1) dX4_succeeds_17 rfl rfl ?_
  refine V_bipush (v := 10) dX4_succeeds_18 (by decide) ?_
  refine V_idiv dX4_succeeds_20 (by omega) (by omega) (by omega) ?_
  refine V_bipush (v := 10) dX4_succeeds_21 (by decide) ?_
  refine V_irem dX4_succeeds_23 (by omega) (by omega) (by omega) ?_
  refine V_istore (i := 4) dX4_succeeds_24 rfl rfl ?_
  dsimp only [List.set_cons_zero, List.set_cons_succ]
  refine V_iload_n (i := 1) dX4_succeeds_26 rfl rfl ?_
  refine V_bipush (v := 10) dX4_succeeds_27 (by decide) ?_
  refine V_irem dX4_succeeds_29 (by omega) (by omega) (by omega) ?_
  refine V_istore (i := 5) dX4_succeeds_30 rfl rfl ?_
  dsimp only [List.set_cons_zero, List.set_cons_succ]
  refine V_bipush (v := 10) dX4_succeeds_32 (by decide) ?_
  refine V_iload_n (i := 2) dX4_succeeds_34 rfl rfl ?_
  refine V_imul dX4_succeeds_35 ?_
  refine V_iload_n (i := 3) dX4_succeeds_36 rfl rfl ?_
  refine V_iadd dX4_succeeds_37 ?_
  refine V_istore (i := 6) dX4_succeeds_38 rfl rfl ?_
  dsimp only [List.set_cons_zero, List.set_cons_succ]
  refine V_bipush (v := 10) dX4_succeeds_40 (by decide) ?_
  refine V_iload_n (i := 3) dX4_succeeds_42 rfl rfl ?_
  refine V_imul dX4_succeeds_43 ?_
  refine V_iload (i := 4) dX4_succeeds_44 rfl ?_
  refine V_iadd dX4_succeeds_46 ?_
  refine V_istore (i := 7) dX4_succeeds_47 rfl rfl ?_
  dsimp only [List.set_cons_zero, List.set_cons_succ]
  refine V_bipush (v := 10) dX4_succeeds_49 (by decide) ?_
  refine V_iload (i := 4) dX4_succeeds_51 rfl ?_
  refine V_imul dX4_succeeds_53 ?_
  refine V_iload (i := 5) dX4_succeeds_54 rfl ?_
  refine V_iadd dX4_succeeds_56 ?_
  refine V_istore (i := 8) dX4_succeeds_57 rfl rfl ?_
  dsimp only [List.set_cons_zero, List.set_cons_succ]
  refine V_iload_n (i := 1) dX4_succeeds_59 rfl rfl ?_
  refine V_sipush (v := 10000) dX4_succeeds_60 (by decide) ?_
  refine V_idiv dX4_succeeds_63 (by omega) (by omega) (by omega) ?_
  rcases (show g / 10000 = 0 ∨ g / 10000 = 1 ∨ g / 10000 = 2 ∨ g / 10000 = 3 ∨ g / 10000 = 4 ∨ g / 10000 = 5 ∨ g / 10000 = 6 ∨ g / 10000 = 7 ∨ g / 10000 = 8 ∨ g / 10000 = 9 by omega) with e0 | e0 | e0 | e0 | e0 | e0 | e0 | e0 | e0 | e0
  · refine V_top (b := 0) e0 ?_
    refine V_tableOut (tgt := 309) dX4_succeeds_64 (Or.inl (by decide)) rfl ?_
    refine V_iconst (v := 0) dX4_succeeds_309 rfl ?_
    refine V_zret hR dX4_succeeds_310 (by first | exact Or.inl rfl | exact Or.inr rfl | omega) hkc hks ?_
    unfold scC
    simp only [e0, Nat.reduceEqDiff, if_true, if_false, reduceIte]
    first | exact ⟨rfl, rfl⟩ | exact ⟨trivial, trivial⟩ | exact ⟨trivial, rfl⟩
  · refine V_top (b := 1) e0 ?_
    refine V_tableIn (tgt := 116) dX4_succeeds_64 (by omega) (by omega) (by omega) rfl rfl ?_
    refine V_aload_n (i := 0) dX4_succeeds_116 rfl rfl ?_
    refine V_iload (i := 6) dX4_succeeds_117 rfl ?_
    refine V_iload (i := 8) dX4_succeeds_119 rfl ?_
    refine V_callS (As := _) (rest := []) [0] (c_X4_setsValueK l G a e (10 * (g / 1000 % 10) + g / 100 % 10) (10 * (g / 10 % 10) + g % 10) (by omega)) vy_X4_setsValue gX4_succeeds_X4_setsValue rfl rfl rfl rfl ⟨rfl, rfl⟩ ⟨rfl, rfl⟩ ⟨Nat.zero_le _, Nat.zero_le _⟩ rfl dX4_succeeds_121 (fun v Y hE => ?_)
    obtain ⟨rfl, rfl⟩ := hE
    refine ⟨rfl, ?_⟩
    dsimp only [vfill, List.set_cons_zero, List.set_cons_succ, Option.toList, List.cons_append, List.nil_append, Nat.add_zero]
    refine V_zret hR dX4_succeeds_124 (by split <;> simp) hkc hks ?_
    unfold scC
    simp only [e0, Nat.reduceEqDiff, if_true, if_false, reduceIte]
    by_cases z : 10 * (g / 1000 % 10) + g / 100 % 10 < 96
    · simp only [if_pos z]; first | exact ⟨rfl, rfl⟩ | exact ⟨trivial, trivial⟩ | exact ⟨trivial, rfl⟩
    · simp only [if_neg z]; first | exact ⟨rfl, rfl⟩ | exact ⟨trivial, trivial⟩ | exact ⟨trivial, rfl⟩
  · refine V_top (b := 2) e0 ?_
    refine V_tableIn (tgt := 125) dX4_succeeds_64 (by omega) (by omega) (by omega) rfl rfl ?_
    refine V_iload (i := 6) dX4_succeeds_125 rfl ?_
    refine V_if_ne (tgt := 143) (by omega) dX4_succeeds_127 rfl (fun h_127 => ?_) (fun h_127 => ?_)
    · refine V_iconst (v := 0) dX4_succeeds_143 rfl ?_
      refine V_zret hR dX4_succeeds_144 (by first | exact Or.inl rfl | exact Or.inr rfl | omega) hkc hks ?_
      unfold scC
      simp only [e0, Nat.reduceEqDiff, if_true, if_false, reduceIte]
      first | (rw [if_neg (show ¬ 10 * (g / 1000 % 10) + g / 100 % 10 = 0 by omega)]; exact ⟨rfl, rfl⟩) | (rw [if_pos (show 10 * (g / 1000 % 10) + g / 100 % 10 = 0 by omega), if_pos (show (runC (10 * (g / 10 % 10) + g % 10) e).1 = 0 by have := runC_le (10 * (g / 10 % 10) + g % 10) e; omega)]; exact ⟨rfl, rfl⟩) | (rw [if_pos (show 10 * (g / 1000 % 10) + g / 100 % 10 = 0 by omega), if_neg (show ¬ (runC (10 * (g / 10 % 10) + g % 10) e).1 = 0 by have := runC_le (10 * (g / 10 % 10) + g % 10) e; omega)]; exact ⟨rfl, rfl⟩)
    · refine V_aload_n (i := 0) dX4_succeeds_130 rfl rfl ?_
      refine V_iload (i := 8) dX4_succeeds_131 rfl ?_
      refine V_callV (C := RX2) (q := 0) (ci := 2) (As := _) (rest := []) [0] (c_X2_letTicksGoBy l G a e (10 * (g / 10 % 10) + g % 10) (by omega) he) vy_X2_letTicksGoBy gX4_succeeds_X2_letTicksGoBy rfl rfl rfl rfl rfl rfl rfl ⟨rfl, rfl⟩ ⟨rfl, rfl⟩ ⟨Nat.zero_le _, Nat.zero_le _⟩ rfl dX4_succeeds_133 (fun v Y hE => ?_)
      obtain ⟨rfl, rfl⟩ := hE
      refine ⟨rfl, ?_⟩
      dsimp only [vfill, List.set_cons_zero, List.set_cons_succ, Option.toList, List.cons_append, List.nil_append, Nat.add_zero]
      refine V_if_le (tgt := 143) (by have := runC_le (10 * (g / 10 % 10) + g % 10) e; omega) dX4_succeeds_136 rfl (fun h_136 => ?_) (fun h_136 => ?_)
      · refine V_iconst (v := 0) dX4_succeeds_143 rfl ?_
        refine V_zret hR dX4_succeeds_144 (by first | exact Or.inl rfl | exact Or.inr rfl | omega) hkc hks ?_
        unfold scC
        simp only [e0, Nat.reduceEqDiff, if_true, if_false, reduceIte]
        first | (rw [if_neg (show ¬ 10 * (g / 1000 % 10) + g / 100 % 10 = 0 by omega)]; exact ⟨rfl, rfl⟩) | (rw [if_pos (show 10 * (g / 1000 % 10) + g / 100 % 10 = 0 by omega), if_pos (show (runC (10 * (g / 10 % 10) + g % 10) e).1 = 0 by have := runC_le (10 * (g / 10 % 10) + g % 10) e; omega)]; exact ⟨rfl, rfl⟩) | (rw [if_pos (show 10 * (g / 1000 % 10) + g / 100 % 10 = 0 by omega), if_neg (show ¬ (runC (10 * (g / 10 % 10) + g % 10) e).1 = 0 by have := runC_le (10 * (g / 10 % 10) + g % 10) e; omega)]; exact ⟨rfl, rfl⟩)
      · refine V_iconst (v := 1) dX4_succeeds_139 rfl ?_
        refine V_goto (tgt := 144) dX4_succeeds_140 rfl ?_
        refine V_zret hR dX4_succeeds_144 (by first | exact Or.inl rfl | exact Or.inr rfl | omega) hkc hks ?_
        unfold scC
        simp only [e0, Nat.reduceEqDiff, if_true, if_false, reduceIte]
        first | (rw [if_neg (show ¬ 10 * (g / 1000 % 10) + g / 100 % 10 = 0 by omega)]; exact ⟨rfl, rfl⟩) | (rw [if_pos (show 10 * (g / 1000 % 10) + g / 100 % 10 = 0 by omega), if_pos (show (runC (10 * (g / 10 % 10) + g % 10) e).1 = 0 by have := runC_le (10 * (g / 10 % 10) + g % 10) e; omega)]; exact ⟨rfl, rfl⟩) | (rw [if_pos (show 10 * (g / 1000 % 10) + g / 100 % 10 = 0 by omega), if_neg (show ¬ (runC (10 * (g / 10 % 10) + g % 10) e).1 = 0 by have := runC_le (10 * (g / 10 % 10) + g % 10) e; omega)]; exact ⟨rfl, rfl⟩)
  · refine V_top (b := 3) e0 ?_
    refine V_tableIn (tgt := 145) dX4_succeeds_64 (by omega) (by omega) (by omega) rfl rfl ?_
    refine V_iload (i := 5) dX4_succeeds_145 rfl ?_
    refine V_if_ne (tgt := 164) (by omega) dX4_succeeds_147 rfl (fun h_147 => ?_) (fun h_147 => ?_)
    · refine V_iconst (v := 0) dX4_succeeds_164 rfl ?_
      refine V_zret hR dX4_succeeds_165 (by first | exact Or.inl rfl | exact Or.inr rfl | omega) hkc hks ?_
      unfold scC
      simp only [e0, Nat.reduceEqDiff, if_true, if_false, reduceIte]
      first | (rw [if_neg (fun z => h_147 z.1)]; exact ⟨rfl, rfl⟩) | (have hz := b00 h_157; rw [if_neg hz, if_neg (fun z => hz z.2)]; exact ⟨rfl, rfl⟩) | (have hz := b01 h_157; rw [if_pos hz, if_pos ⟨h_147, hz⟩]; exact ⟨rfl, rfl⟩)
    · refine V_aload_n (i := 0) dX4_succeeds_150 rfl rfl ?_
      refine V_iload_n (i := 2) dX4_succeeds_151 rfl rfl ?_
      refine V_iload (i := 7) dX4_succeeds_152 rfl ?_
      refine V_callS (As := _) (rest := []) [0] (c_X4_startsK l G a e (g / 1000 % 10) (10 * (g / 100 % 10) + g / 10 % 10) (by omega) (by omega)) vy_X4_starts gX4_succeeds_X4_starts rfl rfl rfl rfl ⟨rfl, rfl⟩ ⟨rfl, rfl⟩ ⟨Nat.zero_le _, Nat.zero_le _⟩ rfl dX4_succeeds_154 (fun v Y hE => ?_)
      obtain ⟨rfl, rfl⟩ := hE
      refine ⟨rfl, ?_⟩
      dsimp only [vfill, List.set_cons_zero, List.set_cons_succ, Option.toList, List.cons_append, List.nil_append, Nat.add_zero]
      refine V_if_eq (tgt := 164) (by split <;> decide) dX4_succeeds_157 rfl (fun h_157 => ?_) (fun h_157 => ?_)
      · refine V_iconst (v := 0) dX4_succeeds_164 rfl ?_
        refine V_zret hR dX4_succeeds_165 (by first | exact Or.inl rfl | exact Or.inr rfl | omega) hkc hks ?_
        unfold scC
        simp only [e0, Nat.reduceEqDiff, if_true, if_false, reduceIte]
        first | (rw [if_neg (fun z => h_147 z.1)]; exact ⟨rfl, rfl⟩) | (have hz := b00 h_157; rw [if_neg hz, if_neg (fun z => hz z.2)]; exact ⟨rfl, rfl⟩) | (have hz := b01 h_157; rw [if_pos hz, if_pos ⟨h_147, hz⟩]; exact ⟨rfl, rfl⟩)
      · refine V_iconst (v := 1) dX4_succeeds_160 rfl ?_
        refine V_goto (tgt := 165) dX4_succeeds_161 rfl ?_
        refine V_zret hR dX4_succeeds_165 (by first | exact Or.inl rfl | exact Or.inr rfl | omega) hkc hks ?_
        unfold scC
        simp only [e0, Nat.reduceEqDiff, if_true, if_false, reduceIte]
        first | (rw [if_neg (fun z => h_147 z.1)]; exact ⟨rfl, rfl⟩) | (have hz := b00 h_157; rw [if_neg hz, if_neg (fun z => hz z.2)]; exact ⟨rfl, rfl⟩) | (have hz := b01 h_157; rw [if_pos hz, if_pos ⟨h_147, hz⟩]; exact ⟨rfl, rfl⟩)
  · refine V_top (b := 4) e0 ?_
    refine V_tableIn (tgt := 166) dX4_succeeds_64 (by omega) (by omega) (by omega) rfl rfl ?_
    refine V_iload_n (i := 3) dX4_succeeds_166 rfl rfl ?_
    refine V_if_ne (tgt := 187) (by omega) dX4_succeeds_167 rfl (fun h_167 => ?_) (fun h_167 => ?_)
    · refine V_iconst (v := 0) dX4_succeeds_187 rfl ?_
      refine V_zret hR dX4_succeeds_188 (by first | exact Or.inl rfl | exact Or.inr rfl | omega) hkc hks ?_
      unfold scC
      simp only [e0, Nat.reduceEqDiff, if_true, if_false, reduceIte]
      first | (rw [if_neg (fun z => h_167 z.1)]; exact ⟨rfl, rfl⟩) | (rw [if_neg (fun z => h_172 z.2.1)]; exact ⟨rfl, rfl⟩) | (have hz := b00 h_180; rw [if_neg hz, if_neg (fun z => hz z.2.2)]; exact ⟨rfl, rfl⟩) | (have hz := b01 h_180; rw [if_pos hz, if_pos ⟨h_167, h_172, hz⟩]; exact ⟨rfl, rfl⟩)
    · refine V_iload (i := 8) dX4_succeeds_170 rfl ?_
      refine V_if_ne (tgt := 187) (by omega) dX4_succeeds_172 rfl (fun h_172 => ?_) (fun h_172 => ?_)
      · refine V_iconst (v := 0) dX4_succeeds_187 rfl ?_
        refine V_zret hR dX4_succeeds_188 (by first | exact Or.inl rfl | exact Or.inr rfl | omega) hkc hks ?_
        unfold scC
        simp only [e0, Nat.reduceEqDiff, if_true, if_false, reduceIte]
        first | (rw [if_neg (fun z => h_167 z.1)]; exact ⟨rfl, rfl⟩) | (rw [if_neg (fun z => h_172 z.2.1)]; exact ⟨rfl, rfl⟩) | (have hz := b00 h_180; rw [if_neg hz, if_neg (fun z => hz z.2.2)]; exact ⟨rfl, rfl⟩) | (have hz := b01 h_180; rw [if_pos hz, if_pos ⟨h_167, h_172, hz⟩]; exact ⟨rfl, rfl⟩)
      · refine V_aload_n (i := 0) dX4_succeeds_175 rfl rfl ?_
        refine V_iload_n (i := 2) dX4_succeeds_176 rfl rfl ?_
        refine V_callS (As := _) (rest := []) [0] (c_X4_stopsK l G a e (g / 1000 % 10) (by omega) (fun h hh => (he.2.2.2.2.2.2 h hh).1)) vy_X4_stops gX4_succeeds_X4_stops rfl rfl rfl rfl ⟨rfl, rfl⟩ ⟨rfl, rfl⟩ ⟨Nat.zero_le _, Nat.zero_le _⟩ rfl dX4_succeeds_177 (fun v Y hE => ?_)
        obtain ⟨rfl, rfl⟩ := hE
        refine ⟨rfl, ?_⟩
        dsimp only [vfill, List.set_cons_zero, List.set_cons_succ, Option.toList, List.cons_append, List.nil_append, Nat.add_zero]
        refine V_if_eq (tgt := 187) (by split <;> decide) dX4_succeeds_180 rfl (fun h_180 => ?_) (fun h_180 => ?_)
        · refine V_iconst (v := 0) dX4_succeeds_187 rfl ?_
          refine V_zret hR dX4_succeeds_188 (by first | exact Or.inl rfl | exact Or.inr rfl | omega) hkc hks ?_
          unfold scC
          simp only [e0, Nat.reduceEqDiff, if_true, if_false, reduceIte]
          first | (rw [if_neg (fun z => h_167 z.1)]; exact ⟨rfl, rfl⟩) | (rw [if_neg (fun z => h_172 z.2.1)]; exact ⟨rfl, rfl⟩) | (have hz := b00 h_180; rw [if_neg hz, if_neg (fun z => hz z.2.2)]; exact ⟨rfl, rfl⟩) | (have hz := b01 h_180; rw [if_pos hz, if_pos ⟨h_167, h_172, hz⟩]; exact ⟨rfl, rfl⟩)
        · refine V_iconst (v := 1) dX4_succeeds_183 rfl ?_
          refine V_goto (tgt := 188) dX4_succeeds_184 rfl ?_
          refine V_zret hR dX4_succeeds_188 (by first | exact Or.inl rfl | exact Or.inr rfl | omega) hkc hks ?_
          unfold scC
          simp only [e0, Nat.reduceEqDiff, if_true, if_false, reduceIte]
          first | (rw [if_neg (fun z => h_167 z.1)]; exact ⟨rfl, rfl⟩) | (rw [if_neg (fun z => h_172 z.2.1)]; exact ⟨rfl, rfl⟩) | (have hz := b00 h_180; rw [if_neg hz, if_neg (fun z => hz z.2.2)]; exact ⟨rfl, rfl⟩) | (have hz := b01 h_180; rw [if_pos hz, if_pos ⟨h_167, h_172, hz⟩]; exact ⟨rfl, rfl⟩)
  · refine V_top (b := 5) e0 ?_
    refine V_tableIn (tgt := 189) dX4_succeeds_64 (by omega) (by omega) (by omega) rfl rfl ?_
    refine V_aload_n (i := 0) dX4_succeeds_189 rfl rfl ?_
    refine V_iload (i := 6) dX4_succeeds_190 rfl ?_
    refine V_iload (i := 5) dX4_succeeds_192 rfl ?_
    refine V_iload (i := 4) dX4_succeeds_194 rfl ?_
    refine V_callS (As := _) (rest := []) [0] (c_X4_givesK l G a e (10 * (g / 1000 % 10) + g / 100 % 10) (g % 10) (g / 10 % 10) (by omega) (by omega) (by omega) he.2.1) vy_X4_gives gX4_succeeds_X4_gives rfl rfl rfl rfl ⟨rfl, rfl⟩ ⟨rfl, rfl⟩ ⟨Nat.zero_le _, Nat.zero_le _⟩ rfl dX4_succeeds_196 (fun v Y hE => ?_)
    obtain ⟨rfl, rfl⟩ := hE
    refine ⟨rfl, ?_⟩
    dsimp only [vfill, List.set_cons_zero, List.set_cons_succ, Option.toList, List.cons_append, List.nil_append, Nat.add_zero]
    refine V_zret hR dX4_succeeds_199 (by split <;> simp) hkc hks ?_
    unfold scC
    simp only [e0, Nat.reduceEqDiff, if_true, if_false, reduceIte]
    by_cases z : 10 * (g / 1000 % 10) + g / 100 % 10 < 96 ∧ 1 ≤ g % 10 ∧ g / 10 % 10 < 4
    · simp only [if_pos z]; first | exact ⟨rfl, rfl⟩ | exact ⟨trivial, trivial⟩ | exact ⟨trivial, rfl⟩
    · simp only [if_neg z]; first | exact ⟨rfl, rfl⟩ | exact ⟨trivial, trivial⟩ | exact ⟨trivial, rfl⟩
  · refine V_top (b := 6) e0 ?_
    refine V_tableIn (tgt := 200) dX4_succeeds_64 (by omega) (by omega) (by omega) rfl rfl ?_
    refine V_iload (i := 6) dX4_succeeds_200 rfl ?_
    refine V_callSN (As := _) (rest := []) (host := RX6) [] (c_X6_isCell l G (10 * (g / 1000 % 10) + g / 100 % 10) (by omega)) vy_X6_isCell gX4_succeeds_X6_isCell_n32 (fun _ h => h.2.2.2.1) st_X4_succeeds_X6_isCell in_X4_succeeds_X6 rfl rfl rfl rfl ⟨rfl, rfl⟩ ⟨rfl, rfl⟩ ⟨Nat.zero_le _, Nat.zero_le _⟩ rfl dX4_succeeds_202 (fun v Y hE => ?_)
    obtain ⟨rfl, rfl⟩ := hE
    refine ⟨rfl, ?_⟩
    dsimp only [vfill, List.set_cons_zero, List.set_cons_succ, Option.toList, List.cons_append, List.nil_append, Nat.add_zero]
    refine V_if_eq (tgt := 224) (by split <;> decide) dX4_succeeds_205 rfl (fun h_205 => ?_) (fun h_205 => ?_)
    · refine V_iconst (v := 0) dX4_succeeds_224 rfl ?_
      refine V_zret hR dX4_succeeds_225 (by first | exact Or.inl rfl | exact Or.inr rfl | omega) hkc hks ?_
      unfold scC
      simp only [e0, Nat.reduceEqDiff, if_true, if_false, reduceIte]
      first | (rw [if_neg (fun z => b00 h_205 z.1)]; exact ⟨rfl, rfl⟩) | (rw [if_neg (fun z => h_217 z.2)]; exact ⟨rfl, rfl⟩) | (rw [if_pos ⟨b01 h_205, h_217⟩]; exact ⟨rfl, rfl⟩)
    · refine V_same (X' := eX G a e) flX ?_
      dsimp only [eX]
      refine V_aload_n (i := 0) dX4_succeeds_208 rfl rfl ?_
      refine V_get (C := RX2) (T := TX2) (N := 11) (ci := 2) (q := 0) (ref := "OrderChains$Engine") 0 rfl il_X4_succeeds_X2 rfl rfl fl_X4_succeeds_36 rfl rfl dX4_succeeds_209 ?_
      refine V_iload (i := 6) dX4_succeeds_212 rfl ?_
      refine V_iald (q := 1) rfl (b01 h_205) rfl dX4_succeeds_214 ?_
      refine V_iload (i := 8) dX4_succeeds_215 rfl ?_
      refine V_icmp_ne (tgt := 224) (by have := he.1 (10 * (g / 1000 % 10) + g / 100 % 10) (b01 h_205); omega) (by omega) dX4_succeeds_217 rfl (fun h_217 => ?_) (fun h_217 => ?_)
      · refine V_iconst (v := 0) dX4_succeeds_224 rfl ?_
        refine V_same (X' := [eK G a e]) (flX (e := e)).symm ?_
        refine V_zret hR dX4_succeeds_225 (by first | exact Or.inl rfl | exact Or.inr rfl | omega) hkc hks ?_
        unfold scC
        simp only [e0, Nat.reduceEqDiff, if_true, if_false, reduceIte]
        first | (rw [if_neg (fun z => b00 h_205 z.1)]; exact ⟨rfl, rfl⟩) | (rw [if_neg (fun z => h_217 z.2)]; exact ⟨rfl, rfl⟩) | (rw [if_pos ⟨b01 h_205, h_217⟩]; exact ⟨rfl, rfl⟩)
      · refine V_iconst (v := 1) dX4_succeeds_220 rfl ?_
        refine V_goto (tgt := 225) dX4_succeeds_221 rfl ?_
        refine V_same (X' := [eK G a e]) (flX (e := e)).symm ?_
        refine V_zret hR dX4_succeeds_225 (by first | exact Or.inl rfl | exact Or.inr rfl | omega) hkc hks ?_
        unfold scC
        simp only [e0, Nat.reduceEqDiff, if_true, if_false, reduceIte]
        first | (rw [if_neg (fun z => b00 h_205 z.1)]; exact ⟨rfl, rfl⟩) | (rw [if_neg (fun z => h_217 z.2)]; exact ⟨rfl, rfl⟩) | (rw [if_pos ⟨b01 h_205, h_217⟩]; exact ⟨rfl, rfl⟩)
  · refine V_top (b := 7) e0 ?_
    refine V_tableIn (tgt := 226) dX4_succeeds_64 (by omega) (by omega) (by omega) rfl rfl ?_
    refine V_iload (i := 7) dX4_succeeds_226 rfl ?_
    refine V_if_ne (tgt := 256) (by omega) dX4_succeeds_228 rfl (fun h_228 => ?_) (fun h_228 => ?_)
    · refine V_iconst (v := 0) dX4_succeeds_256 rfl ?_
      refine V_zret hR dX4_succeeds_257 (by first | exact Or.inl rfl | exact Or.inr rfl | omega) hkc hks ?_
      unfold scC
      simp only [e0, Nat.reduceEqDiff, if_true, if_false, reduceIte]
      first | (rw [if_neg (fun z => h_228 z.1)]; exact ⟨rfl, rfl⟩) | (rw [if_neg (fun z => b00 h_235 z.2.1)]; exact ⟨rfl, rfl⟩) | (rw [e2, if_neg (fun z => h_249 z.2.2)]; exact ⟨rfl, rfl⟩) | (rw [e2, if_pos ⟨h_228, by decide, h_249⟩]; exact ⟨rfl, rfl⟩)
    · refine V_iload_n (i := 2) dX4_succeeds_231 rfl rfl ?_
      refine V_callSN (As := _) (rest := []) (host := RX6) [] (c_X6_isChannel l G (g / 1000 % 10) (by omega)) vy_X6_isChannel gX4_succeeds_X6_isChannel_n40 (fun _ h => h.2.2.2.2.1) st_X4_succeeds_X6_isChannel in_X4_succeeds_X6 rfl rfl rfl rfl ⟨rfl, rfl⟩ ⟨rfl, rfl⟩ ⟨Nat.zero_le _, Nat.zero_le _⟩ rfl dX4_succeeds_232 (fun v Y hE => ?_)
      obtain ⟨rfl, rfl⟩ := hE
      refine ⟨rfl, ?_⟩
      dsimp only [vfill, List.set_cons_zero, List.set_cons_succ, Option.toList, List.cons_append, List.nil_append, Nat.add_zero]
      refine V_if_eq (tgt := 256) (by split <;> decide) dX4_succeeds_235 rfl (fun h_235 => ?_) (fun h_235 => ?_)
      · refine V_iconst (v := 0) dX4_succeeds_256 rfl ?_
        refine V_zret hR dX4_succeeds_257 (by first | exact Or.inl rfl | exact Or.inr rfl | omega) hkc hks ?_
        unfold scC
        simp only [e0, Nat.reduceEqDiff, if_true, if_false, reduceIte]
        first | (rw [if_neg (fun z => h_228 z.1)]; exact ⟨rfl, rfl⟩) | (rw [if_neg (fun z => b00 h_235 z.2.1)]; exact ⟨rfl, rfl⟩) | (rw [e2, if_neg (fun z => h_249 z.2.2)]; exact ⟨rfl, rfl⟩) | (rw [e2, if_pos ⟨h_228, by decide, h_249⟩]; exact ⟨rfl, rfl⟩)
      · refine V_same (X' := eX G a e) flX ?_
        dsimp only [eX]
        refine V_aload_n (i := 0) dX4_succeeds_238 rfl rfl ?_
        refine V_get (C := RX2) (T := TX2) (N := 11) (ci := 2) (q := 0) (ref := "OrderChains$Engine") 4 rfl il_X4_succeeds_X2 rfl rfl fl_X4_succeeds_43 rfl rfl dX4_succeeds_239 ?_
        refine V_iload_n (i := 2) dX4_succeeds_242 rfl rfl ?_
        rcases (show g / 1000 % 10 = 0 ∨ g / 1000 % 10 = 1 ∨ g / 1000 % 10 = 2 by have := b01 h_235; omega) with e2 | e2 | e2
        · refine V_top (b := 0) e2 ?_
          refine V_aaldC (q := 5) rfl (by omega) rfl dX4_succeeds_243 ?_
          refine V_get (C := RX1) (T := TX1) (N := 13) (ci := 1) (q := 6) (ref := "OrderChains$Channel") 0 rfl il_X4_succeeds_X1 rfl rfl fl_X4_succeeds_47 rfl rfl dX4_succeeds_244 ?_
          refine V_iload (i := 5) dX4_succeeds_247 rfl ?_
          refine V_icmp_ne (tgt := 256) (by have := (he.2.2.2.2.2.2 0 (by omega)).1; have := (he.2.2.2.2.2.2 1 (by omega)).1; have := (he.2.2.2.2.2.2 2 (by omega)).1; omega) (by omega) dX4_succeeds_249 rfl (fun h_249 => ?_) (fun h_249 => ?_)
          · refine V_iconst (v := 0) dX4_succeeds_256 rfl ?_
            refine V_same (X' := [eK G a e]) (flX (e := e)).symm ?_
            refine V_zret hR dX4_succeeds_257 (by first | exact Or.inl rfl | exact Or.inr rfl | omega) hkc hks ?_
            unfold scC
            simp only [e0, Nat.reduceEqDiff, if_true, if_false, reduceIte]
            first | (rw [if_neg (fun z => h_228 z.1)]; exact ⟨rfl, rfl⟩) | (rw [if_neg (fun z => b00 h_235 z.2.1)]; exact ⟨rfl, rfl⟩) | (rw [e2, if_neg (fun z => h_249 z.2.2)]; exact ⟨rfl, rfl⟩) | (rw [e2, if_pos ⟨h_228, by decide, h_249⟩]; exact ⟨rfl, rfl⟩)
          · refine V_iconst (v := 1) dX4_succeeds_252 rfl ?_
            refine V_goto (tgt := 257) dX4_succeeds_253 rfl ?_
            refine V_same (X' := [eK G a e]) (flX (e := e)).symm ?_
            refine V_zret hR dX4_succeeds_257 (by first | exact Or.inl rfl | exact Or.inr rfl | omega) hkc hks ?_
            unfold scC
            simp only [e0, Nat.reduceEqDiff, if_true, if_false, reduceIte]
            first | (rw [if_neg (fun z => h_228 z.1)]; exact ⟨rfl, rfl⟩) | (rw [if_neg (fun z => b00 h_235 z.2.1)]; exact ⟨rfl, rfl⟩) | (rw [e2, if_neg (fun z => h_249 z.2.2)]; exact ⟨rfl, rfl⟩) | (rw [e2, if_pos ⟨h_228, by decide, h_249⟩]; exact ⟨rfl, rfl⟩)
        · refine V_top (b := 1) e2 ?_
          refine V_aaldC (q := 5) rfl (by omega) rfl dX4_succeeds_243 ?_
          refine V_get (C := RX1) (T := TX1) (N := 13) (ci := 1) (q := 7) (ref := "OrderChains$Channel") 0 rfl il_X4_succeeds_X1 rfl rfl fl_X4_succeeds_47 rfl rfl dX4_succeeds_244 ?_
          refine V_iload (i := 5) dX4_succeeds_247 rfl ?_
          refine V_icmp_ne (tgt := 256) (by have := (he.2.2.2.2.2.2 0 (by omega)).1; have := (he.2.2.2.2.2.2 1 (by omega)).1; have := (he.2.2.2.2.2.2 2 (by omega)).1; omega) (by omega) dX4_succeeds_249 rfl (fun h_249 => ?_) (fun h_249 => ?_)
          · refine V_iconst (v := 0) dX4_succeeds_256 rfl ?_
            refine V_same (X' := [eK G a e]) (flX (e := e)).symm ?_
            refine V_zret hR dX4_succeeds_257 (by first | exact Or.inl rfl | exact Or.inr rfl | omega) hkc hks ?_
            unfold scC
            simp only [e0, Nat.reduceEqDiff, if_true, if_false, reduceIte]
            first | (rw [if_neg (fun z => h_228 z.1)]; exact ⟨rfl, rfl⟩) | (rw [if_neg (fun z => b00 h_235 z.2.1)]; exact ⟨rfl, rfl⟩) | (rw [e2, if_neg (fun z => h_249 z.2.2)]; exact ⟨rfl, rfl⟩) | (rw [e2, if_pos ⟨h_228, by decide, h_249⟩]; exact ⟨rfl, rfl⟩)
          · refine V_iconst (v := 1) dX4_succeeds_252 rfl ?_
            refine V_goto (tgt := 257) dX4_succeeds_253 rfl ?_
            refine V_same (X' := [eK G a e]) (flX (e := e)).symm ?_
            refine V_zret hR dX4_succeeds_257 (by first | exact Or.inl rfl | exact Or.inr rfl | omega) hkc hks ?_
            unfold scC
            simp only [e0, Nat.reduceEqDiff, if_true, if_false, reduceIte]
            first | (rw [if_neg (fun z => h_228 z.1)]; exact ⟨rfl, rfl⟩) | (rw [if_neg (fun z => b00 h_235 z.2.1)]; exact ⟨rfl, rfl⟩) | (rw [e2, if_neg (fun z => h_249 z.2.2)]; exact ⟨rfl, rfl⟩) | (rw [e2, if_pos ⟨h_228, by decide, h_249⟩]; exact ⟨rfl, rfl⟩)
        · refine V_top (b := 2) e2 ?_
          refine V_aaldC (q := 5) rfl (by omega) rfl dX4_succeeds_243 ?_
          refine V_get (C := RX1) (T := TX1) (N := 13) (ci := 1) (q := 8) (ref := "OrderChains$Channel") 0 rfl il_X4_succeeds_X1 rfl rfl fl_X4_succeeds_47 rfl rfl dX4_succeeds_244 ?_
          refine V_iload (i := 5) dX4_succeeds_247 rfl ?_
          refine V_icmp_ne (tgt := 256) (by have := (he.2.2.2.2.2.2 0 (by omega)).1; have := (he.2.2.2.2.2.2 1 (by omega)).1; have := (he.2.2.2.2.2.2 2 (by omega)).1; omega) (by omega) dX4_succeeds_249 rfl (fun h_249 => ?_) (fun h_249 => ?_)
          · refine V_iconst (v := 0) dX4_succeeds_256 rfl ?_
            refine V_same (X' := [eK G a e]) (flX (e := e)).symm ?_
            refine V_zret hR dX4_succeeds_257 (by first | exact Or.inl rfl | exact Or.inr rfl | omega) hkc hks ?_
            unfold scC
            simp only [e0, Nat.reduceEqDiff, if_true, if_false, reduceIte]
            first | (rw [if_neg (fun z => h_228 z.1)]; exact ⟨rfl, rfl⟩) | (rw [if_neg (fun z => b00 h_235 z.2.1)]; exact ⟨rfl, rfl⟩) | (rw [e2, if_neg (fun z => h_249 z.2.2)]; exact ⟨rfl, rfl⟩) | (rw [e2, if_pos ⟨h_228, by decide, h_249⟩]; exact ⟨rfl, rfl⟩)
          · refine V_iconst (v := 1) dX4_succeeds_252 rfl ?_
            refine V_goto (tgt := 257) dX4_succeeds_253 rfl ?_
            refine V_same (X' := [eK G a e]) (flX (e := e)).symm ?_
            refine V_zret hR dX4_succeeds_257 (by first | exact Or.inl rfl | exact Or.inr rfl | omega) hkc hks ?_
            unfold scC
            simp only [e0, Nat.reduceEqDiff, if_true, if_false, reduceIte]
            first | (rw [if_neg (fun z => h_228 z.1)]; exact ⟨rfl, rfl⟩) | (rw [if_neg (fun z => b00 h_235 z.2.1)]; exact ⟨rfl, rfl⟩) | (rw [e2, if_neg (fun z => h_249 z.2.2)]; exact ⟨rfl, rfl⟩) | (rw [e2, if_pos ⟨h_228, by decide, h_249⟩]; exact ⟨rfl, rfl⟩)
  · refine V_top (b := 8) e0 ?_
    refine V_tableIn (tgt := 258) dX4_succeeds_64 (by omega) (by omega) (by omega) rfl rfl ?_
    refine V_iload_n (i := 3) dX4_succeeds_258 rfl rfl ?_
    refine V_if_ne (tgt := 287) (by omega) dX4_succeeds_259 rfl (fun h_259 => ?_) (fun h_259 => ?_)
    · refine V_iconst (v := 0) dX4_succeeds_287 rfl ?_
      refine V_zret hR dX4_succeeds_288 (by first | exact Or.inl rfl | exact Or.inr rfl | omega) hkc hks ?_
      unfold scC
      simp only [e0, Nat.reduceEqDiff, if_true, if_false, reduceIte]
      first | (rw [if_neg (fun z => h_259 z.1)]; exact ⟨rfl, rfl⟩) | (rw [if_neg (fun z => b00 h_266 z.2.1)]; exact ⟨rfl, rfl⟩) | (rw [e2, if_neg (fun z => z.2.2 h_280)]; exact ⟨rfl, rfl⟩) | (rw [e2, if_pos ⟨h_259, by decide, h_280⟩]; exact ⟨rfl, rfl⟩)
    · refine V_iload_n (i := 2) dX4_succeeds_262 rfl rfl ?_
      refine V_callSN (As := _) (rest := []) (host := RX6) [] (c_X6_isChannel l G (g / 1000 % 10) (by omega)) vy_X6_isChannel gX4_succeeds_X6_isChannel_n40 (fun _ h => h.2.2.2.2.1) st_X4_succeeds_X6_isChannel in_X4_succeeds_X6 rfl rfl rfl rfl ⟨rfl, rfl⟩ ⟨rfl, rfl⟩ ⟨Nat.zero_le _, Nat.zero_le _⟩ rfl dX4_succeeds_263 (fun v Y hE => ?_)
      obtain ⟨rfl, rfl⟩ := hE
      refine ⟨rfl, ?_⟩
      dsimp only [vfill, List.set_cons_zero, List.set_cons_succ, Option.toList, List.cons_append, List.nil_append, Nat.add_zero]
      refine V_if_eq (tgt := 287) (by split <;> decide) dX4_succeeds_266 rfl (fun h_266 => ?_) (fun h_266 => ?_)
      · refine V_iconst (v := 0) dX4_succeeds_287 rfl ?_
        refine V_zret hR dX4_succeeds_288 (by first | exact Or.inl rfl | exact Or.inr rfl | omega) hkc hks ?_
        unfold scC
        simp only [e0, Nat.reduceEqDiff, if_true, if_false, reduceIte]
        first | (rw [if_neg (fun z => h_259 z.1)]; exact ⟨rfl, rfl⟩) | (rw [if_neg (fun z => b00 h_266 z.2.1)]; exact ⟨rfl, rfl⟩) | (rw [e2, if_neg (fun z => z.2.2 h_280)]; exact ⟨rfl, rfl⟩) | (rw [e2, if_pos ⟨h_259, by decide, h_280⟩]; exact ⟨rfl, rfl⟩)
      · refine V_same (X' := eX G a e) flX ?_
        dsimp only [eX]
        refine V_aload_n (i := 0) dX4_succeeds_269 rfl rfl ?_
        refine V_get (C := RX2) (T := TX2) (N := 11) (ci := 2) (q := 0) (ref := "OrderChains$Engine") 4 rfl il_X4_succeeds_X2 rfl rfl fl_X4_succeeds_43 rfl rfl dX4_succeeds_270 ?_
        refine V_iload_n (i := 2) dX4_succeeds_273 rfl rfl ?_
        rcases (show g / 1000 % 10 = 0 ∨ g / 1000 % 10 = 1 ∨ g / 1000 % 10 = 2 by have := b01 h_266; omega) with e2 | e2 | e2
        · refine V_top (b := 0) e2 ?_
          refine V_aaldC (q := 5) rfl (by omega) rfl dX4_succeeds_274 ?_
          refine V_get (C := RX1) (T := TX1) (N := 13) (ci := 1) (q := 6) (ref := "OrderChains$Channel") 4 rfl il_X4_succeeds_X1 rfl rfl fl_X4_succeeds_53 rfl rfl dX4_succeeds_275 ?_
          refine V_iload (i := 8) dX4_succeeds_278 rfl ?_
          refine V_icmp_ltG (tgt := 287) dX4_succeeds_280 rfl (fun h_280 => ?_) (fun h_280 => ?_)
          · refine V_iconst (v := 0) dX4_succeeds_287 rfl ?_
            refine V_same (X' := [eK G a e]) (flX (e := e)).symm ?_
            refine V_zret hR dX4_succeeds_288 (by first | exact Or.inl rfl | exact Or.inr rfl | omega) hkc hks ?_
            unfold scC
            simp only [e0, Nat.reduceEqDiff, if_true, if_false, reduceIte]
            first | (rw [if_neg (fun z => h_259 z.1)]; exact ⟨rfl, rfl⟩) | (rw [if_neg (fun z => b00 h_266 z.2.1)]; exact ⟨rfl, rfl⟩) | (rw [e2, if_neg (fun z => z.2.2 h_280)]; exact ⟨rfl, rfl⟩) | (rw [e2, if_pos ⟨h_259, by decide, h_280⟩]; exact ⟨rfl, rfl⟩)
          · refine V_iconst (v := 1) dX4_succeeds_283 rfl ?_
            refine V_goto (tgt := 288) dX4_succeeds_284 rfl ?_
            refine V_same (X' := [eK G a e]) (flX (e := e)).symm ?_
            refine V_zret hR dX4_succeeds_288 (by first | exact Or.inl rfl | exact Or.inr rfl | omega) hkc hks ?_
            unfold scC
            simp only [e0, Nat.reduceEqDiff, if_true, if_false, reduceIte]
            first | (rw [if_neg (fun z => h_259 z.1)]; exact ⟨rfl, rfl⟩) | (rw [if_neg (fun z => b00 h_266 z.2.1)]; exact ⟨rfl, rfl⟩) | (rw [e2, if_neg (fun z => z.2.2 h_280)]; exact ⟨rfl, rfl⟩) | (rw [e2, if_pos ⟨h_259, by decide, h_280⟩]; exact ⟨rfl, rfl⟩)
        · refine V_top (b := 1) e2 ?_
          refine V_aaldC (q := 5) rfl (by omega) rfl dX4_succeeds_274 ?_
          refine V_get (C := RX1) (T := TX1) (N := 13) (ci := 1) (q := 7) (ref := "OrderChains$Channel") 4 rfl il_X4_succeeds_X1 rfl rfl fl_X4_succeeds_53 rfl rfl dX4_succeeds_275 ?_
          refine V_iload (i := 8) dX4_succeeds_278 rfl ?_
          refine V_icmp_ltG (tgt := 287) dX4_succeeds_280 rfl (fun h_280 => ?_) (fun h_280 => ?_)
          · refine V_iconst (v := 0) dX4_succeeds_287 rfl ?_
            refine V_same (X' := [eK G a e]) (flX (e := e)).symm ?_
            refine V_zret hR dX4_succeeds_288 (by first | exact Or.inl rfl | exact Or.inr rfl | omega) hkc hks ?_
            unfold scC
            simp only [e0, Nat.reduceEqDiff, if_true, if_false, reduceIte]
            first | (rw [if_neg (fun z => h_259 z.1)]; exact ⟨rfl, rfl⟩) | (rw [if_neg (fun z => b00 h_266 z.2.1)]; exact ⟨rfl, rfl⟩) | (rw [e2, if_neg (fun z => z.2.2 h_280)]; exact ⟨rfl, rfl⟩) | (rw [e2, if_pos ⟨h_259, by decide, h_280⟩]; exact ⟨rfl, rfl⟩)
          · refine V_iconst (v := 1) dX4_succeeds_283 rfl ?_
            refine V_goto (tgt := 288) dX4_succeeds_284 rfl ?_
            refine V_same (X' := [eK G a e]) (flX (e := e)).symm ?_
            refine V_zret hR dX4_succeeds_288 (by first | exact Or.inl rfl | exact Or.inr rfl | omega) hkc hks ?_
            unfold scC
            simp only [e0, Nat.reduceEqDiff, if_true, if_false, reduceIte]
            first | (rw [if_neg (fun z => h_259 z.1)]; exact ⟨rfl, rfl⟩) | (rw [if_neg (fun z => b00 h_266 z.2.1)]; exact ⟨rfl, rfl⟩) | (rw [e2, if_neg (fun z => z.2.2 h_280)]; exact ⟨rfl, rfl⟩) | (rw [e2, if_pos ⟨h_259, by decide, h_280⟩]; exact ⟨rfl, rfl⟩)
        · refine V_top (b := 2) e2 ?_
          refine V_aaldC (q := 5) rfl (by omega) rfl dX4_succeeds_274 ?_
          refine V_get (C := RX1) (T := TX1) (N := 13) (ci := 1) (q := 8) (ref := "OrderChains$Channel") 4 rfl il_X4_succeeds_X1 rfl rfl fl_X4_succeeds_53 rfl rfl dX4_succeeds_275 ?_
          refine V_iload (i := 8) dX4_succeeds_278 rfl ?_
          refine V_icmp_ltG (tgt := 287) dX4_succeeds_280 rfl (fun h_280 => ?_) (fun h_280 => ?_)
          · refine V_iconst (v := 0) dX4_succeeds_287 rfl ?_
            refine V_same (X' := [eK G a e]) (flX (e := e)).symm ?_
            refine V_zret hR dX4_succeeds_288 (by first | exact Or.inl rfl | exact Or.inr rfl | omega) hkc hks ?_
            unfold scC
            simp only [e0, Nat.reduceEqDiff, if_true, if_false, reduceIte]
            first | (rw [if_neg (fun z => h_259 z.1)]; exact ⟨rfl, rfl⟩) | (rw [if_neg (fun z => b00 h_266 z.2.1)]; exact ⟨rfl, rfl⟩) | (rw [e2, if_neg (fun z => z.2.2 h_280)]; exact ⟨rfl, rfl⟩) | (rw [e2, if_pos ⟨h_259, by decide, h_280⟩]; exact ⟨rfl, rfl⟩)
          · refine V_iconst (v := 1) dX4_succeeds_283 rfl ?_
            refine V_goto (tgt := 288) dX4_succeeds_284 rfl ?_
            refine V_same (X' := [eK G a e]) (flX (e := e)).symm ?_
            refine V_zret hR dX4_succeeds_288 (by first | exact Or.inl rfl | exact Or.inr rfl | omega) hkc hks ?_
            unfold scC
            simp only [e0, Nat.reduceEqDiff, if_true, if_false, reduceIte]
            first | (rw [if_neg (fun z => h_259 z.1)]; exact ⟨rfl, rfl⟩) | (rw [if_neg (fun z => b00 h_266 z.2.1)]; exact ⟨rfl, rfl⟩) | (rw [e2, if_neg (fun z => z.2.2 h_280)]; exact ⟨rfl, rfl⟩) | (rw [e2, if_pos ⟨h_259, by decide, h_280⟩]; exact ⟨rfl, rfl⟩)
  · refine V_top (b := 9) e0 ?_
    refine V_tableIn (tgt := 289) dX4_succeeds_64 (by omega) (by omega) (by omega) rfl rfl ?_
    refine V_iload (i := 6) dX4_succeeds_289 rfl ?_
    refine V_if_ne (tgt := 307) (by omega) dX4_succeeds_291 rfl (fun h_291 => ?_) (fun h_291 => ?_)
    · refine V_iconst (v := 0) dX4_succeeds_307 rfl ?_
      refine V_zret hR dX4_succeeds_308 (by first | exact Or.inl rfl | exact Or.inr rfl | omega) hkc hks ?_
      unfold scC
      simp only [e0, Nat.reduceEqDiff, if_true, if_false, reduceIte]
      first | (rw [if_neg (fun z => h_291 z.1)]; exact ⟨rfl, rfl⟩) | (rw [if_neg (fun z => z.2 h_300)]; exact ⟨rfl, rfl⟩) | (rw [if_pos ⟨h_291, h_300⟩]; exact ⟨rfl, rfl⟩)
    · refine V_same (X' := eX G a e) flX ?_
      dsimp only [eX]
      refine V_aload_n (i := 0) dX4_succeeds_294 rfl rfl ?_
      refine V_get (C := RX2) (T := TX2) (N := 11) (ci := 2) (q := 0) (ref := "OrderChains$Engine") 7 rfl il_X4_succeeds_X2 rfl rfl fl_X4_succeeds_56 rfl rfl dX4_succeeds_295 ?_
      refine V_iload (i := 8) dX4_succeeds_298 rfl ?_
      refine V_icmp_gtG (tgt := 307) dX4_succeeds_300 rfl (fun h_300 => ?_) (fun h_300 => ?_)
      · refine V_iconst (v := 0) dX4_succeeds_307 rfl ?_
        refine V_same (X' := [eK G a e]) (flX (e := e)).symm ?_
        refine V_zret hR dX4_succeeds_308 (by first | exact Or.inl rfl | exact Or.inr rfl | omega) hkc hks ?_
        unfold scC
        simp only [e0, Nat.reduceEqDiff, if_true, if_false, reduceIte]
        first | (rw [if_neg (fun z => h_291 z.1)]; exact ⟨rfl, rfl⟩) | (rw [if_neg (fun z => z.2 h_300)]; exact ⟨rfl, rfl⟩) | (rw [if_pos ⟨h_291, h_300⟩]; exact ⟨rfl, rfl⟩)
      · refine V_iconst (v := 1) dX4_succeeds_303 rfl ?_
        refine V_goto (tgt := 308) dX4_succeeds_304 rfl ?_
        refine V_same (X' := [eK G a e]) (flX (e := e)).symm ?_
        refine V_zret hR dX4_succeeds_308 (by first | exact Or.inl rfl | exact Or.inr rfl | omega) hkc hks ?_
        unfold scC
        simp only [e0, Nat.reduceEqDiff, if_true, if_false, reduceIte]
        first | (rw [if_neg (fun z => h_291 z.1)]; exact ⟨rfl, rfl⟩) | (rw [if_neg (fun z => z.2 h_300)]; exact ⟨rfl, rfl⟩) | (rw [if_pos ⟨h_291, h_300⟩]; exact ⟨rfl, rfl⟩)

end SCRIPT
