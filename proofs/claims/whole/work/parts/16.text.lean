section TEXT
def tR (b : Nat) (r : Nat → Nat) : va_W := [(b, .inr (4, [.int (nI (r 0)), .int (nI (r 1)), .int (nI (r 2)), .int (nI (r 3)), .int (nI (r 4))]))]
abbrev vR : Type := (Nat → Nat) × vE
def tFS (c : Nat) (r : Nat → Nat) : Nat × (Nat → Nat) :=
  if c = 64 then (1, va_up r 0 2) else if c = 111 then (1, va_up r 0 5) else if c = 115 then (1, va_up r 0 6)
  else if 48 ≤ c ∧ c ≤ 57 ∧ r 2 < 96 then (1, va_up (va_up r 1 (c - 48)) 0 4) else (0, r)
def tD (d : Nat) (x : vR) : Nat × vR :=
  if x.1 0 = 2 then (1, va_up (va_up x.1 1 d) 0 3, x.2)
  else if x.1 0 = 3 then (if 10 * x.1 1 + d < 96 then (1, va_up (va_up x.1 2 (10 * x.1 1 + d)) 0 1, x.2) else (0, x))
  else if x.1 0 = 4 then (1, va_up (va_up x.1 2 (x.1 2 + 1)) 0 1, va_up x.2.1 (x.1 2) (10 * x.1 1 + d), va_up x.2.2.1 (x.1 2) (x.1 3), x.2.2.2)
  else if x.1 0 = 5 then (if d < 4 then (1, va_up (va_up x.1 3 d) 0 1, x.2) else (0, x))
  else if x.1 0 = 6 then (if d < 3 ∧ x.2.2.2.2.2.2.2 d 0 = 0 then (1, va_up (va_up x.1 4 d) 0 7, x.2) else (0, x))
  else if x.1 0 = 7 then (1, va_up (va_up x.1 1 d) 0 8, x.2)
  else if 10 * x.1 1 + d < 96 then (1, va_up x.1 0 1, x.2.1, x.2.2.1, x.2.2.2.1, x.2.2.2.2.1, x.2.2.2.2.2.1, x.2.2.2.2.2.2.1, va_up x.2.2.2.2.2.2.2 (x.1 4) (qBegin (10 * x.1 1 + d) (x.2.2.2.2.2.2.2 (x.1 4)))) else (0, x)
def stT (c : Nat) (x : vR) : Nat × vR :=
  if x.1 0 = 0 then (if c = 69 then 1 else 0, va_up x.1 0 1, x.2)
  else if x.1 0 = 1 then ((tFS c x.1).1, (tFS c x.1).2, x.2)
  else if 48 ≤ c ∧ c ≤ 57 then tD (c - 48) x else (0, x)
def rB (r : Nat → Nat) : Prop := r 0 < 9 ∧ r 1 < 10 ∧ r 2 ≤ 96 ∧ (r 0 = 4 → r 2 < 96) ∧ r 3 < 4 ∧ r 4 < 3
theorem tFS_01 (c : Nat) (r : Nat → Nat) : (tFS c r).1 = 0 ∨ (tFS c r).1 = 1 := by
  unfold tFS
  repeat' split
  all_goals simp
theorem tD_01 (d : Nat) (x : vR) : (tD d x).1 = 0 ∨ (tD d x).1 = 1 := by
  unfold tD
  repeat' split
  all_goals simp

abbrev rX6_isCell : Room := { frames := 0, cells := 0, slots := 0, locals := 0 }
theorem vy_X6_isCell : vY yX6_isCell wsX6_isCell cX6_isCell 1 (some .boolean) 1 := ⟨⟨_, rfl⟩, by decide +kernel, by decide +kernel, by decide +kernel⟩
set_option maxHeartbeats 4000000 in
set_option maxRecDepth 100000 in
/-- X6_isCell -/
theorem c_X6_isCell (l : Launch) (G : vG) (p : Nat) (hp : p < 4294967296) : Kc l G yX6_isCell wsX6_isCell rX6_isCell [.int (nI p)] [] (fun r Y => r = some (.int (nI (if p < 96 then 1 else 0))) ∧ Y = []) 0 0 := by
  refine V_enter (own := RX6) [some (.int (nI p))] (by decide +kernel) rfl rfl (Nat.le_of_ble_eq_true rfl) rfl (fun Γ hR hin => ?_)
  have hkc : 0 ≤ 0 := Nat.le_refl 0
  have hks : 0 ≤ 0 := Nat.le_refl 0
  refine V_iload_n (i := 0) dX6_isCell_0 rfl rfl ?_
  refine V_if_lt (tgt := 14) hp dX6_isCell_1 rfl (fun h_1 => ?_) (fun h_1 => ?_)
  · refine V_iconst (v := 0) dX6_isCell_14 rfl ?_
    refine V_zret hR dX6_isCell_15 (by first | exact Or.inl rfl | exact Or.inr rfl | omega) hkc hks ?_
    refine ⟨?_, rfl⟩
    first | (rw [if_pos (show p < 96 by omega)]; done) | (rw [if_neg (show ¬ p < 96 by omega)]; done)
  · refine V_iload_n (i := 0) dX6_isCell_4 rfl rfl ?_
    refine V_bipush (v := 96) dX6_isCell_5 (by decide) ?_
    refine V_icmp_geA (tgt := 14) hp (by omega) dX6_isCell_7 rfl (fun h_7 => ?_) (fun h_7 => ?_)
    · refine V_iconst (v := 0) dX6_isCell_14 rfl ?_
      refine V_zret hR dX6_isCell_15 (by first | exact Or.inl rfl | exact Or.inr rfl | omega) hkc hks ?_
      refine ⟨?_, rfl⟩
      first | (rw [if_pos (show p < 96 by omega)]; done) | (rw [if_neg (show ¬ p < 96 by omega)]; done)
    · refine V_iconst (v := 1) dX6_isCell_10 rfl ?_
      refine V_goto (tgt := 15) dX6_isCell_11 rfl ?_
      refine V_zret hR dX6_isCell_15 (by first | exact Or.inl rfl | exact Or.inr rfl | omega) hkc hks ?_
      refine ⟨?_, rfl⟩
      first | (rw [if_pos (show p < 96 by omega)]; done) | (rw [if_neg (show ¬ p < 96 by omega)]; done)

abbrev rX6_isChannel : Room := { frames := 0, cells := 0, slots := 0, locals := 0 }
theorem vy_X6_isChannel : vY yX6_isChannel wsX6_isChannel cX6_isChannel 1 (some .boolean) 1 := ⟨⟨_, rfl⟩, by decide +kernel, by decide +kernel, by decide +kernel⟩
set_option maxHeartbeats 4000000 in
set_option maxRecDepth 100000 in
/-- X6_isChannel -/
theorem c_X6_isChannel (l : Launch) (G : vG) (p : Nat) (hp : p < 4294967296) : Kc l G yX6_isChannel wsX6_isChannel rX6_isChannel [.int (nI p)] [] (fun r Y => r = some (.int (nI (if p < 3 then 1 else 0))) ∧ Y = []) 0 0 := by
  refine V_enter (own := RX6) [some (.int (nI p))] (by decide +kernel) rfl rfl (Nat.le_of_ble_eq_true rfl) rfl (fun Γ hR hin => ?_)
  have hkc : 0 ≤ 0 := Nat.le_refl 0
  have hks : 0 ≤ 0 := Nat.le_refl 0
  refine V_iload_n (i := 0) dX6_isChannel_0 rfl rfl ?_
  refine V_if_lt (tgt := 13) hp dX6_isChannel_1 rfl (fun h_1 => ?_) (fun h_1 => ?_)
  · refine V_iconst (v := 0) dX6_isChannel_13 rfl ?_
    refine V_zret hR dX6_isChannel_14 (by first | exact Or.inl rfl | exact Or.inr rfl | omega) hkc hks ?_
    refine ⟨?_, rfl⟩
    first | (rw [if_pos (show p < 3 by omega)]; done) | (rw [if_neg (show ¬ p < 3 by omega)]; done)
  · refine V_iload_n (i := 0) dX6_isChannel_4 rfl rfl ?_
    refine V_iconst (v := 3) dX6_isChannel_5 rfl ?_
    refine V_icmp_ge (tgt := 13) (by omega) (by omega) dX6_isChannel_6 rfl (fun h_6 => ?_) (fun h_6 => ?_)
    · refine V_iconst (v := 0) dX6_isChannel_13 rfl ?_
      refine V_zret hR dX6_isChannel_14 (by first | exact Or.inl rfl | exact Or.inr rfl | omega) hkc hks ?_
      refine ⟨?_, rfl⟩
      first | (rw [if_pos (show p < 3 by omega)]; done) | (rw [if_neg (show ¬ p < 3 by omega)]; done)
    · refine V_iconst (v := 1) dX6_isChannel_9 rfl ?_
      refine V_goto (tgt := 14) dX6_isChannel_10 rfl ?_
      refine V_zret hR dX6_isChannel_14 (by first | exact Or.inl rfl | exact Or.inr rfl | omega) hkc hks ?_
      refine ⟨?_, rfl⟩
      first | (rw [if_pos (show p < 3 by omega)]; done) | (rw [if_neg (show ¬ p < 3 by omega)]; done)

abbrev rX5_isDigit : Room := { frames := 0, cells := 0, slots := 0, locals := 0 }
theorem vy_X5_isDigit : vY yX5_isDigit wsX5_isDigit cX5_isDigit 1 (some .boolean) 1 := ⟨⟨_, rfl⟩, by decide +kernel, by decide +kernel, by decide +kernel⟩
set_option maxHeartbeats 4000000 in
set_option maxRecDepth 100000 in
/-- TextReader.isDigit -/
theorem c_X5_isDigit (l : Launch) (G : vG) (c : Nat) (hc : c < 256) : Kc l G yX5_isDigit wsX5_isDigit rX5_isDigit [.int (nI c)] [] (fun r Y => r = some (.int (nI (if 48 ≤ c ∧ c ≤ 57 then 1 else 0))) ∧ Y = []) 0 0 := by
  refine V_enter (own := RX5) [some (.int (nI c))] (by decide +kernel) rfl rfl (Nat.le_of_ble_eq_true rfl) rfl (fun Γ hR hin => ?_)
  have hkc : 0 ≤ 0 := Nat.le_refl 0
  have hks : 0 ≤ 0 := Nat.le_refl 0
  refine V_iload_n (i := 0) dX5_isDigit_0 rfl rfl ?_
  refine V_bipush (v := 48) dX5_isDigit_1 (by decide) ?_
  refine V_icmp_lt (tgt := 16) (by omega) (by omega) dX5_isDigit_3 rfl (fun h_3 => ?_) (fun h_3 => ?_)
  · refine V_iconst (v := 0) dX5_isDigit_16 rfl ?_
    refine V_zret hR dX5_isDigit_17 (by first | exact Or.inl rfl | exact Or.inr rfl | omega) hkc hks ?_
    refine ⟨?_, rfl⟩
    first | (rw [if_pos (show 48 ≤ c ∧ c ≤ 57 by omega)]; done) | (rw [if_neg (show ¬ (48 ≤ c ∧ c ≤ 57) by omega)]; done)
  · refine V_iload_n (i := 0) dX5_isDigit_6 rfl rfl ?_
    refine V_bipush (v := 57) dX5_isDigit_7 (by decide) ?_
    refine V_icmp_gt (tgt := 16) (by omega) (by omega) dX5_isDigit_9 rfl (fun h_9 => ?_) (fun h_9 => ?_)
    · refine V_iconst (v := 0) dX5_isDigit_16 rfl ?_
      refine V_zret hR dX5_isDigit_17 (by first | exact Or.inl rfl | exact Or.inr rfl | omega) hkc hks ?_
      refine ⟨?_, rfl⟩
      first | (rw [if_pos (show 48 ≤ c ∧ c ≤ 57 by omega)]; done) | (rw [if_neg (show ¬ (48 ≤ c ∧ c ≤ 57) by omega)]; done)
    · refine V_iconst (v := 1) dX5_isDigit_12 rfl ?_
      refine V_goto (tgt := 17) dX5_isDigit_13 rfl ?_
      refine V_zret hR dX5_isDigit_17 (by first | exact Or.inl rfl | exact Or.inr rfl | omega) hkc hks ?_
      refine ⟨?_, rfl⟩
      first | (rw [if_pos (show 48 ≤ c ∧ c ≤ 57 by omega)]; done) | (rw [if_neg (show ¬ (48 ≤ c ∧ c ≤ 57) by omega)]; done)

abbrev rX5_takesFirstDigit : Room := { frames := 1, cells := 0, slots := 0, locals := 20 }
theorem vy_X5_takesFirstDigit : vY yX5_takesFirstDigit wsX5_takesFirstDigit cX5_takesFirstDigit 2 (some .boolean) 1 := ⟨⟨_, rfl⟩, by decide +kernel, by decide +kernel, by decide +kernel⟩
theorem fl_X5_takesFirstDigit_18 : Cond.fieldLink RX5 18 "OrderChains$TextReader" "nextCell" "I" ∈ wsX5_takesFirstDigit := List.mem_of_getElem? (i := 1) rfl
theorem il_X5_takesFirstDigit_X5 : ∀ w ∈ wsX50, w ∈ wsX5_takesFirstDigit := fun _ h => List.mem_cons_of_mem _ (List.mem_append_right _ h)
theorem st_X5_takesFirstDigit_X6_isCell : Cond.static yX6_isCell ∈ wsX5_takesFirstDigit := List.mem_of_getElem? (i := 8) rfl
theorem in_X5_takesFirstDigit_X6 : Cond.initialized RX6 ∈ wsX5_takesFirstDigit := List.mem_of_getElem? (i := 9) rfl
theorem fl_X5_takesFirstDigit_15 : Cond.fieldLink RX5 15 "OrderChains$TextReader" "tens" "I" ∈ wsX5_takesFirstDigit := List.mem_of_getElem? (i := 2) rfl
theorem fl_X5_takesFirstDigit_11 : Cond.fieldLink RX5 11 "OrderChains$TextReader" "expected" "I" ∈ wsX5_takesFirstDigit := List.mem_of_getElem? (i := 3) rfl
set_option maxHeartbeats 4000000 in
set_option maxRecDepth 100000 in
/-- TextReader.takesFirstDigit -/
theorem c_X5_takesFirstDigit (l : Launch) (G : vG) (b c : Nat) (r : Nat → Nat) (hc : c < 256) (h2 : r 2 ≤ 96) : Kc l G yX5_takesFirstDigit wsX5_takesFirstDigit rX5_takesFirstDigit [.ref b, .int (nI c)] [tR b r] (fun v Y => v = some (.int (nI (if 48 ≤ c ∧ c ≤ 57 ∧ r 2 < 96 then 1 else 0))) ∧ Y = [tR b (if 48 ≤ c ∧ c ≤ 57 ∧ r 2 < 96 then va_up (va_up r 1 (c - 48)) 0 4 else r)]) 0 0 := by
  refine V_enter (own := RX5) [some (.ref b), some (.int (nI c))] (by decide +kernel) rfl rfl (Nat.le_of_ble_eq_true rfl) rfl (fun Γ hR hin => ?_)
  have hkc : 0 ≤ 0 := Nat.le_refl 0
  have hks : 0 ≤ 0 := Nat.le_refl 0
  refine V_iload_n (i := 1) dX5_takesFirstDigit_0 rfl rfl ?_
  refine V_callS (As := _) (rest := []) [] (c_X5_isDigit l G c hc) vy_X5_isDigit gX5_takesFirstDigit_X5_isDigit rfl rfl rfl rfl ⟨rfl, rfl⟩ ⟨rfl, rfl⟩ ⟨Nat.zero_le _, Nat.zero_le _⟩ rfl dX5_takesFirstDigit_1 (fun v Y hE => ?_)
  obtain ⟨rfl, rfl⟩ := hE
  refine ⟨rfl, ?_⟩
  dsimp only [vfill, List.set_cons_zero, List.set_cons_succ, Option.toList, List.cons_append, List.nil_append, Nat.add_zero]
  refine V_if_eq (tgt := 17) (by split <;> decide) dX5_takesFirstDigit_4 rfl (fun h_4 => ?_) (fun h_4 => ?_)
  · refine V_iconst (v := 0) dX5_takesFirstDigit_17 rfl ?_
    refine V_zret hR dX5_takesFirstDigit_18 (by first | exact Or.inl rfl | exact Or.inr rfl | omega) hkc hks ?_
    have hn : ¬ (48 ≤ c ∧ c ≤ 57 ∧ r 2 < 96) := by
      intro z
      first | (rw [if_pos ⟨z.1, z.2.1⟩] at h_4; exact absurd h_4 (by decide)) | (rw [if_pos z.2.2] at h_14; exact absurd h_14 (by decide))
    rw [if_neg hn, if_neg hn]
    exact ⟨rfl, rfl⟩
  · refine V_aload_n (i := 0) dX5_takesFirstDigit_7 rfl rfl ?_
    refine V_get (C := RX5) (T := TX5) (N := 5) (ci := 4) (q := 0) (ref := "OrderChains$TextReader") 2 rfl il_X5_takesFirstDigit_X5 rfl rfl fl_X5_takesFirstDigit_18 rfl rfl dX5_takesFirstDigit_8 ?_
    refine V_callSN (As := _) (rest := []) (host := RX6) [] (c_X6_isCell l G (r 2) (by omega)) vy_X6_isCell gX5_takesFirstDigit_X6_isCell_n49 (fun _ h => h.2.2.2.2.2.1) st_X5_takesFirstDigit_X6_isCell in_X5_takesFirstDigit_X6 rfl rfl rfl rfl ⟨rfl, rfl⟩ ⟨rfl, rfl⟩ ⟨Nat.zero_le _, Nat.zero_le _⟩ rfl dX5_takesFirstDigit_11 (fun v Y hE => ?_)
    obtain ⟨rfl, rfl⟩ := hE
    refine ⟨rfl, ?_⟩
    dsimp only [vfill, List.set_cons_zero, List.set_cons_succ, Option.toList, List.cons_append, List.nil_append, Nat.add_zero]
    refine V_if_ne (tgt := 19) (by split <;> decide) dX5_takesFirstDigit_14 rfl (fun h_14 => ?_) (fun h_14 => ?_)
    · refine V_aload_n (i := 0) dX5_takesFirstDigit_19 rfl rfl ?_
      refine V_iload_n (i := 1) dX5_takesFirstDigit_20 rfl rfl ?_
      refine V_bipush (v := 48) dX5_takesFirstDigit_21 (by decide) ?_
      refine V_isub dX5_takesFirstDigit_23 (by by_cases z : 48 ≤ c ∧ c ≤ 57; exact z.1; rw [if_neg z] at h_4; exact absurd rfl h_4) ?_
      refine V_put (C := RX5) (T := TX5) (N := 5) (ci := 4) (q := 0) (ref := "OrderChains$TextReader") (ty := .int) (ty0 := tyX5) 1 rfl il_X5_takesFirstDigit_X5 tyX5_ok nmX5 rfl rfl fl_X5_takesFirstDigit_15 rfl rfl rfl rfl rfl rfl dX5_takesFirstDigit_24 ?_
      dsimp only [List.set_cons_zero, List.set_cons_succ]
      refine V_aload_n (i := 0) dX5_takesFirstDigit_27 rfl rfl ?_
      refine V_iconst (v := 4) dX5_takesFirstDigit_28 rfl ?_
      refine V_put (C := RX5) (T := TX5) (N := 5) (ci := 4) (q := 0) (ref := "OrderChains$TextReader") (ty := .int) (ty0 := tyX5) 0 rfl il_X5_takesFirstDigit_X5 tyX5_ok nmX5 rfl rfl fl_X5_takesFirstDigit_11 rfl rfl rfl rfl rfl rfl dX5_takesFirstDigit_29 ?_
      dsimp only [List.set_cons_zero, List.set_cons_succ]
      refine V_iconst (v := 1) dX5_takesFirstDigit_32 rfl ?_
      refine V_zret hR dX5_takesFirstDigit_33 (by first | exact Or.inl rfl | exact Or.inr rfl | omega) hkc hks ?_
      have hy : 48 ≤ c ∧ c ≤ 57 ∧ r 2 < 96 := by
        by_cases z : 48 ≤ c ∧ c ≤ 57
        · by_cases z2 : r 2 < 96
          · exact ⟨z.1, z.2, z2⟩
          · rw [if_neg z2] at h_14; exact absurd rfl h_14
        · rw [if_neg z] at h_4; exact absurd rfl h_4
      rw [if_pos hy, if_pos hy]
      exact ⟨rfl, rfl⟩
    · refine V_iconst (v := 0) dX5_takesFirstDigit_17 rfl ?_
      refine V_zret hR dX5_takesFirstDigit_18 (by first | exact Or.inl rfl | exact Or.inr rfl | omega) hkc hks ?_
      have hn : ¬ (48 ≤ c ∧ c ≤ 57 ∧ r 2 < 96) := by
        intro z
        first | (rw [if_pos ⟨z.1, z.2.1⟩] at h_4; exact absurd h_4 (by decide)) | (rw [if_pos z.2.2] at h_14; exact absurd h_14 (by decide))
      rw [if_neg hn, if_neg hn]
      exact ⟨rfl, rfl⟩

theorem lk3 {x : Int} (h1 : x ≠ 64) (h2 : x ≠ 111) (h3 : x ≠ 115) : Op.lookupswitch.offset [(64, 35), (111, 42), (115, 49)] 57 x = 57 := by
  simp [Op.lookupswitch.offset, Ne.symm h1, Ne.symm h2, Ne.symm h3, h1, h2, h3]
abbrev rX5_takesFirstSign : Room := { frames := 2, cells := 0, slots := 0, locals := 41 }
theorem vy_X5_takesFirstSign : vY yX5_takesFirstSign wsX5_takesFirstSign cX5_takesFirstSign 2 (some .boolean) 1 := ⟨⟨_, rfl⟩, by decide +kernel, by decide +kernel, by decide +kernel⟩
theorem fl_X5_takesFirstSign_11 : Cond.fieldLink RX5 11 "OrderChains$TextReader" "expected" "I" ∈ wsX5_takesFirstSign := List.mem_of_getElem? (i := 1) rfl
theorem il_X5_takesFirstSign_X5 : ∀ w ∈ wsX50, w ∈ wsX5_takesFirstSign := fun _ h => List.mem_cons_of_mem _ (List.mem_append_right _ h)
set_option maxHeartbeats 4000000 in
set_option maxRecDepth 100000 in
/-- TextReader.takesFirstSign -/
theorem c_X5_takesFirstSign (l : Launch) (G : vG) (b c : Nat) (r : Nat → Nat) (hc : c < 256) (h2 : r 2 ≤ 96) : Kc l G yX5_takesFirstSign wsX5_takesFirstSign rX5_takesFirstSign [.ref b, .int (nI c)] [tR b r] (fun v Y => v = some (.int (nI (tFS c r).1)) ∧ Y = [tR b (tFS c r).2]) 0 0 := by
  refine V_enter (own := RX5) [some (.ref b), some (.int (nI c))] (by decide +kernel) rfl rfl (Nat.le_of_ble_eq_true rfl) rfl (fun Γ hR hin => ?_)
  have hkc : 0 ≤ 0 := Nat.le_refl 0
  have hks : 0 ≤ 0 := Nat.le_refl 0
  refine V_iload_n (i := 1) dX5_takesFirstSign_0 rfl rfl ?_
  rcases (show c = 64 ∨ c = 111 ∨ c = 115 ∨ (c ≠ 64 ∧ c ≠ 111 ∧ c ≠ 115) by omega) with ec | ec | ec | ec
  · subst ec
    refine V_lookup (tgt := 36) (off := 35) dX5_takesFirstSign_1 rfl rfl rfl ?_
    refine V_aload_n (i := 0) dX5_takesFirstSign_36 rfl rfl ?_
    refine V_iconst (v := 2) dX5_takesFirstSign_37 rfl ?_
    refine V_put (C := RX5) (T := TX5) (N := 5) (ci := 4) (q := 0) (ref := "OrderChains$TextReader") (ty := .int) (ty0 := tyX5) 0 rfl il_X5_takesFirstSign_X5 tyX5_ok nmX5 rfl rfl fl_X5_takesFirstSign_11 rfl rfl rfl rfl rfl rfl dX5_takesFirstSign_38 ?_
    dsimp only [List.set_cons_zero, List.set_cons_succ]
    refine V_iconst (v := 1) dX5_takesFirstSign_41 rfl ?_
    refine V_zret hR dX5_takesFirstSign_42 (by first | exact Or.inl rfl | exact Or.inr rfl | omega) hkc hks ?_
    first | exact ⟨rfl, rfl⟩ | (unfold tFS; rw [if_neg ec.1, if_neg ec.2.1, if_neg ec.2.2]; by_cases z : 48 ≤ c ∧ c ≤ 57 ∧ r 2 < 96 <;> simp [z])
  · subst ec
    refine V_lookup (tgt := 43) (off := 42) dX5_takesFirstSign_1 rfl rfl rfl ?_
    refine V_aload_n (i := 0) dX5_takesFirstSign_43 rfl rfl ?_
    refine V_iconst (v := 5) dX5_takesFirstSign_44 rfl ?_
    refine V_put (C := RX5) (T := TX5) (N := 5) (ci := 4) (q := 0) (ref := "OrderChains$TextReader") (ty := .int) (ty0 := tyX5) 0 rfl il_X5_takesFirstSign_X5 tyX5_ok nmX5 rfl rfl fl_X5_takesFirstSign_11 rfl rfl rfl rfl rfl rfl dX5_takesFirstSign_45 ?_
    dsimp only [List.set_cons_zero, List.set_cons_succ]
    refine V_iconst (v := 1) dX5_takesFirstSign_48 rfl ?_
    refine V_zret hR dX5_takesFirstSign_49 (by first | exact Or.inl rfl | exact Or.inr rfl | omega) hkc hks ?_
    first | exact ⟨rfl, rfl⟩ | (unfold tFS; rw [if_neg ec.1, if_neg ec.2.1, if_neg ec.2.2]; by_cases z : 48 ≤ c ∧ c ≤ 57 ∧ r 2 < 96 <;> simp [z])
  · subst ec
    refine V_lookup (tgt := 50) (off := 49) dX5_takesFirstSign_1 rfl rfl rfl ?_
    refine V_aload_n (i := 0) dX5_takesFirstSign_50 rfl rfl ?_
    refine V_bipush (v := 6) dX5_takesFirstSign_51 (by decide) ?_
    refine V_put (C := RX5) (T := TX5) (N := 5) (ci := 4) (q := 0) (ref := "OrderChains$TextReader") (ty := .int) (ty0 := tyX5) 0 rfl il_X5_takesFirstSign_X5 tyX5_ok nmX5 rfl rfl fl_X5_takesFirstSign_11 rfl rfl rfl rfl rfl rfl dX5_takesFirstSign_53 ?_
    dsimp only [List.set_cons_zero, List.set_cons_succ]
    refine V_iconst (v := 1) dX5_takesFirstSign_56 rfl ?_
    refine V_zret hR dX5_takesFirstSign_57 (by first | exact Or.inl rfl | exact Or.inr rfl | omega) hkc hks ?_
    first | exact ⟨rfl, rfl⟩ | (unfold tFS; rw [if_neg ec.1, if_neg ec.2.1, if_neg ec.2.2]; by_cases z : 48 ≤ c ∧ c ≤ 57 ∧ r 2 < 96 <;> simp [z])
  · skip
    refine V_lookup (tgt := 58) (off := 57) dX5_takesFirstSign_1 rfl (by rw [nI_sm (show c < 2147483648 by omega)]; exact lk3 (by omega) (by omega) (by omega)) rfl ?_
    refine V_aload_n (i := 0) dX5_takesFirstSign_58 rfl rfl ?_
    refine V_iload_n (i := 1) dX5_takesFirstSign_59 rfl rfl ?_
    refine V_callV (C := RX5) (q := 0) (ci := 4) (As := _) (rest := []) [0] (c_X5_takesFirstDigit l G b c r hc h2) vy_X5_takesFirstDigit gX5_takesFirstSign_X5_takesFirstDigit rfl rfl rfl rfl rfl rfl rfl ⟨rfl, rfl⟩ ⟨rfl, rfl⟩ ⟨Nat.zero_le _, Nat.zero_le _⟩ rfl dX5_takesFirstSign_60 (fun v Y hE => ?_)
    obtain ⟨rfl, rfl⟩ := hE
    refine ⟨rfl, ?_⟩
    dsimp only [vfill, List.set_cons_zero, List.set_cons_succ, Option.toList, List.cons_append, List.nil_append, Nat.add_zero]
    refine V_zret hR dX5_takesFirstSign_63 (by split <;> simp) hkc hks ?_
    first | exact ⟨rfl, rfl⟩ | (unfold tFS; rw [if_neg ec.1, if_neg ec.2.1, if_neg ec.2.2]; by_cases z : 48 ≤ c ∧ c ≤ 57 ∧ r 2 < 96 <;> simp [z])

abbrev rX5_takesCell : Room := { frames := 1, cells := 0, slots := 0, locals := 20 }
theorem vy_X5_takesCell : vY yX5_takesCell wsX5_takesCell cX5_takesCell 2 (some .boolean) 1 := ⟨⟨_, rfl⟩, by decide +kernel, by decide +kernel, by decide +kernel⟩
theorem st_X5_takesCell_X6_isCell : Cond.static yX6_isCell ∈ wsX5_takesCell := List.mem_of_getElem? (i := 3) rfl
theorem in_X5_takesCell_X6 : Cond.initialized RX6 ∈ wsX5_takesCell := List.mem_of_getElem? (i := 4) rfl
theorem fl_X5_takesCell_18 : Cond.fieldLink RX5 18 "OrderChains$TextReader" "nextCell" "I" ∈ wsX5_takesCell := List.mem_of_getElem? (i := 1) rfl
theorem il_X5_takesCell_X5 : ∀ w ∈ wsX50, w ∈ wsX5_takesCell := fun _ h => List.mem_cons_of_mem _ (List.mem_append_right _ h)
theorem fl_X5_takesCell_11 : Cond.fieldLink RX5 11 "OrderChains$TextReader" "expected" "I" ∈ wsX5_takesCell := List.mem_of_getElem? (i := 2) rfl
set_option maxHeartbeats 4000000 in
set_option maxRecDepth 100000 in
/-- TextReader.takesCell -/
theorem c_X5_takesCell (l : Launch) (G : vG) (b p : Nat) (r : Nat → Nat) (hp : p < 100) : Kc l G yX5_takesCell wsX5_takesCell rX5_takesCell [.ref b, .int (nI p)] [tR b r] (fun v Y => v = some (.int (nI (if p < 96 then 1 else 0))) ∧ Y = [tR b (if p < 96 then va_up (va_up r 2 p) 0 1 else r)]) 0 0 := by
  refine V_enter (own := RX5) [some (.ref b), some (.int (nI p))] (by decide +kernel) rfl rfl (Nat.le_of_ble_eq_true rfl) rfl (fun Γ hR hin => ?_)
  have hkc : 0 ≤ 0 := Nat.le_refl 0
  have hks : 0 ≤ 0 := Nat.le_refl 0
  refine V_iload_n (i := 1) dX5_takesCell_0 rfl rfl ?_
  refine V_callSN (As := _) (rest := []) (host := RX6) [] (c_X6_isCell l G p (by omega)) vy_X6_isCell gX5_takesCell_X6_isCell_n49 (fun _ h => h.2.2.2.2.2.1) st_X5_takesCell_X6_isCell in_X5_takesCell_X6 rfl rfl rfl rfl ⟨rfl, rfl⟩ ⟨rfl, rfl⟩ ⟨Nat.zero_le _, Nat.zero_le _⟩ rfl dX5_takesCell_1 (fun v Y hE => ?_)
  obtain ⟨rfl, rfl⟩ := hE
  refine ⟨rfl, ?_⟩
  dsimp only [vfill, List.set_cons_zero, List.set_cons_succ, Option.toList, List.cons_append, List.nil_append, Nat.add_zero]
  refine V_if_ne (tgt := 9) (by split <;> decide) dX5_takesCell_4 rfl (fun h_4 => ?_) (fun h_4 => ?_)
  · refine V_aload_n (i := 0) dX5_takesCell_9 rfl rfl ?_
    refine V_iload_n (i := 1) dX5_takesCell_10 rfl rfl ?_
    refine V_put (C := RX5) (T := TX5) (N := 5) (ci := 4) (q := 0) (ref := "OrderChains$TextReader") (ty := .int) (ty0 := tyX5) 2 rfl il_X5_takesCell_X5 tyX5_ok nmX5 rfl rfl fl_X5_takesCell_18 rfl rfl rfl rfl rfl rfl dX5_takesCell_11 ?_
    dsimp only [List.set_cons_zero, List.set_cons_succ]
    refine V_aload_n (i := 0) dX5_takesCell_14 rfl rfl ?_
    refine V_iconst (v := 1) dX5_takesCell_15 rfl ?_
    refine V_put (C := RX5) (T := TX5) (N := 5) (ci := 4) (q := 0) (ref := "OrderChains$TextReader") (ty := .int) (ty0 := tyX5) 0 rfl il_X5_takesCell_X5 tyX5_ok nmX5 rfl rfl fl_X5_takesCell_11 rfl rfl rfl rfl rfl rfl dX5_takesCell_16 ?_
    dsimp only [List.set_cons_zero, List.set_cons_succ]
    refine V_iconst (v := 1) dX5_takesCell_19 rfl ?_
    refine V_zret hR dX5_takesCell_20 (by first | exact Or.inl rfl | exact Or.inr rfl | omega) hkc hks ?_
    have hz : p < 96 := by
      by_cases z : p < 96
      · exact z
      · rw [if_neg z] at h_4; exact absurd rfl h_4
    rw [if_pos hz, if_pos hz]
    exact ⟨rfl, rfl⟩
  · refine V_iconst (v := 0) dX5_takesCell_7 rfl ?_
    refine V_zret hR dX5_takesCell_8 (by first | exact Or.inl rfl | exact Or.inr rfl | omega) hkc hks ?_
    have hz : ¬ p < 96 := fun z => by rw [if_pos z] at h_4; exact absurd h_4 (by decide)
    rw [if_neg hz, if_neg hz]
    exact ⟨rfl, rfl⟩

abbrev rX5_takesOwner : Room := { frames := 0, cells := 0, slots := 0, locals := 0 }
theorem vy_X5_takesOwner : vY yX5_takesOwner wsX5_takesOwner cX5_takesOwner 2 (some .boolean) 1 := ⟨⟨_, rfl⟩, by decide +kernel, by decide +kernel, by decide +kernel⟩
theorem fl_X5_takesOwner_21 : Cond.fieldLink RX5 21 "OrderChains$TextReader" "owner" "I" ∈ wsX5_takesOwner := List.mem_of_getElem? (i := 1) rfl
theorem il_X5_takesOwner_X5 : ∀ w ∈ wsX50, w ∈ wsX5_takesOwner := fun _ h => List.mem_cons_of_mem _ (List.mem_append_right _ h)
theorem fl_X5_takesOwner_11 : Cond.fieldLink RX5 11 "OrderChains$TextReader" "expected" "I" ∈ wsX5_takesOwner := List.mem_of_getElem? (i := 2) rfl
set_option maxHeartbeats 4000000 in
set_option maxRecDepth 100000 in
/-- TextReader.takesOwner -/
theorem c_X5_takesOwner (l : Launch) (G : vG) (b p : Nat) (r : Nat → Nat) (hp : p < 10) : Kc l G yX5_takesOwner wsX5_takesOwner rX5_takesOwner [.ref b, .int (nI p)] [tR b r] (fun v Y => v = some (.int (nI (if p < 4 then 1 else 0))) ∧ Y = [tR b (if p < 4 then va_up (va_up r 3 p) 0 1 else r)]) 0 0 := by
  refine V_enter (own := RX5) [some (.ref b), some (.int (nI p))] (by decide +kernel) rfl rfl (Nat.le_of_ble_eq_true rfl) rfl (fun Γ hR hin => ?_)
  have hkc : 0 ≤ 0 := Nat.le_refl 0
  have hks : 0 ≤ 0 := Nat.le_refl 0
  refine V_iload_n (i := 1) dX5_takesOwner_0 rfl rfl ?_
  refine V_iconst (v := 4) dX5_takesOwner_1 rfl ?_
  refine V_icmp_lt (tgt := 7) (by omega) (by omega) dX5_takesOwner_2 rfl (fun h_2 => ?_) (fun h_2 => ?_)
  · refine V_aload_n (i := 0) dX5_takesOwner_7 rfl rfl ?_
    refine V_iload_n (i := 1) dX5_takesOwner_8 rfl rfl ?_
    refine V_put (C := RX5) (T := TX5) (N := 5) (ci := 4) (q := 0) (ref := "OrderChains$TextReader") (ty := .int) (ty0 := tyX5) 3 rfl il_X5_takesOwner_X5 tyX5_ok nmX5 rfl rfl fl_X5_takesOwner_21 rfl rfl rfl rfl rfl rfl dX5_takesOwner_9 ?_
    dsimp only [List.set_cons_zero, List.set_cons_succ]
    refine V_aload_n (i := 0) dX5_takesOwner_12 rfl rfl ?_
    refine V_iconst (v := 1) dX5_takesOwner_13 rfl ?_
    refine V_put (C := RX5) (T := TX5) (N := 5) (ci := 4) (q := 0) (ref := "OrderChains$TextReader") (ty := .int) (ty0 := tyX5) 0 rfl il_X5_takesOwner_X5 tyX5_ok nmX5 rfl rfl fl_X5_takesOwner_11 rfl rfl rfl rfl rfl rfl dX5_takesOwner_14 ?_
    dsimp only [List.set_cons_zero, List.set_cons_succ]
    refine V_iconst (v := 1) dX5_takesOwner_17 rfl ?_
    refine V_zret hR dX5_takesOwner_18 (by first | exact Or.inl rfl | exact Or.inr rfl | omega) hkc hks ?_
    first | (rw [if_pos h_2, if_pos h_2]; exact ⟨rfl, rfl⟩) | (rw [if_neg h_2, if_neg h_2]; exact ⟨rfl, rfl⟩)
  · refine V_iconst (v := 0) dX5_takesOwner_5 rfl ?_
    refine V_zret hR dX5_takesOwner_6 (by first | exact Or.inl rfl | exact Or.inr rfl | omega) hkc hks ?_
    first | (rw [if_pos h_2, if_pos h_2]; exact ⟨rfl, rfl⟩) | (rw [if_neg h_2, if_neg h_2]; exact ⟨rfl, rfl⟩)

abbrev rX5_takesValue : Room := { frames := 0, cells := 0, slots := 0, locals := 0 }
theorem vy_X5_takesValue : vY yX5_takesValue wsX5_takesValue cX5_takesValue 3 (some .boolean) 2 := ⟨⟨_, rfl⟩, by decide +kernel, by decide +kernel, by decide +kernel⟩
theorem fl_X5_takesValue_67 : Cond.fieldLink RX5 67 "OrderChains$Engine" "values" "[I" ∈ wsX5_takesValue := List.mem_of_getElem? (i := 1) rfl
theorem il_X5_takesValue_X2 : ∀ w ∈ wsX20, w ∈ wsX5_takesValue := fun _ h => List.mem_cons_of_mem _ (List.mem_append_left _ (List.mem_append_right _ h))
theorem fl_X5_takesValue_18 : Cond.fieldLink RX5 18 "OrderChains$TextReader" "nextCell" "I" ∈ wsX5_takesValue := List.mem_of_getElem? (i := 2) rfl
theorem il_X5_takesValue_X5 : ∀ w ∈ wsX50, w ∈ wsX5_takesValue := fun _ h => List.mem_cons_of_mem _ (List.mem_append_right _ h)
theorem fl_X5_takesValue_71 : Cond.fieldLink RX5 71 "OrderChains$Engine" "owners" "[I" ∈ wsX5_takesValue := List.mem_of_getElem? (i := 3) rfl
theorem fl_X5_takesValue_21 : Cond.fieldLink RX5 21 "OrderChains$TextReader" "owner" "I" ∈ wsX5_takesValue := List.mem_of_getElem? (i := 4) rfl
theorem fl_X5_takesValue_11 : Cond.fieldLink RX5 11 "OrderChains$TextReader" "expected" "I" ∈ wsX5_takesValue := List.mem_of_getElem? (i := 5) rfl
set_option maxHeartbeats 4000000 in
set_option maxRecDepth 100000 in
/-- TextReader.takesValue -/
theorem c_X5_takesValue (l : Launch) (G : vG) (b : Nat) (r : Nat → Nat) (a val own mark lw bits s : Nat → Nat) (ch : Nat → Nat → Nat) (p : Nat) (h2 : r 2 < 96) : Kc l G yX5_takesValue wsX5_takesValue rX5_takesValue [.ref b, .ref (a 0), .int (nI p)] [tR b r, eO a s, iA G (a 1) 96 val, iA G (a 2) 96 own, iA G (a 3) 96 mark, iA G (a 4) 96 lw, eC G a, cX (a 6) (ch 0), cX (a 7) (ch 1), cX (a 8) (ch 2), iA G (a 9) 96 bits] (fun v Y => v = some (.int (nI 1)) ∧ Y = tR b (va_up (va_up r 2 (r 2 + 1)) 0 1) :: eX G a (va_up val (r 2) p, va_up own (r 2) (r 3), mark, lw, bits, s, ch)) 0 0 := by
  refine V_enter (own := RX5) [some (.ref b), some (.ref (a 0)), some (.int (nI p))] (by decide +kernel) rfl rfl (Nat.le_of_ble_eq_true rfl) rfl (fun Γ hR hin => ?_)
  have hkc : 0 ≤ 0 := Nat.le_refl 0
  have hks : 0 ≤ 0 := Nat.le_refl 0
  refine V_aload_n (i := 1) dX5_takesValue_0 rfl rfl ?_
  refine V_get (C := RX2) (T := TX2) (N := 11) (ci := 2) (q := 1) (ref := "OrderChains$Engine") 0 rfl il_X5_takesValue_X2 rfl rfl fl_X5_takesValue_67 rfl rfl dX5_takesValue_1 ?_
  refine V_aload_n (i := 0) dX5_takesValue_4 rfl rfl ?_
  refine V_get (C := RX5) (T := TX5) (N := 5) (ci := 4) (q := 0) (ref := "OrderChains$TextReader") 2 rfl il_X5_takesValue_X5 rfl rfl fl_X5_takesValue_18 rfl rfl dX5_takesValue_5 ?_
  refine V_iload_n (i := 2) dX5_takesValue_8 rfl rfl ?_
  refine V_iast (q := 2) rfl (by omega) rfl dX5_takesValue_9 ?_
  dsimp only [List.set_cons_zero, List.set_cons_succ]
  refine V_aload_n (i := 1) dX5_takesValue_10 rfl rfl ?_
  refine V_get (C := RX2) (T := TX2) (N := 11) (ci := 2) (q := 1) (ref := "OrderChains$Engine") 1 rfl il_X5_takesValue_X2 rfl rfl fl_X5_takesValue_71 rfl rfl dX5_takesValue_11 ?_
  refine V_aload_n (i := 0) dX5_takesValue_14 rfl rfl ?_
  refine V_get (C := RX5) (T := TX5) (N := 5) (ci := 4) (q := 0) (ref := "OrderChains$TextReader") 2 rfl il_X5_takesValue_X5 rfl rfl fl_X5_takesValue_18 rfl rfl dX5_takesValue_15 ?_
  refine V_aload_n (i := 0) dX5_takesValue_18 rfl rfl ?_
  refine V_get (C := RX5) (T := TX5) (N := 5) (ci := 4) (q := 0) (ref := "OrderChains$TextReader") 3 rfl il_X5_takesValue_X5 rfl rfl fl_X5_takesValue_21 rfl rfl dX5_takesValue_19 ?_
  refine V_iast (q := 3) rfl (by omega) rfl dX5_takesValue_22 ?_
  dsimp only [List.set_cons_zero, List.set_cons_succ]
  refine V_aload_n (i := 0) dX5_takesValue_23 rfl rfl ?_
  refine V_dup dX5_takesValue_24 rfl ?_
  refine V_get (C := RX5) (T := TX5) (N := 5) (ci := 4) (q := 0) (ref := "OrderChains$TextReader") 2 rfl il_X5_takesValue_X5 rfl rfl fl_X5_takesValue_18 rfl rfl dX5_takesValue_25 ?_
  refine V_iconst (v := 1) dX5_takesValue_28 rfl ?_
  refine V_iadd dX5_takesValue_29 ?_
  refine V_put (C := RX5) (T := TX5) (N := 5) (ci := 4) (q := 0) (ref := "OrderChains$TextReader") (ty := .int) (ty0 := tyX5) 2 rfl il_X5_takesValue_X5 tyX5_ok nmX5 rfl rfl fl_X5_takesValue_18 rfl rfl rfl rfl rfl rfl dX5_takesValue_30 ?_
  dsimp only [List.set_cons_zero, List.set_cons_succ]
  refine V_aload_n (i := 0) dX5_takesValue_33 rfl rfl ?_
  refine V_iconst (v := 1) dX5_takesValue_34 rfl ?_
  refine V_put (C := RX5) (T := TX5) (N := 5) (ci := 4) (q := 0) (ref := "OrderChains$TextReader") (ty := .int) (ty0 := tyX5) 0 rfl il_X5_takesValue_X5 tyX5_ok nmX5 rfl rfl fl_X5_takesValue_11 rfl rfl rfl rfl rfl rfl dX5_takesValue_35 ?_
  dsimp only [List.set_cons_zero, List.set_cons_succ]
  refine V_iconst (v := 1) dX5_takesValue_38 rfl ?_
  refine V_zret hR dX5_takesValue_39 (by first | exact Or.inl rfl | exact Or.inr rfl | omega) hkc hks ?_
  exact ⟨rfl, rfl⟩

abbrev rX5_takesChannel : Room := { frames := 1, cells := 0, slots := 0, locals := 20 }
theorem vy_X5_takesChannel : vY yX5_takesChannel wsX5_takesChannel cX5_takesChannel 3 (some .boolean) 2 := ⟨⟨_, rfl⟩, by decide +kernel, by decide +kernel, by decide +kernel⟩
theorem st_X5_takesChannel_X6_isChannel : Cond.static yX6_isChannel ∈ wsX5_takesChannel := List.mem_of_getElem? (i := 5) rfl
theorem in_X5_takesChannel_X6 : Cond.initialized RX6 ∈ wsX5_takesChannel := List.mem_of_getElem? (i := 6) rfl
theorem fl_X5_takesChannel_77 : Cond.fieldLink RX5 77 "OrderChains$Engine" "channels" "[LOrderChains$Channel;" ∈ wsX5_takesChannel := List.mem_of_getElem? (i := 1) rfl
theorem il_X5_takesChannel_X2 : ∀ w ∈ wsX20, w ∈ wsX5_takesChannel := fun _ h => List.mem_cons_of_mem _ (List.mem_append_left _ (List.mem_append_left _ (List.mem_append_right _ h)))
theorem fl_X5_takesChannel_81 : Cond.fieldLink RX5 81 "OrderChains$Channel" "condition" "I" ∈ wsX5_takesChannel := List.mem_of_getElem? (i := 2) rfl
theorem il_X5_takesChannel_X1 : ∀ w ∈ wsX10, w ∈ wsX5_takesChannel := fun _ h => List.mem_cons_of_mem _ (List.mem_append_left _ (List.mem_append_right _ h))
theorem fl_X5_takesChannel_24 : Cond.fieldLink RX5 24 "OrderChains$TextReader" "channelToStart" "I" ∈ wsX5_takesChannel := List.mem_of_getElem? (i := 3) rfl
theorem il_X5_takesChannel_X5 : ∀ w ∈ wsX50, w ∈ wsX5_takesChannel := fun _ h => List.mem_cons_of_mem _ (List.mem_append_right _ h)
theorem fl_X5_takesChannel_11 : Cond.fieldLink RX5 11 "OrderChains$TextReader" "expected" "I" ∈ wsX5_takesChannel := List.mem_of_getElem? (i := 4) rfl
set_option maxHeartbeats 4000000 in
set_option maxRecDepth 100000 in
/-- TextReader.takesChannel -/
theorem c_X5_takesChannel (l : Launch) (G : vG) (b : Nat) (r : Nat → Nat) (a val own mark lw bits s : Nat → Nat) (ch : Nat → Nat → Nat) (p : Nat) (hp : p < 10) (hc : ∀ h, h < 3 → ch h 0 < 4) : Kc l G yX5_takesChannel wsX5_takesChannel rX5_takesChannel [.ref b, .ref (a 0), .int (nI p)] [tR b r, eO a s, iA G (a 1) 96 val, iA G (a 2) 96 own, iA G (a 3) 96 mark, iA G (a 4) 96 lw, eC G a, cX (a 6) (ch 0), cX (a 7) (ch 1), cX (a 8) (ch 2), iA G (a 9) 96 bits] (fun v Y => v = some (.int (nI (if p < 3 ∧ ch p 0 = 0 then 1 else 0))) ∧ Y = tR b (if p < 3 ∧ ch p 0 = 0 then va_up (va_up r 4 p) 0 7 else r) :: eX G a (val, own, mark, lw, bits, s, ch)) 0 0 := by
  refine V_enter (own := RX5) [some (.ref b), some (.ref (a 0)), some (.int (nI p))] (by decide +kernel) rfl rfl (Nat.le_of_ble_eq_true rfl) rfl (fun Γ hR hin => ?_)
  have hkc : 0 ≤ 0 := Nat.le_refl 0
  have hks : 0 ≤ 0 := Nat.le_refl 0
  refine V_iload_n (i := 2) dX5_takesChannel_0 rfl rfl ?_
  refine V_callSN (As := _) (rest := []) (host := RX6) [] (c_X6_isChannel l G p (by omega)) vy_X6_isChannel gX5_takesChannel_X6_isChannel_n74 (fun _ h => h.2.2.2.2.2.2.1) st_X5_takesChannel_X6_isChannel in_X5_takesChannel_X6 rfl rfl rfl rfl ⟨rfl, rfl⟩ ⟨rfl, rfl⟩ ⟨Nat.zero_le _, Nat.zero_le _⟩ rfl dX5_takesChannel_1 (fun v Y hE => ?_)
  obtain ⟨rfl, rfl⟩ := hE
  refine ⟨rfl, ?_⟩
  dsimp only [vfill, List.set_cons_zero, List.set_cons_succ, Option.toList, List.cons_append, List.nil_append, Nat.add_zero]
  refine V_if_eq (tgt := 19) (by split <;> decide) dX5_takesChannel_4 rfl (fun h_4 => ?_) (fun h_4 => ?_)
  · refine V_iconst (v := 0) dX5_takesChannel_19 rfl ?_
    refine V_zret hR dX5_takesChannel_20 (by first | exact Or.inl rfl | exact Or.inr rfl | omega) hkc hks ?_
    first | (rw [if_neg (fun z => by rw [if_pos z.1] at h_4; exact absurd h_4 (by decide)), if_neg (fun z => by rw [if_pos z.1] at h_4; exact absurd h_4 (by decide))]; exact ⟨rfl, rfl⟩) | (rw [if_neg (fun z => h_16 z.2), if_neg (fun z => h_16 z.2)]; exact ⟨rfl, rfl⟩) | (rw [if_pos ⟨by decide, h_16⟩, if_pos ⟨by decide, h_16⟩]; exact ⟨rfl, rfl⟩)
  · have hp3 : p < 3 := by
      by_cases z : p < 3
      · exact z
      · rw [if_neg z] at h_4; exact absurd rfl h_4
    refine V_aload_n (i := 1) dX5_takesChannel_7 rfl rfl ?_
    refine V_get (C := RX2) (T := TX2) (N := 11) (ci := 2) (q := 1) (ref := "OrderChains$Engine") 4 rfl il_X5_takesChannel_X2 rfl rfl fl_X5_takesChannel_77 rfl rfl dX5_takesChannel_8 ?_
    rcases (show p = 0 ∨ p = 1 ∨ p = 2 by omega) with rfl | rfl | rfl
    · refine V_iload_n (i := 2) dX5_takesChannel_11 rfl rfl ?_
      refine V_aaldC (q := 6) rfl (by omega) rfl dX5_takesChannel_12 ?_
      refine V_get (C := RX1) (T := TX1) (N := 13) (ci := 1) (q := 7) (ref := "OrderChains$Channel") 0 rfl il_X5_takesChannel_X1 rfl rfl fl_X5_takesChannel_81 rfl rfl dX5_takesChannel_13 ?_
      refine V_if_eq (tgt := 21) (by have := hc 0 (by omega); have := hc 1 (by omega); have := hc 2 (by omega); omega) dX5_takesChannel_16 rfl (fun h_16 => ?_) (fun h_16 => ?_)
      · refine V_aload_n (i := 0) dX5_takesChannel_21 rfl rfl ?_
        refine V_iload_n (i := 2) dX5_takesChannel_22 rfl rfl ?_
        refine V_put (C := RX5) (T := TX5) (N := 5) (ci := 4) (q := 0) (ref := "OrderChains$TextReader") (ty := .int) (ty0 := tyX5) 4 rfl il_X5_takesChannel_X5 tyX5_ok nmX5 rfl rfl fl_X5_takesChannel_24 rfl rfl rfl rfl rfl rfl dX5_takesChannel_23 ?_
        dsimp only [List.set_cons_zero, List.set_cons_succ]
        refine V_aload_n (i := 0) dX5_takesChannel_26 rfl rfl ?_
        refine V_bipush (v := 7) dX5_takesChannel_27 (by decide) ?_
        refine V_put (C := RX5) (T := TX5) (N := 5) (ci := 4) (q := 0) (ref := "OrderChains$TextReader") (ty := .int) (ty0 := tyX5) 0 rfl il_X5_takesChannel_X5 tyX5_ok nmX5 rfl rfl fl_X5_takesChannel_11 rfl rfl rfl rfl rfl rfl dX5_takesChannel_29 ?_
        dsimp only [List.set_cons_zero, List.set_cons_succ]
        refine V_iconst (v := 1) dX5_takesChannel_32 rfl ?_
        refine V_zret hR dX5_takesChannel_33 (by first | exact Or.inl rfl | exact Or.inr rfl | omega) hkc hks ?_
        first | (rw [if_neg (fun z => by rw [if_pos z.1] at h_4; exact absurd h_4 (by decide)), if_neg (fun z => by rw [if_pos z.1] at h_4; exact absurd h_4 (by decide))]; exact ⟨rfl, rfl⟩) | (rw [if_neg (fun z => h_16 z.2), if_neg (fun z => h_16 z.2)]; exact ⟨rfl, rfl⟩) | (rw [if_pos ⟨by decide, h_16⟩, if_pos ⟨by decide, h_16⟩]; exact ⟨rfl, rfl⟩)
      · refine V_iconst (v := 0) dX5_takesChannel_19 rfl ?_
        refine V_zret hR dX5_takesChannel_20 (by first | exact Or.inl rfl | exact Or.inr rfl | omega) hkc hks ?_
        first | (rw [if_neg (fun z => by rw [if_pos z.1] at h_4; exact absurd h_4 (by decide)), if_neg (fun z => by rw [if_pos z.1] at h_4; exact absurd h_4 (by decide))]; exact ⟨rfl, rfl⟩) | (rw [if_neg (fun z => h_16 z.2), if_neg (fun z => h_16 z.2)]; exact ⟨rfl, rfl⟩) | (rw [if_pos ⟨by decide, h_16⟩, if_pos ⟨by decide, h_16⟩]; exact ⟨rfl, rfl⟩)
    · refine V_iload_n (i := 2) dX5_takesChannel_11 rfl rfl ?_
      refine V_aaldC (q := 6) rfl (by omega) rfl dX5_takesChannel_12 ?_
      refine V_get (C := RX1) (T := TX1) (N := 13) (ci := 1) (q := 8) (ref := "OrderChains$Channel") 0 rfl il_X5_takesChannel_X1 rfl rfl fl_X5_takesChannel_81 rfl rfl dX5_takesChannel_13 ?_
      refine V_if_eq (tgt := 21) (by have := hc 0 (by omega); have := hc 1 (by omega); have := hc 2 (by omega); omega) dX5_takesChannel_16 rfl (fun h_16 => ?_) (fun h_16 => ?_)
      · refine V_aload_n (i := 0) dX5_takesChannel_21 rfl rfl ?_
        refine V_iload_n (i := 2) dX5_takesChannel_22 rfl rfl ?_
        refine V_put (C := RX5) (T := TX5) (N := 5) (ci := 4) (q := 0) (ref := "OrderChains$TextReader") (ty := .int) (ty0 := tyX5) 4 rfl il_X5_takesChannel_X5 tyX5_ok nmX5 rfl rfl fl_X5_takesChannel_24 rfl rfl rfl rfl rfl rfl dX5_takesChannel_23 ?_
        dsimp only [List.set_cons_zero, List.set_cons_succ]
        refine V_aload_n (i := 0) dX5_takesChannel_26 rfl rfl ?_
        refine V_bipush (v := 7) dX5_takesChannel_27 (by decide) ?_
        refine V_put (C := RX5) (T := TX5) (N := 5) (ci := 4) (q := 0) (ref := "OrderChains$TextReader") (ty := .int) (ty0 := tyX5) 0 rfl il_X5_takesChannel_X5 tyX5_ok nmX5 rfl rfl fl_X5_takesChannel_11 rfl rfl rfl rfl rfl rfl dX5_takesChannel_29 ?_
        dsimp only [List.set_cons_zero, List.set_cons_succ]
        refine V_iconst (v := 1) dX5_takesChannel_32 rfl ?_
        refine V_zret hR dX5_takesChannel_33 (by first | exact Or.inl rfl | exact Or.inr rfl | omega) hkc hks ?_
        first | (rw [if_neg (fun z => by rw [if_pos z.1] at h_4; exact absurd h_4 (by decide)), if_neg (fun z => by rw [if_pos z.1] at h_4; exact absurd h_4 (by decide))]; exact ⟨rfl, rfl⟩) | (rw [if_neg (fun z => h_16 z.2), if_neg (fun z => h_16 z.2)]; exact ⟨rfl, rfl⟩) | (rw [if_pos ⟨by decide, h_16⟩, if_pos ⟨by decide, h_16⟩]; exact ⟨rfl, rfl⟩)
      · refine V_iconst (v := 0) dX5_takesChannel_19 rfl ?_
        refine V_zret hR dX5_takesChannel_20 (by first | exact Or.inl rfl | exact Or.inr rfl | omega) hkc hks ?_
        first | (rw [if_neg (fun z => by rw [if_pos z.1] at h_4; exact absurd h_4 (by decide)), if_neg (fun z => by rw [if_pos z.1] at h_4; exact absurd h_4 (by decide))]; exact ⟨rfl, rfl⟩) | (rw [if_neg (fun z => h_16 z.2), if_neg (fun z => h_16 z.2)]; exact ⟨rfl, rfl⟩) | (rw [if_pos ⟨by decide, h_16⟩, if_pos ⟨by decide, h_16⟩]; exact ⟨rfl, rfl⟩)
    · refine V_iload_n (i := 2) dX5_takesChannel_11 rfl rfl ?_
      refine V_aaldC (q := 6) rfl (by omega) rfl dX5_takesChannel_12 ?_
      refine V_get (C := RX1) (T := TX1) (N := 13) (ci := 1) (q := 9) (ref := "OrderChains$Channel") 0 rfl il_X5_takesChannel_X1 rfl rfl fl_X5_takesChannel_81 rfl rfl dX5_takesChannel_13 ?_
      refine V_if_eq (tgt := 21) (by have := hc 0 (by omega); have := hc 1 (by omega); have := hc 2 (by omega); omega) dX5_takesChannel_16 rfl (fun h_16 => ?_) (fun h_16 => ?_)
      · refine V_aload_n (i := 0) dX5_takesChannel_21 rfl rfl ?_
        refine V_iload_n (i := 2) dX5_takesChannel_22 rfl rfl ?_
        refine V_put (C := RX5) (T := TX5) (N := 5) (ci := 4) (q := 0) (ref := "OrderChains$TextReader") (ty := .int) (ty0 := tyX5) 4 rfl il_X5_takesChannel_X5 tyX5_ok nmX5 rfl rfl fl_X5_takesChannel_24 rfl rfl rfl rfl rfl rfl dX5_takesChannel_23 ?_
        dsimp only [List.set_cons_zero, List.set_cons_succ]
        refine V_aload_n (i := 0) dX5_takesChannel_26 rfl rfl ?_
        refine V_bipush (v := 7) dX5_takesChannel_27 (by decide) ?_
        refine V_put (C := RX5) (T := TX5) (N := 5) (ci := 4) (q := 0) (ref := "OrderChains$TextReader") (ty := .int) (ty0 := tyX5) 0 rfl il_X5_takesChannel_X5 tyX5_ok nmX5 rfl rfl fl_X5_takesChannel_11 rfl rfl rfl rfl rfl rfl dX5_takesChannel_29 ?_
        dsimp only [List.set_cons_zero, List.set_cons_succ]
        refine V_iconst (v := 1) dX5_takesChannel_32 rfl ?_
        refine V_zret hR dX5_takesChannel_33 (by first | exact Or.inl rfl | exact Or.inr rfl | omega) hkc hks ?_
        first | (rw [if_neg (fun z => by rw [if_pos z.1] at h_4; exact absurd h_4 (by decide)), if_neg (fun z => by rw [if_pos z.1] at h_4; exact absurd h_4 (by decide))]; exact ⟨rfl, rfl⟩) | (rw [if_neg (fun z => h_16 z.2), if_neg (fun z => h_16 z.2)]; exact ⟨rfl, rfl⟩) | (rw [if_pos ⟨by decide, h_16⟩, if_pos ⟨by decide, h_16⟩]; exact ⟨rfl, rfl⟩)
      · refine V_iconst (v := 0) dX5_takesChannel_19 rfl ?_
        refine V_zret hR dX5_takesChannel_20 (by first | exact Or.inl rfl | exact Or.inr rfl | omega) hkc hks ?_
        first | (rw [if_neg (fun z => by rw [if_pos z.1] at h_4; exact absurd h_4 (by decide)), if_neg (fun z => by rw [if_pos z.1] at h_4; exact absurd h_4 (by decide))]; exact ⟨rfl, rfl⟩) | (rw [if_neg (fun z => h_16 z.2), if_neg (fun z => h_16 z.2)]; exact ⟨rfl, rfl⟩) | (rw [if_pos ⟨by decide, h_16⟩, if_pos ⟨by decide, h_16⟩]; exact ⟨rfl, rfl⟩)

abbrev rX5_takesHead : Room := { frames := 2, cells := 0, slots := 0, locals := 42 }
theorem vy_X5_takesHead : vY yX5_takesHead wsX5_takesHead cX5_takesHead 3 (some .boolean) 2 := ⟨⟨_, rfl⟩, by decide +kernel, by decide +kernel, by decide +kernel⟩
theorem st_X5_takesHead_X6_isCell : Cond.static yX6_isCell ∈ wsX5_takesHead := List.mem_of_getElem? (i := 4) rfl
theorem in_X5_takesHead_X6 : Cond.initialized RX6 ∈ wsX5_takesHead := List.mem_of_getElem? (i := 5) rfl
theorem fl_X5_takesHead_77 : Cond.fieldLink RX5 77 "OrderChains$Engine" "channels" "[LOrderChains$Channel;" ∈ wsX5_takesHead := List.mem_of_getElem? (i := 1) rfl
theorem il_X5_takesHead_X2 : ∀ w ∈ wsX20, w ∈ wsX5_takesHead := fun _ h => List.mem_cons_of_mem _ (List.mem_append_left _ (List.mem_append_left _ (List.mem_append_right _ h)))
theorem fl_X5_takesHead_24 : Cond.fieldLink RX5 24 "OrderChains$TextReader" "channelToStart" "I" ∈ wsX5_takesHead := List.mem_of_getElem? (i := 2) rfl
theorem il_X5_takesHead_X5 : ∀ w ∈ wsX50, w ∈ wsX5_takesHead := fun _ h => List.mem_cons_of_mem _ (List.mem_append_left _ (List.mem_append_right _ h))
theorem fl_X5_takesHead_11 : Cond.fieldLink RX5 11 "OrderChains$TextReader" "expected" "I" ∈ wsX5_takesHead := List.mem_of_getElem? (i := 3) rfl
set_option maxHeartbeats 4000000 in
set_option maxRecDepth 100000 in
/-- TextReader.takesHead -/
theorem c_X5_takesHead (l : Launch) (G : vG) (b : Nat) (r : Nat → Nat) (a val own mark lw bits s : Nat → Nat) (ch : Nat → Nat → Nat) (p : Nat) (hp : p < 100) (h4 : r 4 < 3) : Kc l G yX5_takesHead wsX5_takesHead rX5_takesHead [.ref b, .ref (a 0), .int (nI p)] [tR b r, eO a s, iA G (a 1) 96 val, iA G (a 2) 96 own, iA G (a 3) 96 mark, iA G (a 4) 96 lw, eC G a, cX (a 6) (ch 0), cX (a 7) (ch 1), cX (a 8) (ch 2), iA G (a 9) 96 bits] (fun v Y => v = some (.int (nI (if p < 96 then 1 else 0))) ∧ Y = tR b (if p < 96 then va_up r 0 1 else r) :: eX G a (val, own, mark, lw, bits, s, if p < 96 then va_up ch (r 4) (qBegin p (ch (r 4))) else ch)) 0 0 := by
  refine V_enter (own := RX5) [some (.ref b), some (.ref (a 0)), some (.int (nI p))] (by decide +kernel) rfl rfl (Nat.le_of_ble_eq_true rfl) rfl (fun Γ hR hin => ?_)
  have hkc : 0 ≤ 0 := Nat.le_refl 0
  have hks : 0 ≤ 0 := Nat.le_refl 0
  refine V_iload_n (i := 2) dX5_takesHead_0 rfl rfl ?_
  refine V_callSN (As := _) (rest := []) (host := RX6) [] (c_X6_isCell l G p (by omega)) vy_X6_isCell gX5_takesHead_X6_isCell_n49 (fun _ h => h.2.2.2.2.2.1) st_X5_takesHead_X6_isCell in_X5_takesHead_X6 rfl rfl rfl rfl ⟨rfl, rfl⟩ ⟨rfl, rfl⟩ ⟨Nat.zero_le _, Nat.zero_le _⟩ rfl dX5_takesHead_1 (fun v Y hE => ?_)
  obtain ⟨rfl, rfl⟩ := hE
  refine ⟨rfl, ?_⟩
  dsimp only [vfill, List.set_cons_zero, List.set_cons_succ, Option.toList, List.cons_append, List.nil_append, Nat.add_zero]
  refine V_if_ne (tgt := 9) (by split <;> decide) dX5_takesHead_4 rfl (fun h_4 => ?_) (fun h_4 => ?_)
  · refine V_aload_n (i := 1) dX5_takesHead_9 rfl rfl ?_
    refine V_get (C := RX2) (T := TX2) (N := 11) (ci := 2) (q := 1) (ref := "OrderChains$Engine") 4 rfl il_X5_takesHead_X2 rfl rfl fl_X5_takesHead_77 rfl rfl dX5_takesHead_10 ?_
    refine V_aload_n (i := 0) dX5_takesHead_13 rfl rfl ?_
    refine V_get (C := RX5) (T := TX5) (N := 5) (ci := 4) (q := 0) (ref := "OrderChains$TextReader") 4 rfl il_X5_takesHead_X5 rfl rfl fl_X5_takesHead_24 rfl rfl dX5_takesHead_14 ?_
    rcases (show r 4 = 0 ∨ r 4 = 1 ∨ r 4 = 2 by omega) with e4 | e4 | e4
    · refine V_top (b := 0) e4 ?_
      refine V_aaldC (q := 6) rfl (by omega) rfl dX5_takesHead_17 ?_
      refine V_iload_n (i := 2) dX5_takesHead_18 rfl rfl ?_
      refine V_callV (C := RX1) (q := 0) (ci := 1) (As := _) (rest := []) [7] (c_X1_beginAt l G (a 6) p (ch 0)) vy_X1_beginAt gX5_takesHead_X1_beginAt rfl rfl rfl rfl rfl rfl rfl ⟨rfl, rfl⟩ ⟨rfl, rfl⟩ ⟨Nat.zero_le _, Nat.zero_le _⟩ rfl dX5_takesHead_19 (fun v Y hE => ?_)
      obtain ⟨rfl, rfl⟩ := hE
      refine ⟨rfl, ?_⟩
      dsimp only [vfill, List.set_cons_zero, List.set_cons_succ, Option.toList, List.cons_append, List.nil_append, Nat.add_zero]
      refine V_aload_n (i := 0) dX5_takesHead_22 rfl rfl ?_
      refine V_iconst (v := 1) dX5_takesHead_23 rfl ?_
      refine V_put (C := RX5) (T := TX5) (N := 5) (ci := 4) (q := 0) (ref := "OrderChains$TextReader") (ty := .int) (ty0 := tyX5) 0 rfl il_X5_takesHead_X5 tyX5_ok nmX5 rfl rfl fl_X5_takesHead_11 rfl rfl rfl rfl rfl rfl dX5_takesHead_24 ?_
      dsimp only [List.set_cons_zero, List.set_cons_succ]
      refine V_iconst (v := 1) dX5_takesHead_27 rfl ?_
      refine V_zret hR dX5_takesHead_28 (by first | exact Or.inl rfl | exact Or.inr rfl | omega) hkc hks ?_
      have hz : p < 96 := by
        by_cases z : p < 96
        · exact z
        · rw [if_neg z] at h_4; exact absurd rfl h_4
      rw [if_pos hz, if_pos hz, if_pos hz]
      first | (rw [show va_up ch (r 4) (qBegin p (ch (r 4))) = va_up ch 0 (qBegin p (ch 0)) by rw [e4]]; exact ⟨rfl, rfl⟩) | (rw [show va_up ch (r 4) (qBegin p (ch (r 4))) = va_up ch 1 (qBegin p (ch 1)) by rw [e4]]; exact ⟨rfl, rfl⟩) | (rw [show va_up ch (r 4) (qBegin p (ch (r 4))) = va_up ch 2 (qBegin p (ch 2)) by rw [e4]]; exact ⟨rfl, rfl⟩)
    · refine V_top (b := 1) e4 ?_
      refine V_aaldC (q := 6) rfl (by omega) rfl dX5_takesHead_17 ?_
      refine V_iload_n (i := 2) dX5_takesHead_18 rfl rfl ?_
      refine V_callV (C := RX1) (q := 0) (ci := 1) (As := _) (rest := []) [8] (c_X1_beginAt l G (a 7) p (ch 1)) vy_X1_beginAt gX5_takesHead_X1_beginAt rfl rfl rfl rfl rfl rfl rfl ⟨rfl, rfl⟩ ⟨rfl, rfl⟩ ⟨Nat.zero_le _, Nat.zero_le _⟩ rfl dX5_takesHead_19 (fun v Y hE => ?_)
      obtain ⟨rfl, rfl⟩ := hE
      refine ⟨rfl, ?_⟩
      dsimp only [vfill, List.set_cons_zero, List.set_cons_succ, Option.toList, List.cons_append, List.nil_append, Nat.add_zero]
      refine V_aload_n (i := 0) dX5_takesHead_22 rfl rfl ?_
      refine V_iconst (v := 1) dX5_takesHead_23 rfl ?_
      refine V_put (C := RX5) (T := TX5) (N := 5) (ci := 4) (q := 0) (ref := "OrderChains$TextReader") (ty := .int) (ty0 := tyX5) 0 rfl il_X5_takesHead_X5 tyX5_ok nmX5 rfl rfl fl_X5_takesHead_11 rfl rfl rfl rfl rfl rfl dX5_takesHead_24 ?_
      dsimp only [List.set_cons_zero, List.set_cons_succ]
      refine V_iconst (v := 1) dX5_takesHead_27 rfl ?_
      refine V_zret hR dX5_takesHead_28 (by first | exact Or.inl rfl | exact Or.inr rfl | omega) hkc hks ?_
      have hz : p < 96 := by
        by_cases z : p < 96
        · exact z
        · rw [if_neg z] at h_4; exact absurd rfl h_4
      rw [if_pos hz, if_pos hz, if_pos hz]
      first | (rw [show va_up ch (r 4) (qBegin p (ch (r 4))) = va_up ch 0 (qBegin p (ch 0)) by rw [e4]]; exact ⟨rfl, rfl⟩) | (rw [show va_up ch (r 4) (qBegin p (ch (r 4))) = va_up ch 1 (qBegin p (ch 1)) by rw [e4]]; exact ⟨rfl, rfl⟩) | (rw [show va_up ch (r 4) (qBegin p (ch (r 4))) = va_up ch 2 (qBegin p (ch 2)) by rw [e4]]; exact ⟨rfl, rfl⟩)
    · refine V_top (b := 2) e4 ?_
      refine V_aaldC (q := 6) rfl (by omega) rfl dX5_takesHead_17 ?_
      refine V_iload_n (i := 2) dX5_takesHead_18 rfl rfl ?_
      refine V_callV (C := RX1) (q := 0) (ci := 1) (As := _) (rest := []) [9] (c_X1_beginAt l G (a 8) p (ch 2)) vy_X1_beginAt gX5_takesHead_X1_beginAt rfl rfl rfl rfl rfl rfl rfl ⟨rfl, rfl⟩ ⟨rfl, rfl⟩ ⟨Nat.zero_le _, Nat.zero_le _⟩ rfl dX5_takesHead_19 (fun v Y hE => ?_)
      obtain ⟨rfl, rfl⟩ := hE
      refine ⟨rfl, ?_⟩
      dsimp only [vfill, List.set_cons_zero, List.set_cons_succ, Option.toList, List.cons_append, List.nil_append, Nat.add_zero]
      refine V_aload_n (i := 0) dX5_takesHead_22 rfl rfl ?_
      refine V_iconst (v := 1) dX5_takesHead_23 rfl ?_
      refine V_put (C := RX5) (T := TX5) (N := 5) (ci := 4) (q := 0) (ref := "OrderChains$TextReader") (ty := .int) (ty0 := tyX5) 0 rfl il_X5_takesHead_X5 tyX5_ok nmX5 rfl rfl fl_X5_takesHead_11 rfl rfl rfl rfl rfl rfl dX5_takesHead_24 ?_
      dsimp only [List.set_cons_zero, List.set_cons_succ]
      refine V_iconst (v := 1) dX5_takesHead_27 rfl ?_
      refine V_zret hR dX5_takesHead_28 (by first | exact Or.inl rfl | exact Or.inr rfl | omega) hkc hks ?_
      have hz : p < 96 := by
        by_cases z : p < 96
        · exact z
        · rw [if_neg z] at h_4; exact absurd rfl h_4
      rw [if_pos hz, if_pos hz, if_pos hz]
      first | (rw [show va_up ch (r 4) (qBegin p (ch (r 4))) = va_up ch 0 (qBegin p (ch 0)) by rw [e4]]; exact ⟨rfl, rfl⟩) | (rw [show va_up ch (r 4) (qBegin p (ch (r 4))) = va_up ch 1 (qBegin p (ch 1)) by rw [e4]]; exact ⟨rfl, rfl⟩) | (rw [show va_up ch (r 4) (qBegin p (ch (r 4))) = va_up ch 2 (qBegin p (ch 2)) by rw [e4]]; exact ⟨rfl, rfl⟩)
  · refine V_iconst (v := 0) dX5_takesHead_7 rfl ?_
    refine V_zret hR dX5_takesHead_8 (by first | exact Or.inl rfl | exact Or.inr rfl | omega) hkc hks ?_
    have hz : ¬ p < 96 := fun z => by rw [if_pos z] at h_4; exact absurd h_4 (by decide)
    rw [if_neg hz, if_neg hz, if_neg hz]
    exact ⟨rfl, rfl⟩

end TEXT
