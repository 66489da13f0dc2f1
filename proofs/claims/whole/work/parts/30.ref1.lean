section REF1
/-- the reference's object: z 0 refusal, 1 size, 2 spot, 3 acts, 4 first channel, 5 first cell, 6 next cell, 7 owner; B 1 text, 2 read, 3 now, 4 trial, 5 diary, 6 kept, 7 isKept, 8 by, 9 met -/
def mO (B z : Nat → Nat) : va_W := [(B 0, .inr (6, [.int (nI (z 0)), .ref (B 1), .int (nI (z 1)), .int (nI (z 2)), .ref (B 2), .ref (B 3), .ref (B 4), .ref (B 5), .int (nI (z 3)), .ref (B 6), .ref (B 7), .ref (B 8), .int (nI (z 4)), .int (nI (z 5)), .int (nI (z 6)), .int (nI (z 7)), .ref (B 9)]))]
theorem lcN_pos {x y : Int64} : (0 < lcN x y ∧ lcN x y < 2147483648) ↔ y.toInt < x.toInt := by
  have h1 := @lcN_neg x y
  have h2 := @lcN_z x y
  have h3 := @lcN_neg y x
  have h4 := lcN_lt x y
  constructor
  · intro h
    have a1 : ¬ x.toInt < y.toInt := fun z => by have := h1.mpr z; omega
    have a2 : ¬ x.toInt = y.toInt := fun z => by have := h2.mpr z; omega
    omega
  · intro h
    have a1 : ¬ 2147483648 ≤ lcN x y := fun z => by have := h1.mp z; omega
    have a2 : ¬ lcN x y = 0 := fun z => by have := h2.mp z; omega
    omega
def rFail (h c : Nat) (g : Nat → Nat) : Nat → Nat := va_up (va_up (va_up g (384 + 13 * h) 3) (384 + 13 * h + 2) c) (384 + 13 * h + 4) 0
def rEnd (h p : Nat) (g : Nat → Nat) : Nat → Nat := va_up (va_up g (384 + 13 * h + 1) p) (384 + 13 * h + 4) 0
def rBegin (h p st : Nat) (g : Nat → Nat) : Nat → Nat := va_up (va_up (va_up (va_up g (384 + 13 * h) st) (384 + 13 * h + 1) p) (384 + 13 * h + 2) 0) (384 + 13 * h + 4) 0
def cpE (n : Nat) (f : Nat → Nat) (fa : Nat) (g : Nat → Nat) (ta : Nat) : Nat → Nat := fun j => if ta ≤ j ∧ j < ta + n then f (fa + (j - ta)) else g j
theorem cpE_0 (f : Nat → Nat) (fa : Nat) (g : Nat → Nat) (ta : Nat) : cpE 0 f fa g ta = g := by
  funext j
  unfold cpE
  rw [if_neg (by omega)]
theorem cpE_s (n : Nat) (f : Nat → Nat) (fa : Nat) (g : Nat → Nat) (ta : Nat) : va_up (cpE n f fa g ta) (ta + n) (f (fa + n)) = cpE (n + 1) f fa g ta := by
  funext j
  unfold va_up cpE
  by_cases e : j = ta + n
  · rw [if_pos e, if_pos (by omega), e]; congr 1; omega
  · rw [if_neg e]
    by_cases h2 : ta ≤ j ∧ j < ta + n
    · rw [if_pos h2, if_pos (by omega)]
    · rw [if_neg h2, if_neg (by omega)]
def fiK (n : Nat) (f : Nat → Nat) : Nat → Nat := fun j => if j < n then 0 else f j
theorem fiK_0 (f : Nat → Nat) : fiK 0 f = f := by
  funext j
  unfold fiK
  rw [if_neg (by omega)]
theorem fiK_s (n : Nat) (f : Nat → Nat) : va_up (fiK n f) n 0 = fiK (n + 1) f := by
  funext j
  unfold va_up fiK
  by_cases e : j = n
  · rw [if_pos e, if_pos (by omega)]
  · rw [if_neg e]
    by_cases h2 : j < n
    · rw [if_pos h2, if_pos (by omega)]
    · rw [if_neg h2, if_neg (by omega)]
def rT (g : Nat → Nat) : Nat := if g (384 + 13 * (g 426 % 3)) = 1 then g 426 % 3 else if g (384 + 13 * ((g 426 + 1) % 3)) = 1 then (g 426 + 1) % 3 else if g (384 + 13 * ((g 426 + 2) % 3)) = 1 then (g 426 + 2) % 3 else 4294967287

abbrev rX7_in : Room := { frames := 0, cells := 0, slots := 0, locals := 0 }
theorem vy_X7_in : vY yX7_in wsX7_in cX7_in 6 (some .boolean) 3 := ⟨⟨_, rfl⟩, by decide +kernel, by decide +kernel, by decide +kernel⟩
set_option maxHeartbeats 4000000 in
set_option maxRecDepth 100000 in
/-- in -/
theorem c_X7_in (l : Launch) (G : vG) (x lo hi : Int64) : Kc l G yX7_in wsX7_in rX7_in [.long x, .long lo, .long hi] [] (fun v Y => v = some (.int (nI (if lo.toInt ≤ x.toInt ∧ x.toInt ≤ hi.toInt then 1 else 0))) ∧ Y = []) 0 0 := by
  refine V_enter (own := RX7) [some (.long x), none, some (.long lo), none, some (.long hi), none] (by decide +kernel) rfl rfl (Nat.le_of_ble_eq_true rfl) rfl (fun Γ hR hin => ?_)
  have hkc : 0 ≤ 0 := Nat.le_refl 0
  have hks : 0 ≤ 0 := Nat.le_refl 0
  refine V_lload_n (i := 0) dX7_in_0 rfl rfl ?_
  refine V_lload_n (i := 2) dX7_in_1 rfl rfl ?_
  refine V_lcmp (v := lcN x lo) dX7_in_2 (lcN_cmp _ _) ?_
  refine V_if_lt (tgt := 17) (lcN_lt _ _) dX7_in_3 rfl (fun h_3 => ?_) (fun h_3 => ?_)
  · refine V_iconst (v := 0) dX7_in_17 rfl ?_
    refine V_zret hR dX7_in_18 (by first | exact Or.inl rfl | exact Or.inr rfl | omega) hkc hks ?_
    refine ⟨?_, rfl⟩
    first | (have z := lcN_neg.mp h_3; rw [if_neg (by omega)]; done) | (have z := lcN_pos.mp h_10; rw [if_neg (by omega)]; done) | (have z1 : ¬ x.toInt < lo.toInt := fun z => h_3 (lcN_neg.mpr z); have z2 : ¬ hi.toInt < x.toInt := fun z => h_10 (lcN_pos.mpr z); rw [if_pos (by omega)]; done)
  · refine V_lload_n (i := 0) dX7_in_6 rfl rfl ?_
    refine V_lload (i := 4) dX7_in_7 rfl ?_
    refine V_lcmp (v := lcN x hi) dX7_in_9 (lcN_cmp _ _) ?_
    refine V_if_gt (tgt := 17) (lcN_lt _ _) dX7_in_10 rfl (fun h_10 => ?_) (fun h_10 => ?_)
    · refine V_iconst (v := 0) dX7_in_17 rfl ?_
      refine V_zret hR dX7_in_18 (by first | exact Or.inl rfl | exact Or.inr rfl | omega) hkc hks ?_
      refine ⟨?_, rfl⟩
      first | (have z := lcN_neg.mp h_3; rw [if_neg (by omega)]; done) | (have z := lcN_pos.mp h_10; rw [if_neg (by omega)]; done) | (have z1 : ¬ x.toInt < lo.toInt := fun z => h_3 (lcN_neg.mpr z); have z2 : ¬ hi.toInt < x.toInt := fun z => h_10 (lcN_pos.mpr z); rw [if_pos (by omega)]; done)
    · refine V_iconst (v := 1) dX7_in_13 rfl ?_
      refine V_goto (tgt := 18) dX7_in_14 rfl ?_
      refine V_zret hR dX7_in_18 (by first | exact Or.inl rfl | exact Or.inr rfl | omega) hkc hks ?_
      refine ⟨?_, rfl⟩
      first | (have z := lcN_neg.mp h_3; rw [if_neg (by omega)]; done) | (have z := lcN_pos.mp h_10; rw [if_neg (by omega)]; done) | (have z1 : ¬ x.toInt < lo.toInt := fun z => h_3 (lcN_neg.mpr z); have z2 : ¬ hi.toInt < x.toInt := fun z => h_10 (lcN_pos.mpr z); rw [if_pos (by omega)]; done)

theorem nI_64 (p : Nat) : (nI p).toInt64.toInt = (nI p).toInt := Int32.toInt_toInt64 _
/-- of an int -/
theorem c_X7_inN (l : Launch) (G : vG) (p lo hi : Nat) (L H : Int64) (hL : L.toInt = (lo : Int)) (hH : H.toInt = (hi : Int)) (hp : p < 4294967296) (hh : hi < 2147483648) : Kc l G yX7_in wsX7_in rX7_in [.long (nI p).toInt64, .long L, .long H] [] (fun v Y => v = some (.int (nI (if lo ≤ p ∧ p ≤ hi then 1 else 0))) ∧ Y = []) 0 0 := by
  refine (c_X7_in l G (nI p).toInt64 L H).mono (fun v Y hE => ?_)
  obtain ⟨h1, rfl⟩ := hE
  refine ⟨?_, rfl⟩
  rw [h1, nI_64, hL, hH]
  by_cases z : p < 2147483648
  · rw [nI_sm z]
    by_cases c : lo ≤ p ∧ p ≤ hi
    · rw [if_pos c, if_pos (by omega)]
    · rw [if_neg c, if_neg (by omega)]
  · rw [nI_big (by omega) hp, if_neg (by omega), if_neg (by omega)]
abbrev rX7_isCell : Room := { frames := 1, cells := 0, slots := 0, locals := 25 }
theorem vy_X7_isCell : vY yX7_isCell wsX7_isCell cX7_isCell 1 (some .boolean) 1 := ⟨⟨_, rfl⟩, by decide +kernel, by decide +kernel, by decide +kernel⟩
theorem kc_X7_isCell_45 : Cond.constantLong RX7 45 (95) ∈ wsX7_isCell := List.mem_of_getElem? (i := 1) rfl
set_option maxHeartbeats 4000000 in
set_option maxRecDepth 100000 in
/-- X7_isCell -/
theorem c_X7_isCell (l : Launch) (G : vG) (p : Nat) (hp : p < 4294967296) : Kc l G yX7_isCell wsX7_isCell rX7_isCell [.int (nI p)] [] (fun r Y => r = some (.int (nI (if p < 96 then 1 else 0))) ∧ Y = []) 0 0 := by
  refine V_enter (own := RX7) [some (.int (nI p))] (by decide +kernel) rfl rfl (Nat.le_of_ble_eq_true rfl) rfl (fun Γ hR hin => ?_)
  have hkc : 0 ≤ 0 := Nat.le_refl 0
  have hks : 0 ≤ 0 := Nat.le_refl 0
  refine V_iload_n (i := 0) dX7_isCell_0 rfl rfl ?_
  refine V_i2l dX7_isCell_1 ?_
  refine V_lconst dX7_isCell_2 rfl ?_
  refine V_ldc2 (v := 95) dX7_isCell_3 kc_X7_isCell_45 ?_
  refine V_callS (As := _) (rest := []) [] (c_X7_inN l G (p) 0 95 _ _ (by decide) (by decide) hp (by decide)) vy_X7_in gX7_isCell_X7_in rfl rfl rfl rfl ⟨rfl, rfl⟩ ⟨rfl, rfl⟩ ⟨Nat.zero_le _, Nat.zero_le _⟩ rfl dX7_isCell_6 (fun v Y hE => ?_)
  obtain ⟨rfl, rfl⟩ := hE
  refine ⟨rfl, ?_⟩
  dsimp only [vfill, List.set_cons_zero, List.set_cons_succ, Option.toList, List.cons_append, List.nil_append, Nat.add_zero]
  refine V_zret hR dX7_isCell_9 (by split <;> first | exact Or.inr rfl | exact Or.inl rfl) hkc hks ?_
  refine ⟨?_, rfl⟩
  by_cases z : p < 96
  · rw [if_pos z, if_pos (by omega)]
  · rw [if_neg z, if_neg (by omega)]

abbrev rX7_isChannel : Room := { frames := 1, cells := 0, slots := 0, locals := 25 }
theorem vy_X7_isChannel : vY yX7_isChannel wsX7_isChannel cX7_isChannel 1 (some .boolean) 1 := ⟨⟨_, rfl⟩, by decide +kernel, by decide +kernel, by decide +kernel⟩
theorem kc_X7_isChannel_51 : Cond.constantLong RX7 51 (2) ∈ wsX7_isChannel := List.mem_of_getElem? (i := 1) rfl
set_option maxHeartbeats 4000000 in
set_option maxRecDepth 100000 in
/-- X7_isChannel -/
theorem c_X7_isChannel (l : Launch) (G : vG) (p : Nat) (hp : p < 4294967296) : Kc l G yX7_isChannel wsX7_isChannel rX7_isChannel [.int (nI p)] [] (fun r Y => r = some (.int (nI (if p < 3 then 1 else 0))) ∧ Y = []) 0 0 := by
  refine V_enter (own := RX7) [some (.int (nI p))] (by decide +kernel) rfl rfl (Nat.le_of_ble_eq_true rfl) rfl (fun Γ hR hin => ?_)
  have hkc : 0 ≤ 0 := Nat.le_refl 0
  have hks : 0 ≤ 0 := Nat.le_refl 0
  refine V_iload_n (i := 0) dX7_isChannel_0 rfl rfl ?_
  refine V_i2l dX7_isChannel_1 ?_
  refine V_lconst dX7_isChannel_2 rfl ?_
  refine V_ldc2 (v := 2) dX7_isChannel_3 kc_X7_isChannel_51 ?_
  refine V_callS (As := _) (rest := []) [] (c_X7_inN l G (p) 0 2 _ _ (by decide) (by decide) hp (by decide)) vy_X7_in gX7_isChannel_X7_in rfl rfl rfl rfl ⟨rfl, rfl⟩ ⟨rfl, rfl⟩ ⟨Nat.zero_le _, Nat.zero_le _⟩ rfl dX7_isChannel_6 (fun v Y hE => ?_)
  obtain ⟨rfl, rfl⟩ := hE
  refine ⟨rfl, ?_⟩
  dsimp only [vfill, List.set_cons_zero, List.set_cons_succ, Option.toList, List.cons_append, List.nil_append, Nat.add_zero]
  refine V_zret hR dX7_isChannel_9 (by split <;> first | exact Or.inr rfl | exact Or.inl rfl) hkc hks ?_
  refine ⟨?_, rfl⟩
  by_cases z : p < 3
  · rw [if_pos z, if_pos (by omega)]
  · rw [if_neg z, if_neg (by omega)]

abbrev rX7_at : Room := { frames := 0, cells := 0, slots := 0, locals := 0 }
theorem vy_X7_at : vY yX7_at wsX7_at cX7_at 1 (some .int) 1 := ⟨⟨_, rfl⟩, by decide +kernel, by decide +kernel, by decide +kernel⟩
set_option maxHeartbeats 4000000 in
set_option maxRecDepth 100000 in
/-- at -/
theorem c_X7_at (l : Launch) (G : vG) (h : Nat) : Kc l G yX7_at wsX7_at rX7_at [.int (nI h)] [] (fun r Y => r = some (.int (nI (384 + 13 * h))) ∧ Y = []) 0 0 := by
  refine V_enter (own := RX7) [some (.int (nI h))] (by decide +kernel) rfl rfl (Nat.le_of_ble_eq_true rfl) rfl (fun Γ hR hin => ?_)
  have hkc : 0 ≤ 0 := Nat.le_refl 0
  have hks : 0 ≤ 0 := Nat.le_refl 0
  refine V_sipush (v := 384) dX7_at_0 (by decide) ?_
  refine V_bipush (v := 13) dX7_at_3 (by decide) ?_
  refine V_iload_n (i := 0) dX7_at_5 rfl rfl ?_
  refine V_imul dX7_at_6 ?_
  refine V_iadd dX7_at_7 ?_
  refine V_iret hR dX7_at_8 hkc hks ?_
  exact ⟨rfl, rfl⟩

abbrev rX7_fail : Room := { frames := 1, cells := 0, slots := 0, locals := 20 }
theorem vy_X7_fail : vY yX7_fail wsX7_fail cX7_fail 3 none 3 := ⟨⟨_, rfl⟩, by decide +kernel, by decide +kernel, by decide +kernel⟩
set_option maxHeartbeats 4000000 in
set_option maxRecDepth 100000 in
/-- fail -/
theorem c_X7_fail (l : Launch) (G : vG) (a : Nat) (g : Nat → Nat) (h c : Nat) (hh : h < 3) : Kc l G yX7_fail wsX7_fail rX7_fail [.ref a, .int (nI h), .int (nI c)] [iA G a 427 g] (fun v Y => v = none ∧ Y = [iA G a 427 (rFail h c g)]) 0 0 := by
  refine V_enter (own := RX7) [some (.ref a), some (.int (nI h)), some (.int (nI c))] (by decide +kernel) rfl rfl (Nat.le_of_ble_eq_true rfl) rfl (fun Γ hR hin => ?_)
  have hkc : 0 ≤ 0 := Nat.le_refl 0
  have hks : 0 ≤ 0 := Nat.le_refl 0
  refine V_aload_n (i := 0) dX7_fail_0 rfl rfl ?_
  refine V_iload_n (i := 1) dX7_fail_1 rfl rfl ?_
  refine V_callS (As := _) (rest := _) [] (c_X7_at l G (h)) vy_X7_at gX7_fail_X7_at rfl rfl rfl rfl ⟨rfl, rfl⟩ ⟨rfl, rfl⟩ ⟨Nat.zero_le _, Nat.zero_le _⟩ rfl dX7_fail_2 (fun v Y hE => ?_)
  obtain ⟨rfl, rfl⟩ := hE
  refine ⟨rfl, ?_⟩
  dsimp only [vfill, List.set_cons_zero, List.set_cons_succ, Option.toList, List.cons_append, List.nil_append, Nat.add_zero]
  refine V_iconst (v := 3) dX7_fail_5 rfl ?_
  refine V_iast (q := 0) rfl (by omega) rfl dX7_fail_6 ?_
  dsimp only [List.set_cons_zero, List.set_cons_succ]
  refine V_aload_n (i := 0) dX7_fail_7 rfl rfl ?_
  refine V_iload_n (i := 1) dX7_fail_8 rfl rfl ?_
  refine V_callS (As := _) (rest := _) [] (c_X7_at l G (h)) vy_X7_at gX7_fail_X7_at rfl rfl rfl rfl ⟨rfl, rfl⟩ ⟨rfl, rfl⟩ ⟨Nat.zero_le _, Nat.zero_le _⟩ rfl dX7_fail_9 (fun v Y hE => ?_)
  obtain ⟨rfl, rfl⟩ := hE
  refine ⟨rfl, ?_⟩
  dsimp only [vfill, List.set_cons_zero, List.set_cons_succ, Option.toList, List.cons_append, List.nil_append, Nat.add_zero]
  refine V_iconst (v := 2) dX7_fail_12 rfl ?_
  refine V_iadd dX7_fail_13 ?_
  refine V_iload_n (i := 2) dX7_fail_14 rfl rfl ?_
  refine V_iast (q := 0) rfl (by omega) rfl dX7_fail_15 ?_
  dsimp only [List.set_cons_zero, List.set_cons_succ]
  refine V_aload_n (i := 0) dX7_fail_16 rfl rfl ?_
  refine V_iload_n (i := 1) dX7_fail_17 rfl rfl ?_
  refine V_callS (As := _) (rest := _) [] (c_X7_at l G (h)) vy_X7_at gX7_fail_X7_at rfl rfl rfl rfl ⟨rfl, rfl⟩ ⟨rfl, rfl⟩ ⟨Nat.zero_le _, Nat.zero_le _⟩ rfl dX7_fail_18 (fun v Y hE => ?_)
  obtain ⟨rfl, rfl⟩ := hE
  refine ⟨rfl, ?_⟩
  dsimp only [vfill, List.set_cons_zero, List.set_cons_succ, Option.toList, List.cons_append, List.nil_append, Nat.add_zero]
  refine V_iconst (v := 4) dX7_fail_21 rfl ?_
  refine V_iadd dX7_fail_22 ?_
  refine V_iconst (v := 0) dX7_fail_23 rfl ?_
  refine V_iast (q := 0) rfl (by omega) rfl dX7_fail_24 ?_
  dsimp only [List.set_cons_zero, List.set_cons_succ]
  refine V_vret hR dX7_fail_25 hkc hks ?_
  exact ⟨rfl, rfl⟩

abbrev rX7_end : Room := { frames := 1, cells := 0, slots := 0, locals := 20 }
theorem vy_X7_end : vY yX7_end wsX7_end cX7_end 3 none 3 := ⟨⟨_, rfl⟩, by decide +kernel, by decide +kernel, by decide +kernel⟩
set_option maxHeartbeats 4000000 in
set_option maxRecDepth 100000 in
/-- end -/
theorem c_X7_end (l : Launch) (G : vG) (a : Nat) (g : Nat → Nat) (h c : Nat) (hh : h < 3) : Kc l G yX7_end wsX7_end rX7_end [.ref a, .int (nI h), .int (nI c)] [iA G a 427 g] (fun v Y => v = none ∧ Y = [iA G a 427 (rEnd h c g)]) 0 0 := by
  refine V_enter (own := RX7) [some (.ref a), some (.int (nI h)), some (.int (nI c))] (by decide +kernel) rfl rfl (Nat.le_of_ble_eq_true rfl) rfl (fun Γ hR hin => ?_)
  have hkc : 0 ≤ 0 := Nat.le_refl 0
  have hks : 0 ≤ 0 := Nat.le_refl 0
  refine V_aload_n (i := 0) dX7_end_0 rfl rfl ?_
  refine V_iload_n (i := 1) dX7_end_1 rfl rfl ?_
  refine V_callS (As := _) (rest := _) [] (c_X7_at l G (h)) vy_X7_at gX7_end_X7_at rfl rfl rfl rfl ⟨rfl, rfl⟩ ⟨rfl, rfl⟩ ⟨Nat.zero_le _, Nat.zero_le _⟩ rfl dX7_end_2 (fun v Y hE => ?_)
  obtain ⟨rfl, rfl⟩ := hE
  refine ⟨rfl, ?_⟩
  dsimp only [vfill, List.set_cons_zero, List.set_cons_succ, Option.toList, List.cons_append, List.nil_append, Nat.add_zero]
  refine V_iconst (v := 1) dX7_end_5 rfl ?_
  refine V_iadd dX7_end_6 ?_
  refine V_iload_n (i := 2) dX7_end_7 rfl rfl ?_
  refine V_iast (q := 0) rfl (by omega) rfl dX7_end_8 ?_
  dsimp only [List.set_cons_zero, List.set_cons_succ]
  refine V_aload_n (i := 0) dX7_end_9 rfl rfl ?_
  refine V_iload_n (i := 1) dX7_end_10 rfl rfl ?_
  refine V_callS (As := _) (rest := _) [] (c_X7_at l G (h)) vy_X7_at gX7_end_X7_at rfl rfl rfl rfl ⟨rfl, rfl⟩ ⟨rfl, rfl⟩ ⟨Nat.zero_le _, Nat.zero_le _⟩ rfl dX7_end_11 (fun v Y hE => ?_)
  obtain ⟨rfl, rfl⟩ := hE
  refine ⟨rfl, ?_⟩
  dsimp only [vfill, List.set_cons_zero, List.set_cons_succ, Option.toList, List.cons_append, List.nil_append, Nat.add_zero]
  refine V_iconst (v := 4) dX7_end_14 rfl ?_
  refine V_iadd dX7_end_15 ?_
  refine V_iconst (v := 0) dX7_end_16 rfl ?_
  refine V_iast (q := 0) rfl (by omega) rfl dX7_end_17 ?_
  dsimp only [List.set_cons_zero, List.set_cons_succ]
  refine V_vret hR dX7_end_18 hkc hks ?_
  exact ⟨rfl, rfl⟩

abbrev rX7_begin : Room := { frames := 1, cells := 0, slots := 0, locals := 20 }
theorem vy_X7_begin : vY yX7_begin wsX7_begin cX7_begin 4 none 4 := ⟨⟨_, rfl⟩, by decide +kernel, by decide +kernel, by decide +kernel⟩
set_option maxHeartbeats 4000000 in
set_option maxRecDepth 100000 in
/-- begin -/
theorem c_X7_begin (l : Launch) (G : vG) (a : Nat) (g : Nat → Nat) (h c st : Nat) (hh : h < 3) : Kc l G yX7_begin wsX7_begin rX7_begin [.ref a, .int (nI h), .int (nI c), .int (nI st)] [iA G a 427 g] (fun v Y => v = none ∧ Y = [iA G a 427 (rBegin h c st g)]) 0 0 := by
  refine V_enter (own := RX7) [some (.ref a), some (.int (nI h)), some (.int (nI c)), some (.int (nI st))] (by decide +kernel) rfl rfl (Nat.le_of_ble_eq_true rfl) rfl (fun Γ hR hin => ?_)
  have hkc : 0 ≤ 0 := Nat.le_refl 0
  have hks : 0 ≤ 0 := Nat.le_refl 0
  refine V_aload_n (i := 0) dX7_begin_0 rfl rfl ?_
  refine V_iload_n (i := 1) dX7_begin_1 rfl rfl ?_
  refine V_callS (As := _) (rest := _) [] (c_X7_at l G (h)) vy_X7_at gX7_begin_X7_at rfl rfl rfl rfl ⟨rfl, rfl⟩ ⟨rfl, rfl⟩ ⟨Nat.zero_le _, Nat.zero_le _⟩ rfl dX7_begin_2 (fun v Y hE => ?_)
  obtain ⟨rfl, rfl⟩ := hE
  refine ⟨rfl, ?_⟩
  dsimp only [vfill, List.set_cons_zero, List.set_cons_succ, Option.toList, List.cons_append, List.nil_append, Nat.add_zero]
  refine V_iload_n (i := 3) dX7_begin_5 rfl rfl ?_
  refine V_iast (q := 0) rfl (by omega) rfl dX7_begin_6 ?_
  dsimp only [List.set_cons_zero, List.set_cons_succ]
  refine V_aload_n (i := 0) dX7_begin_7 rfl rfl ?_
  refine V_iload_n (i := 1) dX7_begin_8 rfl rfl ?_
  refine V_callS (As := _) (rest := _) [] (c_X7_at l G (h)) vy_X7_at gX7_begin_X7_at rfl rfl rfl rfl ⟨rfl, rfl⟩ ⟨rfl, rfl⟩ ⟨Nat.zero_le _, Nat.zero_le _⟩ rfl dX7_begin_9 (fun v Y hE => ?_)
  obtain ⟨rfl, rfl⟩ := hE
  refine ⟨rfl, ?_⟩
  dsimp only [vfill, List.set_cons_zero, List.set_cons_succ, Option.toList, List.cons_append, List.nil_append, Nat.add_zero]
  refine V_iconst (v := 1) dX7_begin_12 rfl ?_
  refine V_iadd dX7_begin_13 ?_
  refine V_iload_n (i := 2) dX7_begin_14 rfl rfl ?_
  refine V_iast (q := 0) rfl (by omega) rfl dX7_begin_15 ?_
  dsimp only [List.set_cons_zero, List.set_cons_succ]
  refine V_aload_n (i := 0) dX7_begin_16 rfl rfl ?_
  refine V_iload_n (i := 1) dX7_begin_17 rfl rfl ?_
  refine V_callS (As := _) (rest := _) [] (c_X7_at l G (h)) vy_X7_at gX7_begin_X7_at rfl rfl rfl rfl ⟨rfl, rfl⟩ ⟨rfl, rfl⟩ ⟨Nat.zero_le _, Nat.zero_le _⟩ rfl dX7_begin_18 (fun v Y hE => ?_)
  obtain ⟨rfl, rfl⟩ := hE
  refine ⟨rfl, ?_⟩
  dsimp only [vfill, List.set_cons_zero, List.set_cons_succ, Option.toList, List.cons_append, List.nil_append, Nat.add_zero]
  refine V_iconst (v := 2) dX7_begin_21 rfl ?_
  refine V_iadd dX7_begin_22 ?_
  refine V_iconst (v := 0) dX7_begin_23 rfl ?_
  refine V_iast (q := 0) rfl (by omega) rfl dX7_begin_24 ?_
  dsimp only [List.set_cons_zero, List.set_cons_succ]
  refine V_aload_n (i := 0) dX7_begin_25 rfl rfl ?_
  refine V_iload_n (i := 1) dX7_begin_26 rfl rfl ?_
  refine V_callS (As := _) (rest := _) [] (c_X7_at l G (h)) vy_X7_at gX7_begin_X7_at rfl rfl rfl rfl ⟨rfl, rfl⟩ ⟨rfl, rfl⟩ ⟨Nat.zero_le _, Nat.zero_le _⟩ rfl dX7_begin_27 (fun v Y hE => ?_)
  obtain ⟨rfl, rfl⟩ := hE
  refine ⟨rfl, ?_⟩
  dsimp only [vfill, List.set_cons_zero, List.set_cons_succ, Option.toList, List.cons_append, List.nil_append, Nat.add_zero]
  refine V_iconst (v := 4) dX7_begin_30 rfl ?_
  refine V_iadd dX7_begin_31 ?_
  refine V_iconst (v := 0) dX7_begin_32 rfl ?_
  refine V_iast (q := 0) rfl (by omega) rfl dX7_begin_33 ?_
  dsimp only [List.set_cons_zero, List.set_cons_succ]
  refine V_vret hR dX7_begin_34 hkc hks ?_
  exact ⟨rfl, rfl⟩

abbrev rX7_copyEngine : Room := { frames := 0, cells := 0, slots := 0, locals := 0 }
theorem vy_X7_copyEngine : vY yX7_copyEngine wsX7_copyEngine cX7_copyEngine 5 none 4 := ⟨⟨_, rfl⟩, by decide +kernel, by decide +kernel, by decide +kernel⟩
set_option maxHeartbeats 4000000 in
set_option maxRecDepth 100000 in
/-- copyEngine -/
theorem c_X7_copyEngine (l : Launch) (G : vG) (a b N1 N2 fa ta : Nat) (f g : Nat → Nat) (hb1 : Nat.blt N1 2147483648 = true) (hb2 : Nat.blt N2 2147483648 = true) (h1 : fa + 427 ≤ N1) (h2 : ta + 427 ≤ N2) : Kc l G yX7_copyEngine wsX7_copyEngine rX7_copyEngine [.ref a, .int (nI fa), .ref b, .int (nI ta)] [iA G a N1 f, iA G b N2 g] (fun v Y => v = none ∧ Y = [iA G a N1 f, iA G b N2 (cpE 427 f fa g ta)]) 0 0 := by
  refine V_enter (own := RX7) [some (.ref a), some (.int (nI fa)), some (.ref b), some (.int (nI ta)), none] (by decide +kernel) rfl rfl (Nat.le_of_ble_eq_true rfl) rfl (fun Γ hR hin => ?_)
  have hkc : 0 ≤ 0 := Nat.le_refl 0
  have hks : 0 ≤ 0 := Nat.le_refl 0
  have LP3 : ∀ (fuel : Nat) (k : Nat) (w : Nat → Nat), 428 ≤ k + fuel → k ≤ 427 → w = cpE k f fa g ta → V l G (cX7_copyEngine, 5, wsX7_copyEngine, RX7, rX7_copyEngine) Γ 0 0 3 [some (.ref a), some (.int (nI fa)), some (.ref b), some (.int (nI ta)), some (.int (nI k))] [] [iA G a N1 f, iA G b N2 w] := by
    intro fuel
    induction fuel with
    | zero => intro k w hf hk hw; exact absurd hf (by omega)
    | succ fuel ih =>
      intro k w hf hk hw
      refine V_iload (i := 4) dX7_copyEngine_3 rfl ?_
      refine V_sipush (v := 427) dX7_copyEngine_5 (by decide) ?_
      refine V_icmp_ge (tgt := 29) (by omega) (by omega) dX7_copyEngine_8 rfl (fun h_8 => ?_) (fun h_8 => ?_)
      · refine V_vret hR dX7_copyEngine_29 hkc hks ?_
        have hk9 : k = 427 := by omega
        subst hk9
        rw [hw]
        exact ⟨rfl, rfl⟩
      · refine V_aload_n (i := 2) dX7_copyEngine_11 rfl rfl ?_
        refine V_iload_n (i := 3) dX7_copyEngine_12 rfl rfl ?_
        refine V_iload (i := 4) dX7_copyEngine_13 rfl ?_
        refine V_iadd dX7_copyEngine_15 ?_
        refine V_aload_n (i := 0) dX7_copyEngine_16 rfl rfl ?_
        refine V_iload_n (i := 1) dX7_copyEngine_17 rfl rfl ?_
        refine V_iload (i := 4) dX7_copyEngine_18 rfl ?_
        refine V_iadd dX7_copyEngine_20 ?_
        refine V_iald (q := 0) rfl (by omega) hb1 dX7_copyEngine_21 ?_
        refine V_iast (q := 1) rfl (by omega) hb2 dX7_copyEngine_22 ?_
        dsimp only [List.set_cons_zero, List.set_cons_succ]
        refine V_iinc dX7_copyEngine_23 rfl (nI_1 _) rfl rfl ?_
        dsimp only [List.set_cons_zero, List.set_cons_succ]
        refine V_goto (tgt := 3) dX7_copyEngine_26 rfl ?_
        exact ih (k + 1) _ (by omega) (by omega) (by rw [hw, cpE_s])
  refine V_iconst (v := 0) dX7_copyEngine_0 rfl ?_
  refine V_istore (i := 4) dX7_copyEngine_1 rfl rfl ?_
  dsimp only [List.set_cons_zero, List.set_cons_succ]
  exact LP3 428 0 g (by omega) (by omega) (cpE_0 f fa g ta).symm

abbrev rX7_thrown : Room := { frames := 0, cells := 0, slots := 0, locals := 0 }
theorem vy_X7_thrown : vY yX7_thrown wsX7_thrown cX7_thrown 1 (some .int) 0 := ⟨⟨_, rfl⟩, by decide +kernel, by decide +kernel, by decide +kernel⟩
theorem fl_X7_thrown_42 : Cond.fieldLink RX7 42 "OrderChainsModel" "refusal" "I" ∈ wsX7_thrown := List.mem_of_getElem? (i := 1) rfl
theorem il_X7_thrown_X7 : ∀ w ∈ wsX70, w ∈ wsX7_thrown := fun _ h => List.mem_cons_of_mem _ (List.mem_append_right _ h)
set_option maxHeartbeats 4000000 in
set_option maxRecDepth 100000 in
/-- thrown -/
theorem c_X7_thrown (l : Launch) (G : vG) (B z : Nat → Nat) : Kc l G yX7_thrown wsX7_thrown rX7_thrown [.ref (B 0)] [mO B z] (fun v Y => v = some (.int (nI (z 0))) ∧ Y = [mO B z]) 0 0 := by
  refine V_enter (own := RX7) [some (.ref (B 0))] (by decide +kernel) rfl rfl (Nat.le_of_ble_eq_true rfl) rfl (fun Γ hR hin => ?_)
  have hkc : 0 ≤ 0 := Nat.le_refl 0
  have hks : 0 ≤ 0 := Nat.le_refl 0
  refine V_aload_n (i := 0) dX7_thrown_0 rfl rfl ?_
  refine V_get (C := RX7) (T := TX7) (N := 17) (ci := 6) (q := 0) (ref := "OrderChainsModel") 0 rfl il_X7_thrown_X7 rfl rfl fl_X7_thrown_42 rfl rfl dX7_thrown_1 ?_
  refine V_iret hR dX7_thrown_4 hkc hks ?_
  exact ⟨rfl, rfl⟩

abbrev rX7_refused : Room := { frames := 0, cells := 0, slots := 0, locals := 0 }
theorem vy_X7_refused : vY yX7_refused wsX7_refused cX7_refused 2 (some .boolean) 1 := ⟨⟨_, rfl⟩, by decide +kernel, by decide +kernel, by decide +kernel⟩
theorem fl_X7_refused_42 : Cond.fieldLink RX7 42 "OrderChainsModel" "refusal" "I" ∈ wsX7_refused := List.mem_of_getElem? (i := 1) rfl
theorem il_X7_refused_X7 : ∀ w ∈ wsX70, w ∈ wsX7_refused := fun _ h => List.mem_cons_of_mem _ (List.mem_append_right _ h)
set_option maxHeartbeats 4000000 in
set_option maxRecDepth 100000 in
/-- refused -/
theorem c_X7_refused (l : Launch) (G : vG) (B z : Nat → Nat) (p : Nat) (hp : p < 2147483648) : Kc l G yX7_refused wsX7_refused rX7_refused [.ref (B 0), .int (nI p)] [mO B z] (fun v Y => v = some (.int (nI (if p = 0 then 0 else 1))) ∧ Y = [mO B (va_up z 0 p)]) 0 0 := by
  refine V_enter (own := RX7) [some (.ref (B 0)), some (.int (nI p))] (by decide +kernel) rfl rfl (Nat.le_of_ble_eq_true rfl) rfl (fun Γ hR hin => ?_)
  have hkc : 0 ≤ 0 := Nat.le_refl 0
  have hks : 0 ≤ 0 := Nat.le_refl 0
  refine V_aload_n (i := 0) dX7_refused_0 rfl rfl ?_
  refine V_iload_n (i := 1) dX7_refused_1 rfl rfl ?_
  refine V_put (C := RX7) (T := TX7) (N := 17) (ci := 6) (q := 0) (ref := "OrderChainsModel") (ty := .int) (ty0 := tyX7) 0 rfl il_X7_refused_X7 tyX7_ok nmX7 rfl rfl fl_X7_refused_42 rfl rfl rfl rfl rfl rfl dX7_refused_2 ?_
  dsimp only [List.set_cons_zero, List.set_cons_succ]
  refine V_iload_n (i := 1) dX7_refused_5 rfl rfl ?_
  refine V_if_le (tgt := 13) (by omega) dX7_refused_6 rfl (fun h_6 => ?_) (fun h_6 => ?_)
  · refine V_iconst (v := 0) dX7_refused_13 rfl ?_
    refine V_zret hR dX7_refused_14 (by first | exact Or.inl rfl | exact Or.inr rfl | omega) hkc hks ?_
    refine ⟨?_, rfl⟩
    first | (rw [if_pos (show p = 0 by omega)]; done) | (rw [if_neg (show ¬ p = 0 by omega)]; done)
  · refine V_iconst (v := 1) dX7_refused_9 rfl ?_
    refine V_goto (tgt := 14) dX7_refused_10 rfl ?_
    refine V_zret hR dX7_refused_14 (by first | exact Or.inl rfl | exact Or.inr rfl | omega) hkc hks ?_
    refine ⟨?_, rfl⟩
    first | (rw [if_pos (show p = 0 by omega)]; done) | (rw [if_neg (show ¬ p = 0 by omega)]; done)

abbrev rX7_watch : Room := { frames := 0, cells := 0, slots := 0, locals := 0 }
theorem vy_X7_watch : vY yX7_watch wsX7_watch cX7_watch 2 none 0 := ⟨⟨_, rfl⟩, by decide +kernel, by decide +kernel, by decide +kernel⟩
theorem fl_X7_watch_53 : Cond.fieldLink RX7 53 "OrderChainsModel" "firstChannel" "I" ∈ wsX7_watch := List.mem_of_getElem? (i := 2) rfl
theorem il_X7_watch_X7 : ∀ w ∈ wsX70, w ∈ wsX7_watch := fun _ h => List.mem_cons_of_mem _ (List.mem_append_right _ h)
theorem fl_X7_watch_56 : Cond.fieldLink RX7 56 "OrderChainsModel" "firstCell" "I" ∈ wsX7_watch := List.mem_of_getElem? (i := 3) rfl
theorem fl_X7_watch_32 : Cond.fieldLink RX7 32 "OrderChainsModel" "by" "[I" ∈ wsX7_watch := List.mem_of_getElem? (i := 1) rfl
set_option maxHeartbeats 4000000 in
set_option maxRecDepth 100000 in
/-- watch -/
theorem c_X7_watch (l : Launch) (G : vG) (B z b : Nat → Nat) : Kc l G yX7_watch wsX7_watch rX7_watch [.ref (B 0)] [mO B z, iA G (B 8) 96 b] (fun v Y => v = none ∧ Y = [mO B (va_up (va_up z 4 4294967287) 5 4294967287), iA G (B 8) 96 (fiK 96 b)]) 0 0 := by
  refine V_enter (own := RX7) [some (.ref (B 0)), none] (by decide +kernel) rfl rfl (Nat.le_of_ble_eq_true rfl) rfl (fun Γ hR hin => ?_)
  have hkc : 0 ≤ 0 := Nat.le_refl 0
  have hks : 0 ≤ 0 := Nat.le_refl 0
  have LP2 : ∀ (fuel : Nat) (k : Nat) (w : Nat → Nat), 97 ≤ k + fuel → k ≤ 96 → w = fiK k b → V l G (cX7_watch, 2, wsX7_watch, RX7, rX7_watch) Γ 0 0 2 [some (.ref (B 0)), some (.int (nI k))] [] [mO B z, iA G (B 8) 96 w] := by
    intro fuel
    induction fuel with
    | zero => intro k w hf hk hw; exact absurd hf (by omega)
    | succ fuel ih =>
      intro k w hf hk hw
      refine V_iload_n (i := 1) dX7_watch_2 rfl rfl ?_
      refine V_bipush (v := 96) dX7_watch_3 (by decide) ?_
      refine V_icmp_ge (tgt := 21) (by omega) (by omega) dX7_watch_5 rfl (fun h_5 => ?_) (fun h_5 => ?_)
      · refine V_aload_n (i := 0) dX7_watch_21 rfl rfl ?_
        refine V_bipush (v := 4294967287) dX7_watch_22 (by decide) ?_
        refine V_put (C := RX7) (T := TX7) (N := 17) (ci := 6) (q := 0) (ref := "OrderChainsModel") (ty := .int) (ty0 := tyX7) 12 rfl il_X7_watch_X7 tyX7_ok nmX7 rfl rfl fl_X7_watch_53 rfl rfl rfl rfl rfl rfl dX7_watch_24 ?_
        dsimp only [List.set_cons_zero, List.set_cons_succ]
        refine V_aload_n (i := 0) dX7_watch_27 rfl rfl ?_
        refine V_bipush (v := 4294967287) dX7_watch_28 (by decide) ?_
        refine V_put (C := RX7) (T := TX7) (N := 17) (ci := 6) (q := 0) (ref := "OrderChainsModel") (ty := .int) (ty0 := tyX7) 13 rfl il_X7_watch_X7 tyX7_ok nmX7 rfl rfl fl_X7_watch_56 rfl rfl rfl rfl rfl rfl dX7_watch_30 ?_
        dsimp only [List.set_cons_zero, List.set_cons_succ]
        refine V_vret hR dX7_watch_33 hkc hks ?_
        have hk9 : k = 96 := by omega
        subst hk9
        rw [hw]
        exact ⟨rfl, rfl⟩
      · refine V_aload_n (i := 0) dX7_watch_8 rfl rfl ?_
        refine V_get (C := RX7) (T := TX7) (N := 17) (ci := 6) (q := 0) (ref := "OrderChainsModel") 11 rfl il_X7_watch_X7 rfl rfl fl_X7_watch_32 rfl rfl dX7_watch_9 ?_
        refine V_iload_n (i := 1) dX7_watch_12 rfl rfl ?_
        refine V_iconst (v := 0) dX7_watch_13 rfl ?_
        refine V_iast (q := 1) rfl (by omega) rfl dX7_watch_14 ?_
        dsimp only [List.set_cons_zero, List.set_cons_succ]
        refine V_iinc dX7_watch_15 rfl (nI_1 _) rfl rfl ?_
        dsimp only [List.set_cons_zero, List.set_cons_succ]
        refine V_goto (tgt := 2) dX7_watch_18 rfl ?_
        exact ih (k + 1) _ (by omega) (by omega) (by rw [hw, fiK_s])
  refine V_iconst (v := 0) dX7_watch_0 rfl ?_
  refine V_istore_n (i := 1) dX7_watch_1 rfl rfl rfl ?_
  dsimp only [List.set_cons_zero, List.set_cons_succ]
  exact LP2 97 0 b (by omega) (by omega) (fiK_0 b).symm

abbrev rX7_turnOf : Room := { frames := 1, cells := 0, slots := 0, locals := 20 }
theorem vy_X7_turnOf : vY yX7_turnOf wsX7_turnOf cX7_turnOf 3 (some .int) 1 := ⟨⟨_, rfl⟩, by decide +kernel, by decide +kernel, by decide +kernel⟩
set_option maxHeartbeats 4000000 in
set_option maxRecDepth 100000 in
/-- turnOf -/
theorem c_X7_turnOf (l : Launch) (G : vG) (a : Nat) (g : Nat → Nat) (ht : g 426 < 3) (hs : ∀ h, h < 3 → g (384 + 13 * h) < 4) : Kc l G yX7_turnOf wsX7_turnOf rX7_turnOf [.ref a] [iA G a 427 g] (fun v Y => v = some (.int (nI (rT g))) ∧ Y = [iA G a 427 g]) 0 0 := by
  refine V_enter (own := RX7) [some (.ref a), none, none] (by decide +kernel) rfl rfl (Nat.le_of_ble_eq_true rfl) rfl (fun Γ hR hin => ?_)
  have hkc : 0 ≤ 0 := Nat.le_refl 0
  have hks : 0 ≤ 0 := Nat.le_refl 0
  refine V_iconst (v := 0) dX7_turnOf_0 rfl ?_
  refine V_istore_n (i := 1) dX7_turnOf_1 rfl rfl rfl ?_
  dsimp only [List.set_cons_zero, List.set_cons_succ]
  refine V_iload_n (i := 1) dX7_turnOf_2 rfl rfl ?_
  refine V_iconst (v := 3) dX7_turnOf_3 rfl ?_
  refine V_icmp_ge (tgt := 35) (by omega) (by omega) dX7_turnOf_4 rfl (fun h_4 => ?_) (fun h_4 => ?_)
  · exfalso; omega
  · refine V_aload_n (i := 0) dX7_turnOf_7 rfl rfl ?_
    refine V_sipush (v := 426) dX7_turnOf_8 (by decide) ?_
    refine V_iald (q := 0) rfl (by omega) rfl dX7_turnOf_11 ?_
    refine V_iload_n (i := 1) dX7_turnOf_12 rfl rfl ?_
    refine V_iadd dX7_turnOf_13 ?_
    refine V_iconst (v := 3) dX7_turnOf_14 rfl ?_
    refine V_irem dX7_turnOf_15 (by omega) (by omega) (by omega) ?_
    refine V_istore_n (i := 2) dX7_turnOf_16 rfl rfl rfl ?_
    dsimp only [List.set_cons_zero, List.set_cons_succ]
    refine V_aload_n (i := 0) dX7_turnOf_17 rfl rfl ?_
    refine V_iload_n (i := 2) dX7_turnOf_18 rfl rfl ?_
    refine V_callS (As := _) (rest := _) [] (c_X7_at l G ((g 426 + 0) % 3)) vy_X7_at gX7_turnOf_X7_at rfl rfl rfl rfl ⟨rfl, rfl⟩ ⟨rfl, rfl⟩ ⟨Nat.zero_le _, Nat.zero_le _⟩ rfl dX7_turnOf_19 (fun v Y hE => ?_)
    obtain ⟨rfl, rfl⟩ := hE
    refine ⟨rfl, ?_⟩
    dsimp only [vfill, List.set_cons_zero, List.set_cons_succ, Option.toList, List.cons_append, List.nil_append, Nat.add_zero]
    refine V_iald (q := 0) rfl (by omega) rfl dX7_turnOf_22 ?_
    refine V_iconst (v := 1) dX7_turnOf_23 rfl ?_
    refine V_icmp_ne (tgt := 29) (by have h0 := hs (g 426 % 3) (by omega); have h1 := hs ((g 426 + 1) % 3) (by omega); have h2 := hs ((g 426 + 2) % 3) (by omega); omega) (by omega) dX7_turnOf_24 rfl (fun h_24 => ?_) (fun h_24 => ?_)
    · refine V_iinc (v := 1) dX7_turnOf_29 rfl (by decide) rfl rfl ?_
      dsimp only [List.set_cons_zero, List.set_cons_succ]
      refine V_goto (tgt := 2) dX7_turnOf_32 rfl ?_
      refine V_iload_n (i := 1) dX7_turnOf_2 rfl rfl ?_
      refine V_iconst (v := 3) dX7_turnOf_3 rfl ?_
      refine V_icmp_ge (tgt := 35) (by omega) (by omega) dX7_turnOf_4 rfl (fun h_4_2 => ?_) (fun h_4_2 => ?_)
      · exfalso; omega
      · refine V_aload_n (i := 0) dX7_turnOf_7 rfl rfl ?_
        refine V_sipush (v := 426) dX7_turnOf_8 (by decide) ?_
        refine V_iald (q := 0) rfl (by omega) rfl dX7_turnOf_11 ?_
        refine V_iload_n (i := 1) dX7_turnOf_12 rfl rfl ?_
        refine V_iadd dX7_turnOf_13 ?_
        refine V_iconst (v := 3) dX7_turnOf_14 rfl ?_
        refine V_irem dX7_turnOf_15 (by omega) (by omega) (by omega) ?_
        refine V_istore_n (i := 2) dX7_turnOf_16 rfl rfl rfl ?_
        dsimp only [List.set_cons_zero, List.set_cons_succ]
        refine V_aload_n (i := 0) dX7_turnOf_17 rfl rfl ?_
        refine V_iload_n (i := 2) dX7_turnOf_18 rfl rfl ?_
        refine V_callS (As := _) (rest := _) [] (c_X7_at l G ((g 426 + 1) % 3)) vy_X7_at gX7_turnOf_X7_at rfl rfl rfl rfl ⟨rfl, rfl⟩ ⟨rfl, rfl⟩ ⟨Nat.zero_le _, Nat.zero_le _⟩ rfl dX7_turnOf_19 (fun v Y hE => ?_)
        obtain ⟨rfl, rfl⟩ := hE
        refine ⟨rfl, ?_⟩
        dsimp only [vfill, List.set_cons_zero, List.set_cons_succ, Option.toList, List.cons_append, List.nil_append, Nat.add_zero]
        refine V_iald (q := 0) rfl (by omega) rfl dX7_turnOf_22 ?_
        refine V_iconst (v := 1) dX7_turnOf_23 rfl ?_
        refine V_icmp_ne (tgt := 29) (by have h0 := hs (g 426 % 3) (by omega); have h1 := hs ((g 426 + 1) % 3) (by omega); have h2 := hs ((g 426 + 2) % 3) (by omega); omega) (by omega) dX7_turnOf_24 rfl (fun h_24_2 => ?_) (fun h_24_2 => ?_)
        · refine V_iinc (v := 2) dX7_turnOf_29 rfl (by decide) rfl rfl ?_
          dsimp only [List.set_cons_zero, List.set_cons_succ]
          refine V_goto (tgt := 2) dX7_turnOf_32 rfl ?_
          refine V_iload_n (i := 1) dX7_turnOf_2 rfl rfl ?_
          refine V_iconst (v := 3) dX7_turnOf_3 rfl ?_
          refine V_icmp_ge (tgt := 35) (by omega) (by omega) dX7_turnOf_4 rfl (fun h_4_3 => ?_) (fun h_4_3 => ?_)
          · exfalso; omega
          · refine V_aload_n (i := 0) dX7_turnOf_7 rfl rfl ?_
            refine V_sipush (v := 426) dX7_turnOf_8 (by decide) ?_
            refine V_iald (q := 0) rfl (by omega) rfl dX7_turnOf_11 ?_
            refine V_iload_n (i := 1) dX7_turnOf_12 rfl rfl ?_
            refine V_iadd dX7_turnOf_13 ?_
            refine V_iconst (v := 3) dX7_turnOf_14 rfl ?_
            refine V_irem dX7_turnOf_15 (by omega) (by omega) (by omega) ?_
            refine V_istore_n (i := 2) dX7_turnOf_16 rfl rfl rfl ?_
            dsimp only [List.set_cons_zero, List.set_cons_succ]
            refine V_aload_n (i := 0) dX7_turnOf_17 rfl rfl ?_
            refine V_iload_n (i := 2) dX7_turnOf_18 rfl rfl ?_
            refine V_callS (As := _) (rest := _) [] (c_X7_at l G ((g 426 + 2) % 3)) vy_X7_at gX7_turnOf_X7_at rfl rfl rfl rfl ⟨rfl, rfl⟩ ⟨rfl, rfl⟩ ⟨Nat.zero_le _, Nat.zero_le _⟩ rfl dX7_turnOf_19 (fun v Y hE => ?_)
            obtain ⟨rfl, rfl⟩ := hE
            refine ⟨rfl, ?_⟩
            dsimp only [vfill, List.set_cons_zero, List.set_cons_succ, Option.toList, List.cons_append, List.nil_append, Nat.add_zero]
            refine V_iald (q := 0) rfl (by omega) rfl dX7_turnOf_22 ?_
            refine V_iconst (v := 1) dX7_turnOf_23 rfl ?_
            refine V_icmp_ne (tgt := 29) (by have h0 := hs (g 426 % 3) (by omega); have h1 := hs ((g 426 + 1) % 3) (by omega); have h2 := hs ((g 426 + 2) % 3) (by omega); omega) (by omega) dX7_turnOf_24 rfl (fun h_24_3 => ?_) (fun h_24_3 => ?_)
            · refine V_iinc (v := 3) dX7_turnOf_29 rfl (by decide) rfl rfl ?_
              dsimp only [List.set_cons_zero, List.set_cons_succ]
              refine V_goto (tgt := 2) dX7_turnOf_32 rfl ?_
              refine V_iload_n (i := 1) dX7_turnOf_2 rfl rfl ?_
              refine V_iconst (v := 3) dX7_turnOf_3 rfl ?_
              refine V_icmp_ge (tgt := 35) (by omega) (by omega) dX7_turnOf_4 rfl (fun h_4_4 => ?_) (fun h_4_4 => ?_)
              · refine V_bipush (v := 4294967287) dX7_turnOf_35 (by decide) ?_
                refine V_iret hR dX7_turnOf_37 hkc hks ?_
                refine ⟨?_, rfl⟩
                unfold rT
                first | (rw [if_pos h_24]; done) | (rw [if_neg h_24, if_pos h_24_2]; done) | (rw [if_neg h_24, if_neg h_24_2, if_pos h_24_3]; done) | (rw [if_neg h_24, if_neg h_24_2, if_neg h_24_3]; done)
              · exfalso; omega
            · refine V_iload_n (i := 2) dX7_turnOf_27 rfl rfl ?_
              refine V_iret hR dX7_turnOf_28 hkc hks ?_
              refine ⟨?_, rfl⟩
              unfold rT
              first | (rw [if_pos h_24]; done) | (rw [if_neg h_24, if_pos h_24_2]; done) | (rw [if_neg h_24, if_neg h_24_2, if_pos h_24_3]; done) | (rw [if_neg h_24, if_neg h_24_2, if_neg h_24_3]; done)
        · refine V_iload_n (i := 2) dX7_turnOf_27 rfl rfl ?_
          refine V_iret hR dX7_turnOf_28 hkc hks ?_
          refine ⟨?_, rfl⟩
          unfold rT
          first | (rw [if_pos h_24]; done) | (rw [if_neg h_24, if_pos h_24_2]; done) | (rw [if_neg h_24, if_neg h_24_2, if_pos h_24_3]; done) | (rw [if_neg h_24, if_neg h_24_2, if_neg h_24_3]; done)
    · refine V_iload_n (i := 2) dX7_turnOf_27 rfl rfl ?_
      refine V_iret hR dX7_turnOf_28 hkc hks ?_
      refine ⟨?_, rfl⟩
      unfold rT
      first | (rw [if_pos h_24]; done) | (rw [if_neg h_24, if_pos h_24_2]; done) | (rw [if_neg h_24, if_neg h_24_2, if_pos h_24_3]; done) | (rw [if_neg h_24, if_neg h_24_2, if_neg h_24_3]; done)

end REF1
