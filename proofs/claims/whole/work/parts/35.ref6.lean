section REF6
def shN (n : Nat) (d : Nat → Nat) : Nat → Nat := fun k => if k < n then d (k + 427) else d k
theorem shN_0 (d : Nat → Nat) : shN 0 d = d := by
  funext j
  unfold shN
  rw [if_neg (by omega)]
theorem shN_at (n : Nat) (d : Nat → Nat) : shN n d (n + 427) = d (n + 427) := by
  unfold shN
  rw [if_neg (by omega)]
theorem shN_s (n : Nat) (d : Nat → Nat) : va_up (shN n d) n (shN n d (n + 427)) = shN (n + 1) d := by
  rw [shN_at]
  funext j
  unfold va_up shN
  by_cases e : j = n
  · rw [if_pos e, if_pos (by omega), e]
  · rw [if_neg e]
    by_cases h2 : j < n
    · rw [if_pos h2, if_pos (by omega)]
    · rw [if_neg h2, if_neg (by omega)]
def rmA (n : Nat) : Nat := if n = 14 then 14 else n + 1
def rmD (n : Nat) (g d : Nat → Nat) : Nat → Nat := if n = 14 then cpE 427 g 0 (shN 5551 d) (427 * 13) else cpE 427 g 0 d (427 * n)

abbrev rX7_remember : Room := { frames := 1, cells := 0, slots := 0, locals := 24 }
theorem vy_X7_remember : vY yX7_remember wsX7_remember cX7_remember 2 none 0 := ⟨⟨_, rfl⟩, by decide +kernel, by decide +kernel, by decide +kernel⟩
theorem fl_X7_remember_38 : Cond.fieldLink RX7 38 "OrderChainsModel" "acts" "I" ∈ wsX7_remember := List.mem_of_getElem? (i := 1) rfl
theorem il_X7_remember_X7 : ∀ w ∈ wsX70, w ∈ wsX7_remember := fun _ h => List.mem_cons_of_mem _ (List.mem_append_right _ h)
theorem fl_X7_remember_16 : Cond.fieldLink RX7 16 "OrderChainsModel" "now" "[I" ∈ wsX7_remember := List.mem_of_getElem? (i := 3) rfl
theorem fl_X7_remember_22 : Cond.fieldLink RX7 22 "OrderChainsModel" "diary" "[I" ∈ wsX7_remember := List.mem_of_getElem? (i := 2) rfl
set_option maxHeartbeats 4000000 in
set_option maxRecDepth 100000 in
/-- remember -/
theorem c_X7_remember (l : Launch) (G : vG) (B z g d : Nat → Nat) (h3 : z 3 ≤ 14) : Kc l G yX7_remember wsX7_remember rX7_remember [.ref (B 0)] [mO B z, iA G (B 3) 427 g, iA G (B 5) 5978 d] (fun v Y => v = none ∧ Y = [mO B (va_up z 3 (rmA (z 3))), iA G (B 3) 427 g, iA G (B 5) 5978 (rmD (z 3) g d)]) 0 0 := by
  refine V_enter (own := RX7) [some (.ref (B 0)), none] (by decide +kernel) rfl rfl (Nat.le_of_ble_eq_true rfl) rfl (fun Γ hR hin => ?_)
  have hkc : 0 ≤ 0 := Nat.le_refl 0
  have hks : 0 ≤ 0 := Nat.le_refl 0
  have LP11 : ∀ (fuel : Nat) (k : Nat) (w : Nat → Nat), 5552 ≤ k + fuel → k ≤ 5551 → w = shN k d → z 3 = 14 → V l G (cX7_remember, 2, wsX7_remember, RX7, rX7_remember) Γ 0 0 11 [some (.ref (B 0)), some (.int (nI k))] [] [mO B z, iA G (B 3) 427 g, iA G (B 5) 5978 w] := by
    intro fuel
    induction fuel with
    | zero => intro k w hf hk hw h14; exact absurd hf (by omega)
    | succ fuel ih =>
      intro k w hf hk hw h14
      refine V_iload_n (i := 1) dX7_remember_11 rfl rfl ?_
      refine V_sipush (v := 5551) dX7_remember_12 (by decide) ?_
      refine V_icmp_ge (tgt := 40) (by omega) (by omega) dX7_remember_15 rfl (fun h_15 => ?_) (fun h_15 => ?_)
      · refine V_aload_n (i := 0) dX7_remember_40 rfl rfl ?_
        refine V_dup dX7_remember_41 rfl ?_
        refine V_get (C := RX7) (T := TX7) (N := 17) (ci := 6) (q := 0) (ref := "OrderChainsModel") 8 rfl il_X7_remember_X7 rfl rfl fl_X7_remember_38 rfl rfl dX7_remember_42 ?_
        refine V_iconst (v := 1) dX7_remember_45 rfl ?_
        refine V_isub dX7_remember_46 (by omega) ?_
        refine V_put (C := RX7) (T := TX7) (N := 17) (ci := 6) (q := 0) (ref := "OrderChainsModel") (ty := .int) (ty0 := tyX7) 8 rfl il_X7_remember_X7 tyX7_ok nmX7 rfl rfl fl_X7_remember_38 rfl rfl rfl rfl rfl rfl dX7_remember_47 ?_
        dsimp only [List.set_cons_zero, List.set_cons_succ]
        refine V_aload_n (i := 0) dX7_remember_50 rfl rfl ?_
        refine V_get (C := RX7) (T := TX7) (N := 17) (ci := 6) (q := 0) (ref := "OrderChainsModel") 5 rfl il_X7_remember_X7 rfl rfl fl_X7_remember_16 rfl rfl dX7_remember_51 ?_
        refine V_iconst (v := 0) dX7_remember_54 rfl ?_
        refine V_aload_n (i := 0) dX7_remember_55 rfl rfl ?_
        refine V_get (C := RX7) (T := TX7) (N := 17) (ci := 6) (q := 0) (ref := "OrderChainsModel") 7 rfl il_X7_remember_X7 rfl rfl fl_X7_remember_22 rfl rfl dX7_remember_56 ?_
        refine V_sipush (v := 427) dX7_remember_59 (by decide) ?_
        refine V_aload_n (i := 0) dX7_remember_62 rfl rfl ?_
        refine V_get (C := RX7) (T := TX7) (N := 17) (ci := 6) (q := 0) (ref := "OrderChainsModel") 8 rfl il_X7_remember_X7 rfl rfl fl_X7_remember_38 rfl rfl dX7_remember_63 ?_
        refine V_imul dX7_remember_66 ?_
        refine V_callS (As := _) (rest := []) [1, 2] (c_X7_copyEngine l G (B 3) (B 5) 427 5978 0 (427 * (z 3 - 1)) g w rfl rfl (by omega) (by omega)) vy_X7_copyEngine gX7_remember_X7_copyEngine rfl rfl rfl rfl ⟨rfl, rfl⟩ ⟨rfl, rfl⟩ ⟨Nat.zero_le _, Nat.zero_le _⟩ rfl dX7_remember_67 (fun v Y hE => ?_)
        obtain ⟨rfl, rfl⟩ := hE
        refine ⟨rfl, ?_⟩
        dsimp only [vfill, List.set_cons_zero, List.set_cons_succ, Option.toList, List.cons_append, List.nil_append, Nat.add_zero]
        refine V_aload_n (i := 0) dX7_remember_70 rfl rfl ?_
        refine V_dup dX7_remember_71 rfl ?_
        refine V_get (C := RX7) (T := TX7) (N := 17) (ci := 6) (q := 0) (ref := "OrderChainsModel") 8 rfl il_X7_remember_X7 rfl rfl fl_X7_remember_38 rfl rfl dX7_remember_72 ?_
        refine V_iconst (v := 1) dX7_remember_75 rfl ?_
        refine V_iadd dX7_remember_76 ?_
        refine V_put (C := RX7) (T := TX7) (N := 17) (ci := 6) (q := 0) (ref := "OrderChainsModel") (ty := .int) (ty0 := tyX7) 8 rfl il_X7_remember_X7 tyX7_ok nmX7 rfl rfl fl_X7_remember_38 rfl rfl rfl rfl rfl rfl dX7_remember_77 ?_
        dsimp only [List.set_cons_zero, List.set_cons_succ]
        refine V_vret hR dX7_remember_80 hkc hks ?_
        have hk9 : k = 5551 := by omega
        refine ⟨rfl, ?_⟩
        show [mO B (va_up (va_up z 3 (z 3 - 1)) 3 (z 3 - 1 + 1)), iA G (B 3) 427 g, iA G (B 5) 5978 (cpE 427 g 0 w (427 * (z 3 - 1)))] = _
        unfold rmA rmD
        rw [if_pos h14, if_pos h14, hw, hk9, h14]
        rfl
      · refine V_aload_n (i := 0) dX7_remember_18 rfl rfl ?_
        refine V_get (C := RX7) (T := TX7) (N := 17) (ci := 6) (q := 0) (ref := "OrderChainsModel") 7 rfl il_X7_remember_X7 rfl rfl fl_X7_remember_22 rfl rfl dX7_remember_19 ?_
        refine V_iload_n (i := 1) dX7_remember_22 rfl rfl ?_
        refine V_aload_n (i := 0) dX7_remember_23 rfl rfl ?_
        refine V_get (C := RX7) (T := TX7) (N := 17) (ci := 6) (q := 0) (ref := "OrderChainsModel") 7 rfl il_X7_remember_X7 rfl rfl fl_X7_remember_22 rfl rfl dX7_remember_24 ?_
        refine V_iload_n (i := 1) dX7_remember_27 rfl rfl ?_
        refine V_sipush (v := 427) dX7_remember_28 (by decide) ?_
        refine V_iadd dX7_remember_31 ?_
        refine V_iald (q := 2) rfl (by omega) rfl dX7_remember_32 ?_
        refine V_iast (q := 2) rfl (by omega) rfl dX7_remember_33 ?_
        dsimp only [List.set_cons_zero, List.set_cons_succ]
        refine V_iinc dX7_remember_34 rfl (nI_1 _) rfl rfl ?_
        dsimp only [List.set_cons_zero, List.set_cons_succ]
        refine V_goto (tgt := 11) dX7_remember_37 rfl ?_
        exact ih (k + 1) _ (by omega) (by omega) (by rw [hw, shN_s]) h14
  refine V_aload_n (i := 0) dX7_remember_0 rfl rfl ?_
  refine V_get (C := RX7) (T := TX7) (N := 17) (ci := 6) (q := 0) (ref := "OrderChainsModel") 8 rfl il_X7_remember_X7 rfl rfl fl_X7_remember_38 rfl rfl dX7_remember_1 ?_
  refine V_bipush (v := 14) dX7_remember_4 (by decide) ?_
  refine V_icmp_ne (tgt := 50) (by omega) (by omega) dX7_remember_6 rfl (fun h_6 => ?_) (fun h_6 => ?_)
  · refine V_aload_n (i := 0) dX7_remember_50 rfl rfl ?_
    refine V_get (C := RX7) (T := TX7) (N := 17) (ci := 6) (q := 0) (ref := "OrderChainsModel") 5 rfl il_X7_remember_X7 rfl rfl fl_X7_remember_16 rfl rfl dX7_remember_51 ?_
    refine V_iconst (v := 0) dX7_remember_54 rfl ?_
    refine V_aload_n (i := 0) dX7_remember_55 rfl rfl ?_
    refine V_get (C := RX7) (T := TX7) (N := 17) (ci := 6) (q := 0) (ref := "OrderChainsModel") 7 rfl il_X7_remember_X7 rfl rfl fl_X7_remember_22 rfl rfl dX7_remember_56 ?_
    refine V_sipush (v := 427) dX7_remember_59 (by decide) ?_
    refine V_aload_n (i := 0) dX7_remember_62 rfl rfl ?_
    refine V_get (C := RX7) (T := TX7) (N := 17) (ci := 6) (q := 0) (ref := "OrderChainsModel") 8 rfl il_X7_remember_X7 rfl rfl fl_X7_remember_38 rfl rfl dX7_remember_63 ?_
    refine V_imul dX7_remember_66 ?_
    refine V_callS (As := _) (rest := []) [1, 2] (c_X7_copyEngine l G (B 3) (B 5) 427 5978 0 (427 * z 3) g d rfl rfl (by omega) (by omega)) vy_X7_copyEngine gX7_remember_X7_copyEngine rfl rfl rfl rfl ⟨rfl, rfl⟩ ⟨rfl, rfl⟩ ⟨Nat.zero_le _, Nat.zero_le _⟩ rfl dX7_remember_67 (fun v Y hE => ?_)
    obtain ⟨rfl, rfl⟩ := hE
    refine ⟨rfl, ?_⟩
    dsimp only [vfill, List.set_cons_zero, List.set_cons_succ, Option.toList, List.cons_append, List.nil_append, Nat.add_zero]
    refine V_aload_n (i := 0) dX7_remember_70 rfl rfl ?_
    refine V_dup dX7_remember_71 rfl ?_
    refine V_get (C := RX7) (T := TX7) (N := 17) (ci := 6) (q := 0) (ref := "OrderChainsModel") 8 rfl il_X7_remember_X7 rfl rfl fl_X7_remember_38 rfl rfl dX7_remember_72 ?_
    refine V_iconst (v := 1) dX7_remember_75 rfl ?_
    refine V_iadd dX7_remember_76 ?_
    refine V_put (C := RX7) (T := TX7) (N := 17) (ci := 6) (q := 0) (ref := "OrderChainsModel") (ty := .int) (ty0 := tyX7) 8 rfl il_X7_remember_X7 tyX7_ok nmX7 rfl rfl fl_X7_remember_38 rfl rfl rfl rfl rfl rfl dX7_remember_77 ?_
    dsimp only [List.set_cons_zero, List.set_cons_succ]
    refine V_vret hR dX7_remember_80 hkc hks ?_
    refine ⟨rfl, ?_⟩
    show [mO B (va_up z 3 (z 3 + 1)), iA G (B 3) 427 g, iA G (B 5) 5978 (cpE 427 g 0 d (427 * z 3))] = _
    unfold rmA rmD
    rw [if_neg h_6, if_neg h_6]
  · refine V_iconst (v := 0) dX7_remember_9 rfl ?_
    refine V_istore_n (i := 1) dX7_remember_10 rfl rfl rfl ?_
    dsimp only [List.set_cons_zero, List.set_cons_succ]
    exact LP11 5552 0 d (by omega) (by omega) (shN_0 d).symm h_6

abbrev rX7_poke : Room := { frames := 2, cells := 0, slots := 0, locals := 45 }
theorem vy_X7_poke : vY yX7_poke wsX7_poke cX7_poke 4 (some .int) 2 := ⟨⟨_, rfl⟩, by decide +kernel, by decide +kernel, by decide +kernel⟩
theorem kc_X7_poke_158 : Cond.constantLong RX7 158 (99) ∈ wsX7_poke := List.mem_of_getElem? (i := 1) rfl
theorem fl_X7_poke_16 : Cond.fieldLink RX7 16 "OrderChainsModel" "now" "[I" ∈ wsX7_poke := List.mem_of_getElem? (i := 2) rfl
theorem il_X7_poke_X7 : ∀ w ∈ wsX70, w ∈ wsX7_poke := fun _ h => List.mem_cons_of_mem _ (List.mem_append_right _ h)
set_option maxHeartbeats 4000000 in
set_option maxRecDepth 100000 in
/-- poke -/
theorem c_X7_poke (l : Launch) (G : vG) (B z g d : Nat → Nat) (p w : Nat) (h3 : z 3 ≤ 14) (hp : p < 4294967296) (hw : w < 4294967296) : Kc l G yX7_poke wsX7_poke rX7_poke [.ref (B 0), .int (nI p), .int (nI w)] [mO B z, iA G (B 3) 427 g, iA G (B 5) 5978 d] (fun v Y => (¬ p < 96 ∧ v = some (.int (nI 0)) ∧ Y = [mO B (va_up z 0 1), iA G (B 3) 427 g, iA G (B 5) 5978 d]) ∨ (p < 96 ∧ ¬ w < 100 ∧ v = some (.int (nI 0)) ∧ Y = [mO B (va_up z 0 2), iA G (B 3) 427 g, iA G (B 5) 5978 d]) ∨ (p < 96 ∧ w < 100 ∧ v = some (.int (nI (g p))) ∧ Y = [mO B (va_up (va_up z 0 0) 3 (rmA (z 3))), iA G (B 3) 427 (va_up g p w), iA G (B 5) 5978 (rmD (z 3) g d)])) 0 0 := by
  refine V_enter (own := RX7) [some (.ref (B 0)), some (.int (nI p)), some (.int (nI w)), none] (by decide +kernel) rfl rfl (Nat.le_of_ble_eq_true rfl) rfl (fun Γ hR hin => ?_)
  have hkc : 0 ≤ 0 := Nat.le_refl 0
  have hks : 0 ≤ 0 := Nat.le_refl 0
  refine V_aload_n (i := 0) dX7_poke_0 rfl rfl ?_
  refine V_iload_n (i := 1) dX7_poke_1 rfl rfl ?_
  refine V_callS (As := _) (rest := _) [] (c_X7_isCell l G (p) hp) vy_X7_isCell gX7_poke_X7_isCell rfl rfl rfl rfl ⟨rfl, rfl⟩ ⟨rfl, rfl⟩ ⟨Nat.zero_le _, Nat.zero_le _⟩ rfl dX7_poke_2 (fun v Y hE => ?_)
  obtain ⟨rfl, rfl⟩ := hE
  refine ⟨rfl, ?_⟩
  dsimp only [vfill, List.set_cons_zero, List.set_cons_succ, Option.toList, List.cons_append, List.nil_append, Nat.add_zero]
  refine V_if_ne (tgt := 12) (by split <;> decide) dX7_poke_5 rfl (fun h_5 => ?_) (fun h_5 => ?_)
  · have hy := b01 h_5
    refine V_iload_n (i := 2) dX7_poke_12 rfl rfl ?_
    refine V_i2l dX7_poke_13 ?_
    refine V_lconst dX7_poke_14 rfl ?_
    refine V_ldc2 (v := 99) dX7_poke_15 kc_X7_poke_158 ?_
    refine V_callS (As := _) (rest := _) [] (c_X7_inN l G (w) 0 99 _ _ (by decide) (by decide) hw (by decide)) vy_X7_in gX7_poke_X7_in rfl rfl rfl rfl ⟨rfl, rfl⟩ ⟨rfl, rfl⟩ ⟨Nat.zero_le _, Nat.zero_le _⟩ rfl dX7_poke_18 (fun v Y hE => ?_)
    obtain ⟨rfl, rfl⟩ := hE
    refine ⟨rfl, ?_⟩
    dsimp only [vfill, List.set_cons_zero, List.set_cons_succ, Option.toList, List.cons_append, List.nil_append, Nat.add_zero]
    refine V_if_eq (tgt := 28) (by split <;> decide) dX7_poke_21 rfl (fun h_21 => ?_) (fun h_21 => ?_)
    · refine V_iconst (v := 2) dX7_poke_28 rfl ?_
      refine V_callV (C := RX7) (q := 0) (ci := 6) (As := _) (rest := []) [0] (c_X7_refused l G B z 2 (by decide)) vy_X7_refused gX7_poke_X7_refused rfl rfl rfl rfl rfl rfl rfl ⟨rfl, rfl⟩ ⟨rfl, rfl⟩ ⟨Nat.zero_le _, Nat.zero_le _⟩ rfl dX7_poke_29 (fun v Y hE => ?_)
      obtain ⟨rfl, rfl⟩ := hE
      refine ⟨rfl, ?_⟩
      dsimp only [vfill, List.set_cons_zero, List.set_cons_succ, Option.toList, List.cons_append, List.nil_append, Nat.add_zero]
      refine V_top (b := 1) (by decide) ?_
      refine V_if_eq (tgt := 37) (by omega) dX7_poke_32 rfl (fun h_32 => ?_) (fun h_32 => ?_)
      · exfalso; omega
      · refine V_iconst (v := 0) dX7_poke_35 rfl ?_
        refine V_iret hR dX7_poke_36 hkc hks ?_
        first | exact Or.inl ⟨b00 h_5, rfl, rfl⟩ | exact Or.inr (Or.inl ⟨hy, fun y9 => b00 h_21 (by omega), rfl, rfl⟩)
    · have hx := b01 h_21
      refine V_iconst (v := 0) dX7_poke_24 rfl ?_
      refine V_goto (tgt := 29) dX7_poke_25 rfl ?_
      refine V_callV (C := RX7) (q := 0) (ci := 6) (As := _) (rest := []) [0] (c_X7_refused l G B z 0 (by decide)) vy_X7_refused gX7_poke_X7_refused rfl rfl rfl rfl rfl rfl rfl ⟨rfl, rfl⟩ ⟨rfl, rfl⟩ ⟨Nat.zero_le _, Nat.zero_le _⟩ rfl dX7_poke_29 (fun v Y hE => ?_)
      obtain ⟨rfl, rfl⟩ := hE
      refine ⟨rfl, ?_⟩
      dsimp only [vfill, List.set_cons_zero, List.set_cons_succ, Option.toList, List.cons_append, List.nil_append, Nat.add_zero]
      refine V_top (b := 0) (by decide) ?_
      refine V_if_eq (tgt := 37) (by omega) dX7_poke_32 rfl (fun h_32 => ?_) (fun h_32 => ?_)
      · refine V_aload_n (i := 0) dX7_poke_37 rfl rfl ?_
        refine V_callV (C := RX7) (q := 0) (ci := 6) (As := []) (rest := []) [0, 1, 2] (c_X7_remember l G B (va_up z 0 0) g d h3) vy_X7_remember gX7_poke_X7_remember rfl rfl rfl rfl rfl rfl rfl ⟨rfl, rfl⟩ ⟨rfl, rfl⟩ ⟨Nat.zero_le _, Nat.zero_le _⟩ rfl dX7_poke_38 (fun v Y hE => ?_)
        obtain ⟨rfl, rfl⟩ := hE
        refine ⟨rfl, ?_⟩
        dsimp only [vfill, List.set_cons_zero, List.set_cons_succ, Option.toList, List.cons_append, List.nil_append, Nat.add_zero]
        refine V_aload_n (i := 0) dX7_poke_41 rfl rfl ?_
        refine V_get (C := RX7) (T := TX7) (N := 17) (ci := 6) (q := 0) (ref := "OrderChainsModel") 5 rfl il_X7_poke_X7 rfl rfl fl_X7_poke_16 rfl rfl dX7_poke_42 ?_
        refine V_iload_n (i := 1) dX7_poke_45 rfl rfl ?_
        refine V_iald (q := 1) rfl (by omega) rfl dX7_poke_46 ?_
        refine V_istore_n (i := 3) dX7_poke_47 rfl rfl rfl ?_
        dsimp only [List.set_cons_zero, List.set_cons_succ]
        refine V_aload_n (i := 0) dX7_poke_48 rfl rfl ?_
        refine V_get (C := RX7) (T := TX7) (N := 17) (ci := 6) (q := 0) (ref := "OrderChainsModel") 5 rfl il_X7_poke_X7 rfl rfl fl_X7_poke_16 rfl rfl dX7_poke_49 ?_
        refine V_iload_n (i := 1) dX7_poke_52 rfl rfl ?_
        refine V_iload_n (i := 2) dX7_poke_53 rfl rfl ?_
        refine V_iast (q := 1) rfl (by omega) rfl dX7_poke_54 ?_
        dsimp only [List.set_cons_zero, List.set_cons_succ]
        refine V_iload_n (i := 3) dX7_poke_55 rfl rfl ?_
        refine V_iret hR dX7_poke_56 hkc hks ?_
        exact Or.inr (Or.inr ⟨hy, by omega, rfl, rfl⟩)
      · exfalso; omega
  · refine V_iconst (v := 1) dX7_poke_8 rfl ?_
    refine V_goto (tgt := 29) dX7_poke_9 rfl ?_
    refine V_callV (C := RX7) (q := 0) (ci := 6) (As := _) (rest := []) [0] (c_X7_refused l G B z 1 (by decide)) vy_X7_refused gX7_poke_X7_refused rfl rfl rfl rfl rfl rfl rfl ⟨rfl, rfl⟩ ⟨rfl, rfl⟩ ⟨Nat.zero_le _, Nat.zero_le _⟩ rfl dX7_poke_29 (fun v Y hE => ?_)
    obtain ⟨rfl, rfl⟩ := hE
    refine ⟨rfl, ?_⟩
    dsimp only [vfill, List.set_cons_zero, List.set_cons_succ, Option.toList, List.cons_append, List.nil_append, Nat.add_zero]
    refine V_top (b := 1) (by decide) ?_
    refine V_if_eq (tgt := 37) (by omega) dX7_poke_32 rfl (fun h_32 => ?_) (fun h_32 => ?_)
    · exfalso; omega
    · refine V_iconst (v := 0) dX7_poke_35 rfl ?_
      refine V_iret hR dX7_poke_36 hkc hks ?_
      first | exact Or.inl ⟨b00 h_5, rfl, rfl⟩ | exact Or.inr (Or.inl ⟨hy, fun y9 => b00 h_21 (by omega), rfl, rfl⟩)

abbrev rX7_order : Room := { frames := 2, cells := 0, slots := 0, locals := 45 }
theorem vy_X7_order : vY yX7_order wsX7_order cX7_order 8 (some .int) 5 := ⟨⟨_, rfl⟩, by decide +kernel, by decide +kernel, by decide +kernel⟩
theorem kc_X7_order_158 : Cond.constantLong RX7 158 (99) ∈ wsX7_order := List.mem_of_getElem? (i := 1) rfl
theorem fl_X7_order_16 : Cond.fieldLink RX7 16 "OrderChainsModel" "now" "[I" ∈ wsX7_order := List.mem_of_getElem? (i := 2) rfl
theorem il_X7_order_X7 : ∀ w ∈ wsX70, w ∈ wsX7_order := fun _ h => List.mem_cons_of_mem _ (List.mem_append_right _ h)
set_option maxHeartbeats 4000000 in
set_option maxRecDepth 100000 in
/-- order -/
theorem c_X7_order (l : Launch) (G : vG) (B z g d : Nat → Nat) (p k1 k2 k3 k4 : Nat) (h3 : z 3 ≤ 14) (hp : p < 4294967296) (hk1 : k1 < 4294967296) (hk2 : k2 < 4294967296) (hk3 : k3 < 4294967296) (hk4 : k4 < 4294967296) : Kc l G yX7_order wsX7_order rX7_order [.ref (B 0), .int (nI p), .int (nI k1), .int (nI k2), .int (nI k3), .int (nI k4)] [mO B z, iA G (B 3) 427 g, iA G (B 5) 5978 d] (fun v Y => (¬ p < 96 ∧ v = some (.int (nI 0)) ∧ Y = [mO B (va_up z 0 1), iA G (B 3) 427 g, iA G (B 5) 5978 d]) ∨ (p < 96 ∧ ¬ (p ≤ 90 ∧ k1 < 100 ∧ k2 < 100 ∧ k3 < 100 ∧ k4 < 100) ∧ v = some (.int (nI 0)) ∧ Y = [mO B (va_up z 0 2), iA G (B 3) 427 g, iA G (B 5) 5978 d]) ∨ (p < 96 ∧ (p ≤ 90 ∧ k1 < 100 ∧ k2 < 100 ∧ k3 < 100 ∧ k4 < 100) ∧ v = some (.int (nI (g p))) ∧ Y = [mO B (va_up (va_up z 0 0) 3 (rmA (z 3))), iA G (B 3) 427 (va_up (va_up (va_up (va_up (va_up (va_up g p k1) (p + 1) k2) (p + 2) k3) (p + 3) k4) (p + 4) 1) (p + 5) (p + 6)), iA G (B 5) 5978 (rmD (z 3) g d)])) 0 0 := by
  refine V_enter (own := RX7) [some (.ref (B 0)), some (.int (nI p)), some (.int (nI k1)), some (.int (nI k2)), some (.int (nI k3)), some (.int (nI k4)), none, none] (by decide +kernel) rfl rfl (Nat.le_of_ble_eq_true rfl) rfl (fun Γ hR hin => ?_)
  have hkc : 0 ≤ 0 := Nat.le_refl 0
  have hks : 0 ≤ 0 := Nat.le_refl 0
  refine V_iload_n (i := 1) dX7_order_0 rfl rfl ?_
  refine V_bipush (v := 90) dX7_order_1 (by decide) ?_
  refine V_icmp_gtA (tgt := 60) (by omega) (by omega) dX7_order_3 rfl (fun h_3 => ?_) (fun h_3 => ?_)
  · refine V_iconst (v := 0) dX7_order_60 rfl ?_
    refine V_istore (i := 6) dX7_order_61 rfl rfl ?_
    dsimp only [List.set_cons_zero, List.set_cons_succ]
    refine V_aload_n (i := 0) dX7_order_63 rfl rfl ?_
    refine V_iload_n (i := 1) dX7_order_64 rfl rfl ?_
    refine V_callS (As := _) (rest := _) [] (c_X7_isCell l G (p) hp) vy_X7_isCell gX7_order_X7_isCell rfl rfl rfl rfl ⟨rfl, rfl⟩ ⟨rfl, rfl⟩ ⟨Nat.zero_le _, Nat.zero_le _⟩ rfl dX7_order_65 (fun v Y hE => ?_)
    obtain ⟨rfl, rfl⟩ := hE
    refine ⟨rfl, ?_⟩
    dsimp only [vfill, List.set_cons_zero, List.set_cons_succ, Option.toList, List.cons_append, List.nil_append, Nat.add_zero]
    refine V_if_ne (tgt := 75) (by split <;> decide) dX7_order_68 rfl (fun h_68 => ?_) (fun h_68 => ?_)
    · have hy := b01 h_68
      refine V_iload (i := 6) dX7_order_75 rfl ?_
      refine V_if_eq (tgt := 84) (by omega) dX7_order_77 rfl (fun h_77 => ?_) (fun h_77 => ?_)
      · refine V_iconst (v := 2) dX7_order_84 rfl ?_
        refine V_callV (C := RX7) (q := 0) (ci := 6) (As := _) (rest := []) [0] (c_X7_refused l G B z 2 (by decide)) vy_X7_refused gX7_order_X7_refused rfl rfl rfl rfl rfl rfl rfl ⟨rfl, rfl⟩ ⟨rfl, rfl⟩ ⟨Nat.zero_le _, Nat.zero_le _⟩ rfl dX7_order_85 (fun v Y hE => ?_)
        obtain ⟨rfl, rfl⟩ := hE
        refine ⟨rfl, ?_⟩
        dsimp only [vfill, List.set_cons_zero, List.set_cons_succ, Option.toList, List.cons_append, List.nil_append, Nat.add_zero]
        refine V_top (b := 1) (by decide) ?_
        refine V_if_eq (tgt := 93) (by omega) dX7_order_88 rfl (fun h_88 => ?_) (fun h_88 => ?_)
        · exfalso; omega
        · refine V_iconst (v := 0) dX7_order_91 rfl ?_
          refine V_iret hR dX7_order_92 hkc hks ?_
          first | exact Or.inl ⟨b00 h_68, rfl, rfl⟩ | exact Or.inr (Or.inl ⟨hy, fun y9 => by omega, rfl, rfl⟩) | exact Or.inr (Or.inl ⟨hy, fun y9 => b00 h_15 (by omega), rfl, rfl⟩) | exact Or.inr (Or.inl ⟨hy, fun y9 => b00 h_27 (by omega), rfl, rfl⟩) | exact Or.inr (Or.inl ⟨hy, fun y9 => b00 h_40 (by omega), rfl, rfl⟩) | exact Or.inr (Or.inl ⟨hy, fun y9 => b00 h_53 (by omega), rfl, rfl⟩)
      · exfalso; omega
    · refine V_iconst (v := 1) dX7_order_71 rfl ?_
      refine V_goto (tgt := 85) dX7_order_72 rfl ?_
      refine V_callV (C := RX7) (q := 0) (ci := 6) (As := _) (rest := []) [0] (c_X7_refused l G B z 1 (by decide)) vy_X7_refused gX7_order_X7_refused rfl rfl rfl rfl rfl rfl rfl ⟨rfl, rfl⟩ ⟨rfl, rfl⟩ ⟨Nat.zero_le _, Nat.zero_le _⟩ rfl dX7_order_85 (fun v Y hE => ?_)
      obtain ⟨rfl, rfl⟩ := hE
      refine ⟨rfl, ?_⟩
      dsimp only [vfill, List.set_cons_zero, List.set_cons_succ, Option.toList, List.cons_append, List.nil_append, Nat.add_zero]
      refine V_top (b := 1) (by decide) ?_
      refine V_if_eq (tgt := 93) (by omega) dX7_order_88 rfl (fun h_88 => ?_) (fun h_88 => ?_)
      · exfalso; omega
      · refine V_iconst (v := 0) dX7_order_91 rfl ?_
        refine V_iret hR dX7_order_92 hkc hks ?_
        first | exact Or.inl ⟨b00 h_68, rfl, rfl⟩ | exact Or.inr (Or.inl ⟨hy, fun y9 => by omega, rfl, rfl⟩) | exact Or.inr (Or.inl ⟨hy, fun y9 => b00 h_15 (by omega), rfl, rfl⟩) | exact Or.inr (Or.inl ⟨hy, fun y9 => b00 h_27 (by omega), rfl, rfl⟩) | exact Or.inr (Or.inl ⟨hy, fun y9 => b00 h_40 (by omega), rfl, rfl⟩) | exact Or.inr (Or.inl ⟨hy, fun y9 => b00 h_53 (by omega), rfl, rfl⟩)
  · refine V_iload_n (i := 2) dX7_order_6 rfl rfl ?_
    refine V_i2l dX7_order_7 ?_
    refine V_lconst dX7_order_8 rfl ?_
    refine V_ldc2 (v := 99) dX7_order_9 kc_X7_order_158 ?_
    refine V_callS (As := _) (rest := []) [] (c_X7_inN l G (k1) 0 99 _ _ (by decide) (by decide) hk1 (by decide)) vy_X7_in gX7_order_X7_in rfl rfl rfl rfl ⟨rfl, rfl⟩ ⟨rfl, rfl⟩ ⟨Nat.zero_le _, Nat.zero_le _⟩ rfl dX7_order_12 (fun v Y hE => ?_)
    obtain ⟨rfl, rfl⟩ := hE
    refine ⟨rfl, ?_⟩
    dsimp only [vfill, List.set_cons_zero, List.set_cons_succ, Option.toList, List.cons_append, List.nil_append, Nat.add_zero]
    refine V_if_eq (tgt := 60) (by split <;> decide) dX7_order_15 rfl (fun h_15 => ?_) (fun h_15 => ?_)
    · refine V_iconst (v := 0) dX7_order_60 rfl ?_
      refine V_istore (i := 6) dX7_order_61 rfl rfl ?_
      dsimp only [List.set_cons_zero, List.set_cons_succ]
      refine V_aload_n (i := 0) dX7_order_63 rfl rfl ?_
      refine V_iload_n (i := 1) dX7_order_64 rfl rfl ?_
      refine V_callS (As := _) (rest := _) [] (c_X7_isCell l G (p) hp) vy_X7_isCell gX7_order_X7_isCell rfl rfl rfl rfl ⟨rfl, rfl⟩ ⟨rfl, rfl⟩ ⟨Nat.zero_le _, Nat.zero_le _⟩ rfl dX7_order_65 (fun v Y hE => ?_)
      obtain ⟨rfl, rfl⟩ := hE
      refine ⟨rfl, ?_⟩
      dsimp only [vfill, List.set_cons_zero, List.set_cons_succ, Option.toList, List.cons_append, List.nil_append, Nat.add_zero]
      refine V_if_ne (tgt := 75) (by split <;> decide) dX7_order_68 rfl (fun h_68 => ?_) (fun h_68 => ?_)
      · have hy := b01 h_68
        refine V_iload (i := 6) dX7_order_75 rfl ?_
        refine V_if_eq (tgt := 84) (by omega) dX7_order_77 rfl (fun h_77 => ?_) (fun h_77 => ?_)
        · refine V_iconst (v := 2) dX7_order_84 rfl ?_
          refine V_callV (C := RX7) (q := 0) (ci := 6) (As := _) (rest := []) [0] (c_X7_refused l G B z 2 (by decide)) vy_X7_refused gX7_order_X7_refused rfl rfl rfl rfl rfl rfl rfl ⟨rfl, rfl⟩ ⟨rfl, rfl⟩ ⟨Nat.zero_le _, Nat.zero_le _⟩ rfl dX7_order_85 (fun v Y hE => ?_)
          obtain ⟨rfl, rfl⟩ := hE
          refine ⟨rfl, ?_⟩
          dsimp only [vfill, List.set_cons_zero, List.set_cons_succ, Option.toList, List.cons_append, List.nil_append, Nat.add_zero]
          refine V_top (b := 1) (by decide) ?_
          refine V_if_eq (tgt := 93) (by omega) dX7_order_88 rfl (fun h_88 => ?_) (fun h_88 => ?_)
          · exfalso; omega
          · refine V_iconst (v := 0) dX7_order_91 rfl ?_
            refine V_iret hR dX7_order_92 hkc hks ?_
            first | exact Or.inl ⟨b00 h_68, rfl, rfl⟩ | exact Or.inr (Or.inl ⟨hy, fun y9 => by omega, rfl, rfl⟩) | exact Or.inr (Or.inl ⟨hy, fun y9 => b00 h_15 (by omega), rfl, rfl⟩) | exact Or.inr (Or.inl ⟨hy, fun y9 => b00 h_27 (by omega), rfl, rfl⟩) | exact Or.inr (Or.inl ⟨hy, fun y9 => b00 h_40 (by omega), rfl, rfl⟩) | exact Or.inr (Or.inl ⟨hy, fun y9 => b00 h_53 (by omega), rfl, rfl⟩)
        · exfalso; omega
      · refine V_iconst (v := 1) dX7_order_71 rfl ?_
        refine V_goto (tgt := 85) dX7_order_72 rfl ?_
        refine V_callV (C := RX7) (q := 0) (ci := 6) (As := _) (rest := []) [0] (c_X7_refused l G B z 1 (by decide)) vy_X7_refused gX7_order_X7_refused rfl rfl rfl rfl rfl rfl rfl ⟨rfl, rfl⟩ ⟨rfl, rfl⟩ ⟨Nat.zero_le _, Nat.zero_le _⟩ rfl dX7_order_85 (fun v Y hE => ?_)
        obtain ⟨rfl, rfl⟩ := hE
        refine ⟨rfl, ?_⟩
        dsimp only [vfill, List.set_cons_zero, List.set_cons_succ, Option.toList, List.cons_append, List.nil_append, Nat.add_zero]
        refine V_top (b := 1) (by decide) ?_
        refine V_if_eq (tgt := 93) (by omega) dX7_order_88 rfl (fun h_88 => ?_) (fun h_88 => ?_)
        · exfalso; omega
        · refine V_iconst (v := 0) dX7_order_91 rfl ?_
          refine V_iret hR dX7_order_92 hkc hks ?_
          first | exact Or.inl ⟨b00 h_68, rfl, rfl⟩ | exact Or.inr (Or.inl ⟨hy, fun y9 => by omega, rfl, rfl⟩) | exact Or.inr (Or.inl ⟨hy, fun y9 => b00 h_15 (by omega), rfl, rfl⟩) | exact Or.inr (Or.inl ⟨hy, fun y9 => b00 h_27 (by omega), rfl, rfl⟩) | exact Or.inr (Or.inl ⟨hy, fun y9 => b00 h_40 (by omega), rfl, rfl⟩) | exact Or.inr (Or.inl ⟨hy, fun y9 => b00 h_53 (by omega), rfl, rfl⟩)
    · refine V_iload_n (i := 3) dX7_order_18 rfl rfl ?_
      refine V_i2l dX7_order_19 ?_
      refine V_lconst dX7_order_20 rfl ?_
      refine V_ldc2 (v := 99) dX7_order_21 kc_X7_order_158 ?_
      refine V_callS (As := _) (rest := []) [] (c_X7_inN l G (k2) 0 99 _ _ (by decide) (by decide) hk2 (by decide)) vy_X7_in gX7_order_X7_in rfl rfl rfl rfl ⟨rfl, rfl⟩ ⟨rfl, rfl⟩ ⟨Nat.zero_le _, Nat.zero_le _⟩ rfl dX7_order_24 (fun v Y hE => ?_)
      obtain ⟨rfl, rfl⟩ := hE
      refine ⟨rfl, ?_⟩
      dsimp only [vfill, List.set_cons_zero, List.set_cons_succ, Option.toList, List.cons_append, List.nil_append, Nat.add_zero]
      refine V_if_eq (tgt := 60) (by split <;> decide) dX7_order_27 rfl (fun h_27 => ?_) (fun h_27 => ?_)
      · refine V_iconst (v := 0) dX7_order_60 rfl ?_
        refine V_istore (i := 6) dX7_order_61 rfl rfl ?_
        dsimp only [List.set_cons_zero, List.set_cons_succ]
        refine V_aload_n (i := 0) dX7_order_63 rfl rfl ?_
        refine V_iload_n (i := 1) dX7_order_64 rfl rfl ?_
        refine V_callS (As := _) (rest := _) [] (c_X7_isCell l G (p) hp) vy_X7_isCell gX7_order_X7_isCell rfl rfl rfl rfl ⟨rfl, rfl⟩ ⟨rfl, rfl⟩ ⟨Nat.zero_le _, Nat.zero_le _⟩ rfl dX7_order_65 (fun v Y hE => ?_)
        obtain ⟨rfl, rfl⟩ := hE
        refine ⟨rfl, ?_⟩
        dsimp only [vfill, List.set_cons_zero, List.set_cons_succ, Option.toList, List.cons_append, List.nil_append, Nat.add_zero]
        refine V_if_ne (tgt := 75) (by split <;> decide) dX7_order_68 rfl (fun h_68 => ?_) (fun h_68 => ?_)
        · have hy := b01 h_68
          refine V_iload (i := 6) dX7_order_75 rfl ?_
          refine V_if_eq (tgt := 84) (by omega) dX7_order_77 rfl (fun h_77 => ?_) (fun h_77 => ?_)
          · refine V_iconst (v := 2) dX7_order_84 rfl ?_
            refine V_callV (C := RX7) (q := 0) (ci := 6) (As := _) (rest := []) [0] (c_X7_refused l G B z 2 (by decide)) vy_X7_refused gX7_order_X7_refused rfl rfl rfl rfl rfl rfl rfl ⟨rfl, rfl⟩ ⟨rfl, rfl⟩ ⟨Nat.zero_le _, Nat.zero_le _⟩ rfl dX7_order_85 (fun v Y hE => ?_)
            obtain ⟨rfl, rfl⟩ := hE
            refine ⟨rfl, ?_⟩
            dsimp only [vfill, List.set_cons_zero, List.set_cons_succ, Option.toList, List.cons_append, List.nil_append, Nat.add_zero]
            refine V_top (b := 1) (by decide) ?_
            refine V_if_eq (tgt := 93) (by omega) dX7_order_88 rfl (fun h_88 => ?_) (fun h_88 => ?_)
            · exfalso; omega
            · refine V_iconst (v := 0) dX7_order_91 rfl ?_
              refine V_iret hR dX7_order_92 hkc hks ?_
              first | exact Or.inl ⟨b00 h_68, rfl, rfl⟩ | exact Or.inr (Or.inl ⟨hy, fun y9 => by omega, rfl, rfl⟩) | exact Or.inr (Or.inl ⟨hy, fun y9 => b00 h_15 (by omega), rfl, rfl⟩) | exact Or.inr (Or.inl ⟨hy, fun y9 => b00 h_27 (by omega), rfl, rfl⟩) | exact Or.inr (Or.inl ⟨hy, fun y9 => b00 h_40 (by omega), rfl, rfl⟩) | exact Or.inr (Or.inl ⟨hy, fun y9 => b00 h_53 (by omega), rfl, rfl⟩)
          · exfalso; omega
        · refine V_iconst (v := 1) dX7_order_71 rfl ?_
          refine V_goto (tgt := 85) dX7_order_72 rfl ?_
          refine V_callV (C := RX7) (q := 0) (ci := 6) (As := _) (rest := []) [0] (c_X7_refused l G B z 1 (by decide)) vy_X7_refused gX7_order_X7_refused rfl rfl rfl rfl rfl rfl rfl ⟨rfl, rfl⟩ ⟨rfl, rfl⟩ ⟨Nat.zero_le _, Nat.zero_le _⟩ rfl dX7_order_85 (fun v Y hE => ?_)
          obtain ⟨rfl, rfl⟩ := hE
          refine ⟨rfl, ?_⟩
          dsimp only [vfill, List.set_cons_zero, List.set_cons_succ, Option.toList, List.cons_append, List.nil_append, Nat.add_zero]
          refine V_top (b := 1) (by decide) ?_
          refine V_if_eq (tgt := 93) (by omega) dX7_order_88 rfl (fun h_88 => ?_) (fun h_88 => ?_)
          · exfalso; omega
          · refine V_iconst (v := 0) dX7_order_91 rfl ?_
            refine V_iret hR dX7_order_92 hkc hks ?_
            first | exact Or.inl ⟨b00 h_68, rfl, rfl⟩ | exact Or.inr (Or.inl ⟨hy, fun y9 => by omega, rfl, rfl⟩) | exact Or.inr (Or.inl ⟨hy, fun y9 => b00 h_15 (by omega), rfl, rfl⟩) | exact Or.inr (Or.inl ⟨hy, fun y9 => b00 h_27 (by omega), rfl, rfl⟩) | exact Or.inr (Or.inl ⟨hy, fun y9 => b00 h_40 (by omega), rfl, rfl⟩) | exact Or.inr (Or.inl ⟨hy, fun y9 => b00 h_53 (by omega), rfl, rfl⟩)
      · refine V_iload (i := 4) dX7_order_30 rfl ?_
        refine V_i2l dX7_order_32 ?_
        refine V_lconst dX7_order_33 rfl ?_
        refine V_ldc2 (v := 99) dX7_order_34 kc_X7_order_158 ?_
        refine V_callS (As := _) (rest := []) [] (c_X7_inN l G (k3) 0 99 _ _ (by decide) (by decide) hk3 (by decide)) vy_X7_in gX7_order_X7_in rfl rfl rfl rfl ⟨rfl, rfl⟩ ⟨rfl, rfl⟩ ⟨Nat.zero_le _, Nat.zero_le _⟩ rfl dX7_order_37 (fun v Y hE => ?_)
        obtain ⟨rfl, rfl⟩ := hE
        refine ⟨rfl, ?_⟩
        dsimp only [vfill, List.set_cons_zero, List.set_cons_succ, Option.toList, List.cons_append, List.nil_append, Nat.add_zero]
        refine V_if_eq (tgt := 60) (by split <;> decide) dX7_order_40 rfl (fun h_40 => ?_) (fun h_40 => ?_)
        · refine V_iconst (v := 0) dX7_order_60 rfl ?_
          refine V_istore (i := 6) dX7_order_61 rfl rfl ?_
          dsimp only [List.set_cons_zero, List.set_cons_succ]
          refine V_aload_n (i := 0) dX7_order_63 rfl rfl ?_
          refine V_iload_n (i := 1) dX7_order_64 rfl rfl ?_
          refine V_callS (As := _) (rest := _) [] (c_X7_isCell l G (p) hp) vy_X7_isCell gX7_order_X7_isCell rfl rfl rfl rfl ⟨rfl, rfl⟩ ⟨rfl, rfl⟩ ⟨Nat.zero_le _, Nat.zero_le _⟩ rfl dX7_order_65 (fun v Y hE => ?_)
          obtain ⟨rfl, rfl⟩ := hE
          refine ⟨rfl, ?_⟩
          dsimp only [vfill, List.set_cons_zero, List.set_cons_succ, Option.toList, List.cons_append, List.nil_append, Nat.add_zero]
          refine V_if_ne (tgt := 75) (by split <;> decide) dX7_order_68 rfl (fun h_68 => ?_) (fun h_68 => ?_)
          · have hy := b01 h_68
            refine V_iload (i := 6) dX7_order_75 rfl ?_
            refine V_if_eq (tgt := 84) (by omega) dX7_order_77 rfl (fun h_77 => ?_) (fun h_77 => ?_)
            · refine V_iconst (v := 2) dX7_order_84 rfl ?_
              refine V_callV (C := RX7) (q := 0) (ci := 6) (As := _) (rest := []) [0] (c_X7_refused l G B z 2 (by decide)) vy_X7_refused gX7_order_X7_refused rfl rfl rfl rfl rfl rfl rfl ⟨rfl, rfl⟩ ⟨rfl, rfl⟩ ⟨Nat.zero_le _, Nat.zero_le _⟩ rfl dX7_order_85 (fun v Y hE => ?_)
              obtain ⟨rfl, rfl⟩ := hE
              refine ⟨rfl, ?_⟩
              dsimp only [vfill, List.set_cons_zero, List.set_cons_succ, Option.toList, List.cons_append, List.nil_append, Nat.add_zero]
              refine V_top (b := 1) (by decide) ?_
              refine V_if_eq (tgt := 93) (by omega) dX7_order_88 rfl (fun h_88 => ?_) (fun h_88 => ?_)
              · exfalso; omega
              · refine V_iconst (v := 0) dX7_order_91 rfl ?_
                refine V_iret hR dX7_order_92 hkc hks ?_
                first | exact Or.inl ⟨b00 h_68, rfl, rfl⟩ | exact Or.inr (Or.inl ⟨hy, fun y9 => by omega, rfl, rfl⟩) | exact Or.inr (Or.inl ⟨hy, fun y9 => b00 h_15 (by omega), rfl, rfl⟩) | exact Or.inr (Or.inl ⟨hy, fun y9 => b00 h_27 (by omega), rfl, rfl⟩) | exact Or.inr (Or.inl ⟨hy, fun y9 => b00 h_40 (by omega), rfl, rfl⟩) | exact Or.inr (Or.inl ⟨hy, fun y9 => b00 h_53 (by omega), rfl, rfl⟩)
            · exfalso; omega
          · refine V_iconst (v := 1) dX7_order_71 rfl ?_
            refine V_goto (tgt := 85) dX7_order_72 rfl ?_
            refine V_callV (C := RX7) (q := 0) (ci := 6) (As := _) (rest := []) [0] (c_X7_refused l G B z 1 (by decide)) vy_X7_refused gX7_order_X7_refused rfl rfl rfl rfl rfl rfl rfl ⟨rfl, rfl⟩ ⟨rfl, rfl⟩ ⟨Nat.zero_le _, Nat.zero_le _⟩ rfl dX7_order_85 (fun v Y hE => ?_)
            obtain ⟨rfl, rfl⟩ := hE
            refine ⟨rfl, ?_⟩
            dsimp only [vfill, List.set_cons_zero, List.set_cons_succ, Option.toList, List.cons_append, List.nil_append, Nat.add_zero]
            refine V_top (b := 1) (by decide) ?_
            refine V_if_eq (tgt := 93) (by omega) dX7_order_88 rfl (fun h_88 => ?_) (fun h_88 => ?_)
            · exfalso; omega
            · refine V_iconst (v := 0) dX7_order_91 rfl ?_
              refine V_iret hR dX7_order_92 hkc hks ?_
              first | exact Or.inl ⟨b00 h_68, rfl, rfl⟩ | exact Or.inr (Or.inl ⟨hy, fun y9 => by omega, rfl, rfl⟩) | exact Or.inr (Or.inl ⟨hy, fun y9 => b00 h_15 (by omega), rfl, rfl⟩) | exact Or.inr (Or.inl ⟨hy, fun y9 => b00 h_27 (by omega), rfl, rfl⟩) | exact Or.inr (Or.inl ⟨hy, fun y9 => b00 h_40 (by omega), rfl, rfl⟩) | exact Or.inr (Or.inl ⟨hy, fun y9 => b00 h_53 (by omega), rfl, rfl⟩)
        · refine V_iload (i := 5) dX7_order_43 rfl ?_
          refine V_i2l dX7_order_45 ?_
          refine V_lconst dX7_order_46 rfl ?_
          refine V_ldc2 (v := 99) dX7_order_47 kc_X7_order_158 ?_
          refine V_callS (As := _) (rest := []) [] (c_X7_inN l G (k4) 0 99 _ _ (by decide) (by decide) hk4 (by decide)) vy_X7_in gX7_order_X7_in rfl rfl rfl rfl ⟨rfl, rfl⟩ ⟨rfl, rfl⟩ ⟨Nat.zero_le _, Nat.zero_le _⟩ rfl dX7_order_50 (fun v Y hE => ?_)
          obtain ⟨rfl, rfl⟩ := hE
          refine ⟨rfl, ?_⟩
          dsimp only [vfill, List.set_cons_zero, List.set_cons_succ, Option.toList, List.cons_append, List.nil_append, Nat.add_zero]
          refine V_if_eq (tgt := 60) (by split <;> decide) dX7_order_53 rfl (fun h_53 => ?_) (fun h_53 => ?_)
          · refine V_iconst (v := 0) dX7_order_60 rfl ?_
            refine V_istore (i := 6) dX7_order_61 rfl rfl ?_
            dsimp only [List.set_cons_zero, List.set_cons_succ]
            refine V_aload_n (i := 0) dX7_order_63 rfl rfl ?_
            refine V_iload_n (i := 1) dX7_order_64 rfl rfl ?_
            refine V_callS (As := _) (rest := _) [] (c_X7_isCell l G (p) hp) vy_X7_isCell gX7_order_X7_isCell rfl rfl rfl rfl ⟨rfl, rfl⟩ ⟨rfl, rfl⟩ ⟨Nat.zero_le _, Nat.zero_le _⟩ rfl dX7_order_65 (fun v Y hE => ?_)
            obtain ⟨rfl, rfl⟩ := hE
            refine ⟨rfl, ?_⟩
            dsimp only [vfill, List.set_cons_zero, List.set_cons_succ, Option.toList, List.cons_append, List.nil_append, Nat.add_zero]
            refine V_if_ne (tgt := 75) (by split <;> decide) dX7_order_68 rfl (fun h_68 => ?_) (fun h_68 => ?_)
            · have hy := b01 h_68
              refine V_iload (i := 6) dX7_order_75 rfl ?_
              refine V_if_eq (tgt := 84) (by omega) dX7_order_77 rfl (fun h_77 => ?_) (fun h_77 => ?_)
              · refine V_iconst (v := 2) dX7_order_84 rfl ?_
                refine V_callV (C := RX7) (q := 0) (ci := 6) (As := _) (rest := []) [0] (c_X7_refused l G B z 2 (by decide)) vy_X7_refused gX7_order_X7_refused rfl rfl rfl rfl rfl rfl rfl ⟨rfl, rfl⟩ ⟨rfl, rfl⟩ ⟨Nat.zero_le _, Nat.zero_le _⟩ rfl dX7_order_85 (fun v Y hE => ?_)
                obtain ⟨rfl, rfl⟩ := hE
                refine ⟨rfl, ?_⟩
                dsimp only [vfill, List.set_cons_zero, List.set_cons_succ, Option.toList, List.cons_append, List.nil_append, Nat.add_zero]
                refine V_top (b := 1) (by decide) ?_
                refine V_if_eq (tgt := 93) (by omega) dX7_order_88 rfl (fun h_88 => ?_) (fun h_88 => ?_)
                · exfalso; omega
                · refine V_iconst (v := 0) dX7_order_91 rfl ?_
                  refine V_iret hR dX7_order_92 hkc hks ?_
                  first | exact Or.inl ⟨b00 h_68, rfl, rfl⟩ | exact Or.inr (Or.inl ⟨hy, fun y9 => by omega, rfl, rfl⟩) | exact Or.inr (Or.inl ⟨hy, fun y9 => b00 h_15 (by omega), rfl, rfl⟩) | exact Or.inr (Or.inl ⟨hy, fun y9 => b00 h_27 (by omega), rfl, rfl⟩) | exact Or.inr (Or.inl ⟨hy, fun y9 => b00 h_40 (by omega), rfl, rfl⟩) | exact Or.inr (Or.inl ⟨hy, fun y9 => b00 h_53 (by omega), rfl, rfl⟩)
              · exfalso; omega
            · refine V_iconst (v := 1) dX7_order_71 rfl ?_
              refine V_goto (tgt := 85) dX7_order_72 rfl ?_
              refine V_callV (C := RX7) (q := 0) (ci := 6) (As := _) (rest := []) [0] (c_X7_refused l G B z 1 (by decide)) vy_X7_refused gX7_order_X7_refused rfl rfl rfl rfl rfl rfl rfl ⟨rfl, rfl⟩ ⟨rfl, rfl⟩ ⟨Nat.zero_le _, Nat.zero_le _⟩ rfl dX7_order_85 (fun v Y hE => ?_)
              obtain ⟨rfl, rfl⟩ := hE
              refine ⟨rfl, ?_⟩
              dsimp only [vfill, List.set_cons_zero, List.set_cons_succ, Option.toList, List.cons_append, List.nil_append, Nat.add_zero]
              refine V_top (b := 1) (by decide) ?_
              refine V_if_eq (tgt := 93) (by omega) dX7_order_88 rfl (fun h_88 => ?_) (fun h_88 => ?_)
              · exfalso; omega
              · refine V_iconst (v := 0) dX7_order_91 rfl ?_
                refine V_iret hR dX7_order_92 hkc hks ?_
                first | exact Or.inl ⟨b00 h_68, rfl, rfl⟩ | exact Or.inr (Or.inl ⟨hy, fun y9 => by omega, rfl, rfl⟩) | exact Or.inr (Or.inl ⟨hy, fun y9 => b00 h_15 (by omega), rfl, rfl⟩) | exact Or.inr (Or.inl ⟨hy, fun y9 => b00 h_27 (by omega), rfl, rfl⟩) | exact Or.inr (Or.inl ⟨hy, fun y9 => b00 h_40 (by omega), rfl, rfl⟩) | exact Or.inr (Or.inl ⟨hy, fun y9 => b00 h_53 (by omega), rfl, rfl⟩)
          · refine V_iconst (v := 1) dX7_order_56 rfl ?_
            refine V_goto (tgt := 61) dX7_order_57 rfl ?_
            refine V_istore (i := 6) dX7_order_61 rfl rfl ?_
            dsimp only [List.set_cons_zero, List.set_cons_succ]
            refine V_aload_n (i := 0) dX7_order_63 rfl rfl ?_
            refine V_iload_n (i := 1) dX7_order_64 rfl rfl ?_
            refine V_callS (As := _) (rest := _) [] (c_X7_isCell l G (p) hp) vy_X7_isCell gX7_order_X7_isCell rfl rfl rfl rfl ⟨rfl, rfl⟩ ⟨rfl, rfl⟩ ⟨Nat.zero_le _, Nat.zero_le _⟩ rfl dX7_order_65 (fun v Y hE => ?_)
            obtain ⟨rfl, rfl⟩ := hE
            refine ⟨rfl, ?_⟩
            dsimp only [vfill, List.set_cons_zero, List.set_cons_succ, Option.toList, List.cons_append, List.nil_append, Nat.add_zero]
            refine V_if_ne (tgt := 75) (by split <;> decide) dX7_order_68 rfl (fun h_68 => ?_) (fun h_68 => ?_)
            · have hy := b01 h_68
              refine V_iload (i := 6) dX7_order_75 rfl ?_
              refine V_if_eq (tgt := 84) (by omega) dX7_order_77 rfl (fun h_77 => ?_) (fun h_77 => ?_)
              · exfalso; omega
              · refine V_iconst (v := 0) dX7_order_80 rfl ?_
                refine V_goto (tgt := 85) dX7_order_81 rfl ?_
                refine V_callV (C := RX7) (q := 0) (ci := 6) (As := _) (rest := []) [0] (c_X7_refused l G B z 0 (by decide)) vy_X7_refused gX7_order_X7_refused rfl rfl rfl rfl rfl rfl rfl ⟨rfl, rfl⟩ ⟨rfl, rfl⟩ ⟨Nat.zero_le _, Nat.zero_le _⟩ rfl dX7_order_85 (fun v Y hE => ?_)
                obtain ⟨rfl, rfl⟩ := hE
                refine ⟨rfl, ?_⟩
                dsimp only [vfill, List.set_cons_zero, List.set_cons_succ, Option.toList, List.cons_append, List.nil_append, Nat.add_zero]
                refine V_top (b := 0) (by decide) ?_
                refine V_if_eq (tgt := 93) (by omega) dX7_order_88 rfl (fun h_88 => ?_) (fun h_88 => ?_)
                · refine V_aload_n (i := 0) dX7_order_93 rfl rfl ?_
                  refine V_callV (C := RX7) (q := 0) (ci := 6) (As := []) (rest := []) [0, 1, 2] (c_X7_remember l G B (va_up z 0 0) g d h3) vy_X7_remember gX7_order_X7_remember rfl rfl rfl rfl rfl rfl rfl ⟨rfl, rfl⟩ ⟨rfl, rfl⟩ ⟨Nat.zero_le _, Nat.zero_le _⟩ rfl dX7_order_94 (fun v Y hE => ?_)
                  obtain ⟨rfl, rfl⟩ := hE
                  refine ⟨rfl, ?_⟩
                  dsimp only [vfill, List.set_cons_zero, List.set_cons_succ, Option.toList, List.cons_append, List.nil_append, Nat.add_zero]
                  refine V_aload_n (i := 0) dX7_order_97 rfl rfl ?_
                  refine V_get (C := RX7) (T := TX7) (N := 17) (ci := 6) (q := 0) (ref := "OrderChainsModel") 5 rfl il_X7_order_X7 rfl rfl fl_X7_order_16 rfl rfl dX7_order_98 ?_
                  refine V_iload_n (i := 1) dX7_order_101 rfl rfl ?_
                  refine V_iald (q := 1) rfl (by omega) rfl dX7_order_102 ?_
                  refine V_istore (i := 7) dX7_order_103 rfl rfl ?_
                  dsimp only [List.set_cons_zero, List.set_cons_succ]
                  refine V_aload_n (i := 0) dX7_order_105 rfl rfl ?_
                  refine V_get (C := RX7) (T := TX7) (N := 17) (ci := 6) (q := 0) (ref := "OrderChainsModel") 5 rfl il_X7_order_X7 rfl rfl fl_X7_order_16 rfl rfl dX7_order_106 ?_
                  refine V_iload_n (i := 1) dX7_order_109 rfl rfl ?_
                  refine V_iload_n (i := 2) dX7_order_110 rfl rfl ?_
                  refine V_iast (q := 1) rfl (by omega) rfl dX7_order_111 ?_
                  dsimp only [List.set_cons_zero, List.set_cons_succ]
                  refine V_aload_n (i := 0) dX7_order_112 rfl rfl ?_
                  refine V_get (C := RX7) (T := TX7) (N := 17) (ci := 6) (q := 0) (ref := "OrderChainsModel") 5 rfl il_X7_order_X7 rfl rfl fl_X7_order_16 rfl rfl dX7_order_113 ?_
                  refine V_iload_n (i := 1) dX7_order_116 rfl rfl ?_
                  refine V_iconst (v := 1) dX7_order_117 rfl ?_
                  refine V_iadd dX7_order_118 ?_
                  refine V_iload_n (i := 3) dX7_order_119 rfl rfl ?_
                  refine V_iast (q := 1) rfl (by omega) rfl dX7_order_120 ?_
                  dsimp only [List.set_cons_zero, List.set_cons_succ]
                  refine V_aload_n (i := 0) dX7_order_121 rfl rfl ?_
                  refine V_get (C := RX7) (T := TX7) (N := 17) (ci := 6) (q := 0) (ref := "OrderChainsModel") 5 rfl il_X7_order_X7 rfl rfl fl_X7_order_16 rfl rfl dX7_order_122 ?_
                  refine V_iload_n (i := 1) dX7_order_125 rfl rfl ?_
                  refine V_iconst (v := 2) dX7_order_126 rfl ?_
                  refine V_iadd dX7_order_127 ?_
                  refine V_iload (i := 4) dX7_order_128 rfl ?_
                  refine V_iast (q := 1) rfl (by omega) rfl dX7_order_130 ?_
                  dsimp only [List.set_cons_zero, List.set_cons_succ]
                  refine V_aload_n (i := 0) dX7_order_131 rfl rfl ?_
                  refine V_get (C := RX7) (T := TX7) (N := 17) (ci := 6) (q := 0) (ref := "OrderChainsModel") 5 rfl il_X7_order_X7 rfl rfl fl_X7_order_16 rfl rfl dX7_order_132 ?_
                  refine V_iload_n (i := 1) dX7_order_135 rfl rfl ?_
                  refine V_iconst (v := 3) dX7_order_136 rfl ?_
                  refine V_iadd dX7_order_137 ?_
                  refine V_iload (i := 5) dX7_order_138 rfl ?_
                  refine V_iast (q := 1) rfl (by omega) rfl dX7_order_140 ?_
                  dsimp only [List.set_cons_zero, List.set_cons_succ]
                  refine V_aload_n (i := 0) dX7_order_141 rfl rfl ?_
                  refine V_get (C := RX7) (T := TX7) (N := 17) (ci := 6) (q := 0) (ref := "OrderChainsModel") 5 rfl il_X7_order_X7 rfl rfl fl_X7_order_16 rfl rfl dX7_order_142 ?_
                  refine V_iload_n (i := 1) dX7_order_145 rfl rfl ?_
                  refine V_iconst (v := 4) dX7_order_146 rfl ?_
                  refine V_iadd dX7_order_147 ?_
                  refine V_iconst (v := 1) dX7_order_148 rfl ?_
                  refine V_iast (q := 1) rfl (by omega) rfl dX7_order_149 ?_
                  dsimp only [List.set_cons_zero, List.set_cons_succ]
                  refine V_aload_n (i := 0) dX7_order_150 rfl rfl ?_
                  refine V_get (C := RX7) (T := TX7) (N := 17) (ci := 6) (q := 0) (ref := "OrderChainsModel") 5 rfl il_X7_order_X7 rfl rfl fl_X7_order_16 rfl rfl dX7_order_151 ?_
                  refine V_iload_n (i := 1) dX7_order_154 rfl rfl ?_
                  refine V_iconst (v := 5) dX7_order_155 rfl ?_
                  refine V_iadd dX7_order_156 ?_
                  refine V_iload_n (i := 1) dX7_order_157 rfl rfl ?_
                  refine V_bipush (v := 6) dX7_order_158 (by decide) ?_
                  refine V_iadd dX7_order_160 ?_
                  refine V_iast (q := 1) rfl (by omega) rfl dX7_order_161 ?_
                  dsimp only [List.set_cons_zero, List.set_cons_succ]
                  refine V_iload (i := 7) dX7_order_162 rfl ?_
                  refine V_iret hR dX7_order_164 hkc hks ?_
                  have y1 := b01 h_15
                  have y2 := b01 h_27
                  have y3 := b01 h_40
                  have y4 := b01 h_53
                  exact Or.inr (Or.inr ⟨hy, by omega, rfl, rfl⟩)
                · exfalso; omega
            · refine V_iconst (v := 1) dX7_order_71 rfl ?_
              refine V_goto (tgt := 85) dX7_order_72 rfl ?_
              refine V_callV (C := RX7) (q := 0) (ci := 6) (As := _) (rest := []) [0] (c_X7_refused l G B z 1 (by decide)) vy_X7_refused gX7_order_X7_refused rfl rfl rfl rfl rfl rfl rfl ⟨rfl, rfl⟩ ⟨rfl, rfl⟩ ⟨Nat.zero_le _, Nat.zero_le _⟩ rfl dX7_order_85 (fun v Y hE => ?_)
              obtain ⟨rfl, rfl⟩ := hE
              refine ⟨rfl, ?_⟩
              dsimp only [vfill, List.set_cons_zero, List.set_cons_succ, Option.toList, List.cons_append, List.nil_append, Nat.add_zero]
              refine V_top (b := 1) (by decide) ?_
              refine V_if_eq (tgt := 93) (by omega) dX7_order_88 rfl (fun h_88 => ?_) (fun h_88 => ?_)
              · exfalso; omega
              · refine V_iconst (v := 0) dX7_order_91 rfl ?_
                refine V_iret hR dX7_order_92 hkc hks ?_
                first | exact Or.inl ⟨b00 h_68, rfl, rfl⟩ | exact Or.inr (Or.inl ⟨hy, fun y9 => by omega, rfl, rfl⟩) | exact Or.inr (Or.inl ⟨hy, fun y9 => b00 h_15 (by omega), rfl, rfl⟩) | exact Or.inr (Or.inl ⟨hy, fun y9 => b00 h_27 (by omega), rfl, rfl⟩) | exact Or.inr (Or.inl ⟨hy, fun y9 => b00 h_40 (by omega), rfl, rfl⟩) | exact Or.inr (Or.inl ⟨hy, fun y9 => b00 h_53 (by omega), rfl, rfl⟩)

abbrev rX7_own : Room := { frames := 2, cells := 0, slots := 0, locals := 45 }
theorem vy_X7_own : vY yX7_own wsX7_own cX7_own 4 (some .int) 3 := ⟨⟨_, rfl⟩, by decide +kernel, by decide +kernel, by decide +kernel⟩
theorem kc_X7_own_163 : Cond.constantLong RX7 163 (96) ∈ wsX7_own := List.mem_of_getElem? (i := 1) rfl
theorem kc_X7_own_151 : Cond.constantLong RX7 151 (3) ∈ wsX7_own := List.mem_of_getElem? (i := 2) rfl
theorem fl_X7_own_16 : Cond.fieldLink RX7 16 "OrderChainsModel" "now" "[I" ∈ wsX7_own := List.mem_of_getElem? (i := 3) rfl
theorem il_X7_own_X7 : ∀ w ∈ wsX70, w ∈ wsX7_own := fun _ h => List.mem_cons_of_mem _ (List.mem_append_right _ h)
set_option maxHeartbeats 4000000 in
set_option maxRecDepth 100000 in
/-- own -/
theorem c_X7_own (l : Launch) (G : vG) (B z g d : Nat → Nat) (p w u : Nat) (h3 : z 3 ≤ 14) (hp : p < 4294967296) (hw : w < 4294967296) (hu : u < 4294967296) (ho : ∀ k, k < 96 → g (96 + k) < 4) : Kc l G yX7_own wsX7_own rX7_own [.ref (B 0), .int (nI p), .int (nI w), .int (nI u)] [mO B z, iA G (B 3) 427 g, iA G (B 5) 5978 d] (fun v Y => (¬ p < 96 ∧ v = some (.int (nI 0)) ∧ Y = [mO B (va_up z 0 1), iA G (B 3) 427 g, iA G (B 5) 5978 d]) ∨ (p < 96 ∧ ¬ (1 ≤ w ∧ w < 97 ∧ u < 4) ∧ v = some (.int (nI 0)) ∧ Y = [mO B (va_up z 0 2), iA G (B 3) 427 g, iA G (B 5) 5978 d]) ∨ (p < 96 ∧ (1 ≤ w ∧ w < 97 ∧ u < 4) ∧ v = some (.int (nI (rOwN p (sm p w) u g))) ∧ Y = [mO B (va_up (va_up z 0 0) 3 (rmA (z 3))), iA G (B 3) 427 (rOwF p (sm p w) u g), iA G (B 5) 5978 (rmD (z 3) g d)])) 0 0 := by
  refine V_enter (own := RX7) [some (.ref (B 0)), some (.int (nI p)), some (.int (nI w)), some (.int (nI u))] (by decide +kernel) rfl rfl (Nat.le_of_ble_eq_true rfl) rfl (fun Γ hR hin => ?_)
  have hkc : 0 ≤ 0 := Nat.le_refl 0
  have hks : 0 ≤ 0 := Nat.le_refl 0
  refine V_aload_n (i := 0) dX7_own_0 rfl rfl ?_
  refine V_iload_n (i := 1) dX7_own_1 rfl rfl ?_
  refine V_callS (As := _) (rest := _) [] (c_X7_isCell l G (p) hp) vy_X7_isCell gX7_own_X7_isCell rfl rfl rfl rfl ⟨rfl, rfl⟩ ⟨rfl, rfl⟩ ⟨Nat.zero_le _, Nat.zero_le _⟩ rfl dX7_own_2 (fun v Y hE => ?_)
  obtain ⟨rfl, rfl⟩ := hE
  refine ⟨rfl, ?_⟩
  dsimp only [vfill, List.set_cons_zero, List.set_cons_succ, Option.toList, List.cons_append, List.nil_append, Nat.add_zero]
  refine V_if_ne (tgt := 12) (by split <;> decide) dX7_own_5 rfl (fun h_5 => ?_) (fun h_5 => ?_)
  · have hy := b01 h_5
    refine V_iload_n (i := 2) dX7_own_12 rfl rfl ?_
    refine V_i2l dX7_own_13 ?_
    refine V_lconst dX7_own_14 rfl ?_
    refine V_ldc2 (v := 96) dX7_own_15 kc_X7_own_163 ?_
    refine V_callS (As := _) (rest := _) [] (c_X7_inN l G (w) 1 96 _ _ (by decide) (by decide) hw (by decide)) vy_X7_in gX7_own_X7_in rfl rfl rfl rfl ⟨rfl, rfl⟩ ⟨rfl, rfl⟩ ⟨Nat.zero_le _, Nat.zero_le _⟩ rfl dX7_own_18 (fun v Y hE => ?_)
    obtain ⟨rfl, rfl⟩ := hE
    refine ⟨rfl, ?_⟩
    dsimp only [vfill, List.set_cons_zero, List.set_cons_succ, Option.toList, List.cons_append, List.nil_append, Nat.add_zero]
    refine V_if_eq (tgt := 40) (by split <;> decide) dX7_own_21 rfl (fun h_21 => ?_) (fun h_21 => ?_)
    · refine V_iconst (v := 2) dX7_own_40 rfl ?_
      refine V_callV (C := RX7) (q := 0) (ci := 6) (As := _) (rest := []) [0] (c_X7_refused l G B z 2 (by decide)) vy_X7_refused gX7_own_X7_refused rfl rfl rfl rfl rfl rfl rfl ⟨rfl, rfl⟩ ⟨rfl, rfl⟩ ⟨Nat.zero_le _, Nat.zero_le _⟩ rfl dX7_own_41 (fun v Y hE => ?_)
      obtain ⟨rfl, rfl⟩ := hE
      refine ⟨rfl, ?_⟩
      dsimp only [vfill, List.set_cons_zero, List.set_cons_succ, Option.toList, List.cons_append, List.nil_append, Nat.add_zero]
      refine V_top (b := 1) (by decide) ?_
      refine V_if_eq (tgt := 49) (by omega) dX7_own_44 rfl (fun h_44 => ?_) (fun h_44 => ?_)
      · exfalso; omega
      · refine V_iconst (v := 0) dX7_own_47 rfl ?_
        refine V_iret hR dX7_own_48 hkc hks ?_
        first | exact Or.inl ⟨b00 h_5, rfl, rfl⟩ | exact Or.inr (Or.inl ⟨hy, fun y9 => b00 h_21 (by omega), rfl, rfl⟩) | exact Or.inr (Or.inl ⟨hy, fun y9 => b00 h_33 (by omega), rfl, rfl⟩)
    · refine V_iload_n (i := 3) dX7_own_24 rfl rfl ?_
      refine V_i2l dX7_own_25 ?_
      refine V_lconst dX7_own_26 rfl ?_
      refine V_ldc2 (v := 3) dX7_own_27 kc_X7_own_151 ?_
      refine V_callS (As := _) (rest := _) [] (c_X7_inN l G (u) 0 3 _ _ (by decide) (by decide) hu (by decide)) vy_X7_in gX7_own_X7_in rfl rfl rfl rfl ⟨rfl, rfl⟩ ⟨rfl, rfl⟩ ⟨Nat.zero_le _, Nat.zero_le _⟩ rfl dX7_own_30 (fun v Y hE => ?_)
      obtain ⟨rfl, rfl⟩ := hE
      refine ⟨rfl, ?_⟩
      dsimp only [vfill, List.set_cons_zero, List.set_cons_succ, Option.toList, List.cons_append, List.nil_append, Nat.add_zero]
      refine V_if_eq (tgt := 40) (by split <;> decide) dX7_own_33 rfl (fun h_33 => ?_) (fun h_33 => ?_)
      · refine V_iconst (v := 2) dX7_own_40 rfl ?_
        refine V_callV (C := RX7) (q := 0) (ci := 6) (As := _) (rest := []) [0] (c_X7_refused l G B z 2 (by decide)) vy_X7_refused gX7_own_X7_refused rfl rfl rfl rfl rfl rfl rfl ⟨rfl, rfl⟩ ⟨rfl, rfl⟩ ⟨Nat.zero_le _, Nat.zero_le _⟩ rfl dX7_own_41 (fun v Y hE => ?_)
        obtain ⟨rfl, rfl⟩ := hE
        refine ⟨rfl, ?_⟩
        dsimp only [vfill, List.set_cons_zero, List.set_cons_succ, Option.toList, List.cons_append, List.nil_append, Nat.add_zero]
        refine V_top (b := 1) (by decide) ?_
        refine V_if_eq (tgt := 49) (by omega) dX7_own_44 rfl (fun h_44 => ?_) (fun h_44 => ?_)
        · exfalso; omega
        · refine V_iconst (v := 0) dX7_own_47 rfl ?_
          refine V_iret hR dX7_own_48 hkc hks ?_
          first | exact Or.inl ⟨b00 h_5, rfl, rfl⟩ | exact Or.inr (Or.inl ⟨hy, fun y9 => b00 h_21 (by omega), rfl, rfl⟩) | exact Or.inr (Or.inl ⟨hy, fun y9 => b00 h_33 (by omega), rfl, rfl⟩)
      · have hx := b01 h_21
        have hx2 := b01 h_33
        refine V_iconst (v := 0) dX7_own_36 rfl ?_
        refine V_goto (tgt := 41) dX7_own_37 rfl ?_
        refine V_callV (C := RX7) (q := 0) (ci := 6) (As := _) (rest := []) [0] (c_X7_refused l G B z 0 (by decide)) vy_X7_refused gX7_own_X7_refused rfl rfl rfl rfl rfl rfl rfl ⟨rfl, rfl⟩ ⟨rfl, rfl⟩ ⟨Nat.zero_le _, Nat.zero_le _⟩ rfl dX7_own_41 (fun v Y hE => ?_)
        obtain ⟨rfl, rfl⟩ := hE
        refine ⟨rfl, ?_⟩
        dsimp only [vfill, List.set_cons_zero, List.set_cons_succ, Option.toList, List.cons_append, List.nil_append, Nat.add_zero]
        refine V_top (b := 0) (by decide) ?_
        refine V_if_eq (tgt := 49) (by omega) dX7_own_44 rfl (fun h_44 => ?_) (fun h_44 => ?_)
        · refine V_aload_n (i := 0) dX7_own_49 rfl rfl ?_
          refine V_callV (C := RX7) (q := 0) (ci := 6) (As := []) (rest := []) [0, 1, 2] (c_X7_remember l G B (va_up z 0 0) g d h3) vy_X7_remember gX7_own_X7_remember rfl rfl rfl rfl rfl rfl rfl ⟨rfl, rfl⟩ ⟨rfl, rfl⟩ ⟨Nat.zero_le _, Nat.zero_le _⟩ rfl dX7_own_50 (fun v Y hE => ?_)
          obtain ⟨rfl, rfl⟩ := hE
          refine ⟨rfl, ?_⟩
          dsimp only [vfill, List.set_cons_zero, List.set_cons_succ, Option.toList, List.cons_append, List.nil_append, Nat.add_zero]
          refine V_aload_n (i := 0) dX7_own_53 rfl rfl ?_
          refine V_get (C := RX7) (T := TX7) (N := 17) (ci := 6) (q := 0) (ref := "OrderChainsModel") 5 rfl il_X7_own_X7 rfl rfl fl_X7_own_16 rfl rfl dX7_own_54 ?_
          refine V_iload_n (i := 1) dX7_own_57 rfl rfl ?_
          refine V_iload_n (i := 2) dX7_own_58 rfl rfl ?_
          refine V_iload_n (i := 3) dX7_own_59 rfl rfl ?_
          refine V_callS (As := _) (rest := []) [1] (c_X7_ownOn l G (B 3) g p w u hy (by omega) (by omega) ho) vy_X7_ownOn gX7_own_X7_ownOn rfl rfl rfl rfl ⟨rfl, rfl⟩ ⟨rfl, rfl⟩ ⟨Nat.zero_le _, Nat.zero_le _⟩ rfl dX7_own_60 (fun v Y hE => ?_)
          obtain ⟨rfl, rfl⟩ := hE
          refine ⟨rfl, ?_⟩
          dsimp only [vfill, List.set_cons_zero, List.set_cons_succ, Option.toList, List.cons_append, List.nil_append, Nat.add_zero]
          refine V_iret hR dX7_own_63 hkc hks ?_
          exact Or.inr (Or.inr ⟨hy, by omega, rfl, rfl⟩)
        · exfalso; omega
  · refine V_iconst (v := 1) dX7_own_8 rfl ?_
    refine V_goto (tgt := 41) dX7_own_9 rfl ?_
    refine V_callV (C := RX7) (q := 0) (ci := 6) (As := _) (rest := []) [0] (c_X7_refused l G B z 1 (by decide)) vy_X7_refused gX7_own_X7_refused rfl rfl rfl rfl rfl rfl rfl ⟨rfl, rfl⟩ ⟨rfl, rfl⟩ ⟨Nat.zero_le _, Nat.zero_le _⟩ rfl dX7_own_41 (fun v Y hE => ?_)
    obtain ⟨rfl, rfl⟩ := hE
    refine ⟨rfl, ?_⟩
    dsimp only [vfill, List.set_cons_zero, List.set_cons_succ, Option.toList, List.cons_append, List.nil_append, Nat.add_zero]
    refine V_top (b := 1) (by decide) ?_
    refine V_if_eq (tgt := 49) (by omega) dX7_own_44 rfl (fun h_44 => ?_) (fun h_44 => ?_)
    · exfalso; omega
    · refine V_iconst (v := 0) dX7_own_47 rfl ?_
      refine V_iret hR dX7_own_48 hkc hks ?_
      first | exact Or.inl ⟨b00 h_5, rfl, rfl⟩ | exact Or.inr (Or.inl ⟨hy, fun y9 => b00 h_21 (by omega), rfl, rfl⟩) | exact Or.inr (Or.inl ⟨hy, fun y9 => b00 h_33 (by omega), rfl, rfl⟩)

abbrev rX7_start : Room := { frames := 2, cells := 0, slots := 0, locals := 45 }
theorem vy_X7_start : vY yX7_start wsX7_start cX7_start 4 (some .int) 2 := ⟨⟨_, rfl⟩, by decide +kernel, by decide +kernel, by decide +kernel⟩
theorem fl_X7_start_16 : Cond.fieldLink RX7 16 "OrderChainsModel" "now" "[I" ∈ wsX7_start := List.mem_of_getElem? (i := 1) rfl
theorem il_X7_start_X7 : ∀ w ∈ wsX70, w ∈ wsX7_start := fun _ h => List.mem_cons_of_mem _ (List.mem_append_right _ h)
set_option maxHeartbeats 4000000 in
set_option maxRecDepth 100000 in
/-- start -/
theorem c_X7_start (l : Launch) (G : vG) (B z g d : Nat → Nat) (h p : Nat) (h3 : z 3 ≤ 14) (hh : h < 4294967296) (hp : p < 4294967296) : Kc l G yX7_start wsX7_start rX7_start [.ref (B 0), .int (nI h), .int (nI p)] [mO B z, iA G (B 3) 427 g, iA G (B 5) 5978 d] (fun v Y => (¬ (h < 3 ∧ p < 96) ∧ v = some (.int (nI 0)) ∧ Y = [mO B (va_up z 0 1), iA G (B 3) 427 g, iA G (B 5) 5978 d]) ∨ ((h < 3 ∧ p < 96) ∧ v = some (.int (nI (g (384 + 13 * h)))) ∧ Y = [mO B (va_up (va_up z 0 0) 3 (rmA (z 3))), iA G (B 3) 427 (rBegin h p 1 g), iA G (B 5) 5978 (rmD (z 3) g d)])) 0 0 := by
  refine V_enter (own := RX7) [some (.ref (B 0)), some (.int (nI h)), some (.int (nI p)), none] (by decide +kernel) rfl rfl (Nat.le_of_ble_eq_true rfl) rfl (fun Γ hR hin => ?_)
  have hkc : 0 ≤ 0 := Nat.le_refl 0
  have hks : 0 ≤ 0 := Nat.le_refl 0
  refine V_aload_n (i := 0) dX7_start_0 rfl rfl ?_
  refine V_iload_n (i := 1) dX7_start_1 rfl rfl ?_
  refine V_callS (As := _) (rest := _) [] (c_X7_isChannel l G (h) hh) vy_X7_isChannel gX7_start_X7_isChannel rfl rfl rfl rfl ⟨rfl, rfl⟩ ⟨rfl, rfl⟩ ⟨Nat.zero_le _, Nat.zero_le _⟩ rfl dX7_start_2 (fun v Y hE => ?_)
  obtain ⟨rfl, rfl⟩ := hE
  refine ⟨rfl, ?_⟩
  dsimp only [vfill, List.set_cons_zero, List.set_cons_succ, Option.toList, List.cons_append, List.nil_append, Nat.add_zero]
  refine V_if_eq (tgt := 19) (by split <;> decide) dX7_start_5 rfl (fun h_5 => ?_) (fun h_5 => ?_)
  · refine V_iconst (v := 1) dX7_start_19 rfl ?_
    refine V_callV (C := RX7) (q := 0) (ci := 6) (As := _) (rest := []) [0] (c_X7_refused l G B z 1 (by decide)) vy_X7_refused gX7_start_X7_refused rfl rfl rfl rfl rfl rfl rfl ⟨rfl, rfl⟩ ⟨rfl, rfl⟩ ⟨Nat.zero_le _, Nat.zero_le _⟩ rfl dX7_start_20 (fun v Y hE => ?_)
    obtain ⟨rfl, rfl⟩ := hE
    refine ⟨rfl, ?_⟩
    dsimp only [vfill, List.set_cons_zero, List.set_cons_succ, Option.toList, List.cons_append, List.nil_append, Nat.add_zero]
    refine V_top (b := 1) (by decide) ?_
    refine V_if_eq (tgt := 28) (by omega) dX7_start_23 rfl (fun h_23 => ?_) (fun h_23 => ?_)
    · exfalso; omega
    · refine V_iconst (v := 0) dX7_start_26 rfl ?_
      refine V_iret hR dX7_start_27 hkc hks ?_
      refine Or.inl ⟨fun y9 => ?_, rfl, rfl⟩
      first | exact b00 h_5 y9.1 | exact b00 h_12 y9.2
  · refine V_iload_n (i := 2) dX7_start_8 rfl rfl ?_
    refine V_callS (As := _) (rest := _) [] (c_X7_isCell l G (p) hp) vy_X7_isCell gX7_start_X7_isCell rfl rfl rfl rfl ⟨rfl, rfl⟩ ⟨rfl, rfl⟩ ⟨Nat.zero_le _, Nat.zero_le _⟩ rfl dX7_start_9 (fun v Y hE => ?_)
    obtain ⟨rfl, rfl⟩ := hE
    refine ⟨rfl, ?_⟩
    dsimp only [vfill, List.set_cons_zero, List.set_cons_succ, Option.toList, List.cons_append, List.nil_append, Nat.add_zero]
    refine V_if_eq (tgt := 19) (by split <;> decide) dX7_start_12 rfl (fun h_12 => ?_) (fun h_12 => ?_)
    · refine V_iconst (v := 1) dX7_start_19 rfl ?_
      refine V_callV (C := RX7) (q := 0) (ci := 6) (As := _) (rest := []) [0] (c_X7_refused l G B z 1 (by decide)) vy_X7_refused gX7_start_X7_refused rfl rfl rfl rfl rfl rfl rfl ⟨rfl, rfl⟩ ⟨rfl, rfl⟩ ⟨Nat.zero_le _, Nat.zero_le _⟩ rfl dX7_start_20 (fun v Y hE => ?_)
      obtain ⟨rfl, rfl⟩ := hE
      refine ⟨rfl, ?_⟩
      dsimp only [vfill, List.set_cons_zero, List.set_cons_succ, Option.toList, List.cons_append, List.nil_append, Nat.add_zero]
      refine V_top (b := 1) (by decide) ?_
      refine V_if_eq (tgt := 28) (by omega) dX7_start_23 rfl (fun h_23 => ?_) (fun h_23 => ?_)
      · exfalso; omega
      · refine V_iconst (v := 0) dX7_start_26 rfl ?_
        refine V_iret hR dX7_start_27 hkc hks ?_
        refine Or.inl ⟨fun y9 => ?_, rfl, rfl⟩
        first | exact b00 h_5 y9.1 | exact b00 h_12 y9.2
    · have hy := b01 h_5
      have hx := b01 h_12
      refine V_iconst (v := 0) dX7_start_15 rfl ?_
      refine V_goto (tgt := 20) dX7_start_16 rfl ?_
      refine V_callV (C := RX7) (q := 0) (ci := 6) (As := _) (rest := []) [0] (c_X7_refused l G B z 0 (by decide)) vy_X7_refused gX7_start_X7_refused rfl rfl rfl rfl rfl rfl rfl ⟨rfl, rfl⟩ ⟨rfl, rfl⟩ ⟨Nat.zero_le _, Nat.zero_le _⟩ rfl dX7_start_20 (fun v Y hE => ?_)
      obtain ⟨rfl, rfl⟩ := hE
      refine ⟨rfl, ?_⟩
      dsimp only [vfill, List.set_cons_zero, List.set_cons_succ, Option.toList, List.cons_append, List.nil_append, Nat.add_zero]
      refine V_top (b := 0) (by decide) ?_
      refine V_if_eq (tgt := 28) (by omega) dX7_start_23 rfl (fun h_23 => ?_) (fun h_23 => ?_)
      · refine V_aload_n (i := 0) dX7_start_28 rfl rfl ?_
        refine V_callV (C := RX7) (q := 0) (ci := 6) (As := []) (rest := []) [0, 1, 2] (c_X7_remember l G B (va_up z 0 0) g d h3) vy_X7_remember gX7_start_X7_remember rfl rfl rfl rfl rfl rfl rfl ⟨rfl, rfl⟩ ⟨rfl, rfl⟩ ⟨Nat.zero_le _, Nat.zero_le _⟩ rfl dX7_start_29 (fun v Y hE => ?_)
        obtain ⟨rfl, rfl⟩ := hE
        refine ⟨rfl, ?_⟩
        dsimp only [vfill, List.set_cons_zero, List.set_cons_succ, Option.toList, List.cons_append, List.nil_append, Nat.add_zero]
        refine V_aload_n (i := 0) dX7_start_32 rfl rfl ?_
        refine V_get (C := RX7) (T := TX7) (N := 17) (ci := 6) (q := 0) (ref := "OrderChainsModel") 5 rfl il_X7_start_X7 rfl rfl fl_X7_start_16 rfl rfl dX7_start_33 ?_
        refine V_iload_n (i := 1) dX7_start_36 rfl rfl ?_
        refine V_callS (As := _) (rest := _) [] (c_X7_at l G (h)) vy_X7_at gX7_start_X7_at rfl rfl rfl rfl ⟨rfl, rfl⟩ ⟨rfl, rfl⟩ ⟨Nat.zero_le _, Nat.zero_le _⟩ rfl dX7_start_37 (fun v Y hE => ?_)
        obtain ⟨rfl, rfl⟩ := hE
        refine ⟨rfl, ?_⟩
        dsimp only [vfill, List.set_cons_zero, List.set_cons_succ, Option.toList, List.cons_append, List.nil_append, Nat.add_zero]
        refine V_iald (q := 1) rfl (by omega) rfl dX7_start_40 ?_
        refine V_istore_n (i := 3) dX7_start_41 rfl rfl rfl ?_
        dsimp only [List.set_cons_zero, List.set_cons_succ]
        refine V_aload_n (i := 0) dX7_start_42 rfl rfl ?_
        refine V_get (C := RX7) (T := TX7) (N := 17) (ci := 6) (q := 0) (ref := "OrderChainsModel") 5 rfl il_X7_start_X7 rfl rfl fl_X7_start_16 rfl rfl dX7_start_43 ?_
        refine V_iload_n (i := 1) dX7_start_46 rfl rfl ?_
        refine V_iload_n (i := 2) dX7_start_47 rfl rfl ?_
        refine V_iconst (v := 1) dX7_start_48 rfl ?_
        refine V_callS (As := _) (rest := []) [1] (c_X7_begin l G (B 3) g h p 1 hy) vy_X7_begin gX7_start_X7_begin rfl rfl rfl rfl ⟨rfl, rfl⟩ ⟨rfl, rfl⟩ ⟨Nat.zero_le _, Nat.zero_le _⟩ rfl dX7_start_49 (fun v Y hE => ?_)
        obtain ⟨rfl, rfl⟩ := hE
        refine ⟨rfl, ?_⟩
        dsimp only [vfill, List.set_cons_zero, List.set_cons_succ, Option.toList, List.cons_append, List.nil_append, Nat.add_zero]
        refine V_iload_n (i := 3) dX7_start_52 rfl rfl ?_
        refine V_iret hR dX7_start_53 hkc hks ?_
        exact Or.inr ⟨⟨hy, hx⟩, rfl, rfl⟩
      · exfalso; omega

abbrev rX7_stop : Room := { frames := 3, cells := 0, slots := 0, locals := 66 }
theorem vy_X7_stop : vY yX7_stop wsX7_stop cX7_stop 2 (some .int) 1 := ⟨⟨_, rfl⟩, by decide +kernel, by decide +kernel, by decide +kernel⟩
theorem fl_X7_stop_16 : Cond.fieldLink RX7 16 "OrderChainsModel" "now" "[I" ∈ wsX7_stop := List.mem_of_getElem? (i := 1) rfl
theorem il_X7_stop_X7 : ∀ w ∈ wsX70, w ∈ wsX7_stop := fun _ h => List.mem_cons_of_mem _ (List.mem_append_right _ h)
set_option maxHeartbeats 4000000 in
set_option maxRecDepth 100000 in
/-- stop -/
theorem c_X7_stop (l : Launch) (G : vG) (B z g d : Nat → Nat) (h : Nat) (h3 : z 3 ≤ 14) (hh : h < 4294967296) (hc : ∀ h, h < 3 → cB h g) : Kc l G yX7_stop wsX7_stop rX7_stop [.ref (B 0), .int (nI h)] [mO B z, iA G (B 3) 427 g, iA G (B 5) 5978 d] (fun v Y => (¬ h < 3 ∧ v = some (.int (nI 0)) ∧ Y = [mO B (va_up z 0 1), iA G (B 3) 427 g, iA G (B 5) 5978 d]) ∨ (h < 3 ∧ ¬ g (384 + 13 * h) = 1 ∧ v = some (.int (nI 0)) ∧ Y = [mO B (va_up z 0 2), iA G (B 3) 427 g, iA G (B 5) 5978 d]) ∨ (h < 3 ∧ g (384 + 13 * h) = 1 ∧ v = some (.int (nI (rSo h g))) ∧ Y = [mO B (va_up (va_up z 0 0) 3 (rmA (z 3))), iA G (B 3) 427 (rBegin h (g (384 + 13 * h + 1)) 0 g), iA G (B 5) 5978 (rmD (z 3) g d)])) 0 0 := by
  refine V_enter (own := RX7) [some (.ref (B 0)), some (.int (nI h))] (by decide +kernel) rfl rfl (Nat.le_of_ble_eq_true rfl) rfl (fun Γ hR hin => ?_)
  have hkc : 0 ≤ 0 := Nat.le_refl 0
  have hks : 0 ≤ 0 := Nat.le_refl 0
  refine V_aload_n (i := 0) dX7_stop_0 rfl rfl ?_
  refine V_iload_n (i := 1) dX7_stop_1 rfl rfl ?_
  refine V_callS (As := _) (rest := _) [] (c_X7_isChannel l G (h) hh) vy_X7_isChannel gX7_stop_X7_isChannel rfl rfl rfl rfl ⟨rfl, rfl⟩ ⟨rfl, rfl⟩ ⟨Nat.zero_le _, Nat.zero_le _⟩ rfl dX7_stop_2 (fun v Y hE => ?_)
  obtain ⟨rfl, rfl⟩ := hE
  refine ⟨rfl, ?_⟩
  dsimp only [vfill, List.set_cons_zero, List.set_cons_succ, Option.toList, List.cons_append, List.nil_append, Nat.add_zero]
  refine V_if_ne (tgt := 12) (by split <;> decide) dX7_stop_5 rfl (fun h_5 => ?_) (fun h_5 => ?_)
  · have hy := b01 h_5
    refine V_aload_n (i := 0) dX7_stop_12 rfl rfl ?_
    refine V_get (C := RX7) (T := TX7) (N := 17) (ci := 6) (q := 0) (ref := "OrderChainsModel") 5 rfl il_X7_stop_X7 rfl rfl fl_X7_stop_16 rfl rfl dX7_stop_13 ?_
    refine V_iload_n (i := 1) dX7_stop_16 rfl rfl ?_
    refine V_callS (As := _) (rest := _) [] (c_X7_at l G (h)) vy_X7_at gX7_stop_X7_at rfl rfl rfl rfl ⟨rfl, rfl⟩ ⟨rfl, rfl⟩ ⟨Nat.zero_le _, Nat.zero_le _⟩ rfl dX7_stop_17 (fun v Y hE => ?_)
    obtain ⟨rfl, rfl⟩ := hE
    refine ⟨rfl, ?_⟩
    dsimp only [vfill, List.set_cons_zero, List.set_cons_succ, Option.toList, List.cons_append, List.nil_append, Nat.add_zero]
    refine V_iald (q := 1) rfl (by omega) rfl dX7_stop_20 ?_
    refine V_iconst (v := 1) dX7_stop_21 rfl ?_
    refine V_icmp_ne (tgt := 29) (by have := (hc h hy).1; omega) (by omega) dX7_stop_22 rfl (fun h_22 => ?_) (fun h_22 => ?_)
    · refine V_iconst (v := 2) dX7_stop_29 rfl ?_
      refine V_callV (C := RX7) (q := 0) (ci := 6) (As := _) (rest := []) [0] (c_X7_refused l G B z 2 (by decide)) vy_X7_refused gX7_stop_X7_refused rfl rfl rfl rfl rfl rfl rfl ⟨rfl, rfl⟩ ⟨rfl, rfl⟩ ⟨Nat.zero_le _, Nat.zero_le _⟩ rfl dX7_stop_30 (fun v Y hE => ?_)
      obtain ⟨rfl, rfl⟩ := hE
      refine ⟨rfl, ?_⟩
      dsimp only [vfill, List.set_cons_zero, List.set_cons_succ, Option.toList, List.cons_append, List.nil_append, Nat.add_zero]
      refine V_top (b := 1) (by decide) ?_
      refine V_if_eq (tgt := 38) (by omega) dX7_stop_33 rfl (fun h_33 => ?_) (fun h_33 => ?_)
      · exfalso; omega
      · refine V_iconst (v := 0) dX7_stop_36 rfl ?_
        refine V_iret hR dX7_stop_37 hkc hks ?_
        first | exact Or.inl ⟨b00 h_5, rfl, rfl⟩ | exact Or.inr (Or.inl ⟨hy, h_22, rfl, rfl⟩)
    · refine V_iconst (v := 0) dX7_stop_25 rfl ?_
      refine V_goto (tgt := 30) dX7_stop_26 rfl ?_
      refine V_callV (C := RX7) (q := 0) (ci := 6) (As := _) (rest := []) [0] (c_X7_refused l G B z 0 (by decide)) vy_X7_refused gX7_stop_X7_refused rfl rfl rfl rfl rfl rfl rfl ⟨rfl, rfl⟩ ⟨rfl, rfl⟩ ⟨Nat.zero_le _, Nat.zero_le _⟩ rfl dX7_stop_30 (fun v Y hE => ?_)
      obtain ⟨rfl, rfl⟩ := hE
      refine ⟨rfl, ?_⟩
      dsimp only [vfill, List.set_cons_zero, List.set_cons_succ, Option.toList, List.cons_append, List.nil_append, Nat.add_zero]
      refine V_top (b := 0) (by decide) ?_
      refine V_if_eq (tgt := 38) (by omega) dX7_stop_33 rfl (fun h_33 => ?_) (fun h_33 => ?_)
      · refine V_aload_n (i := 0) dX7_stop_38 rfl rfl ?_
        refine V_callV (C := RX7) (q := 0) (ci := 6) (As := []) (rest := []) [0, 1, 2] (c_X7_remember l G B (va_up z 0 0) g d h3) vy_X7_remember gX7_stop_X7_remember rfl rfl rfl rfl rfl rfl rfl ⟨rfl, rfl⟩ ⟨rfl, rfl⟩ ⟨Nat.zero_le _, Nat.zero_le _⟩ rfl dX7_stop_39 (fun v Y hE => ?_)
        obtain ⟨rfl, rfl⟩ := hE
        refine ⟨rfl, ?_⟩
        dsimp only [vfill, List.set_cons_zero, List.set_cons_succ, Option.toList, List.cons_append, List.nil_append, Nat.add_zero]
        refine V_aload_n (i := 0) dX7_stop_42 rfl rfl ?_
        refine V_get (C := RX7) (T := TX7) (N := 17) (ci := 6) (q := 0) (ref := "OrderChainsModel") 5 rfl il_X7_stop_X7 rfl rfl fl_X7_stop_16 rfl rfl dX7_stop_43 ?_
        refine V_iload_n (i := 1) dX7_stop_46 rfl rfl ?_
        refine V_callS (As := _) (rest := []) [1] (c_X7_stopOn l G (B 3) g h hy (hc h hy)) vy_X7_stopOn gX7_stop_X7_stopOn rfl rfl rfl rfl ⟨rfl, rfl⟩ ⟨rfl, rfl⟩ ⟨Nat.zero_le _, Nat.zero_le _⟩ rfl dX7_stop_47 (fun v Y hE => ?_)
        obtain ⟨rfl, rfl⟩ := hE
        refine ⟨rfl, ?_⟩
        dsimp only [vfill, List.set_cons_zero, List.set_cons_succ, Option.toList, List.cons_append, List.nil_append, Nat.add_zero]
        refine V_iret hR dX7_stop_50 hkc hks ?_
        exact Or.inr (Or.inr ⟨hy, h_22, rfl, rfl⟩)
      · exfalso; omega
  · refine V_iconst (v := 1) dX7_stop_8 rfl ?_
    refine V_goto (tgt := 30) dX7_stop_9 rfl ?_
    refine V_callV (C := RX7) (q := 0) (ci := 6) (As := _) (rest := []) [0] (c_X7_refused l G B z 1 (by decide)) vy_X7_refused gX7_stop_X7_refused rfl rfl rfl rfl rfl rfl rfl ⟨rfl, rfl⟩ ⟨rfl, rfl⟩ ⟨Nat.zero_le _, Nat.zero_le _⟩ rfl dX7_stop_30 (fun v Y hE => ?_)
    obtain ⟨rfl, rfl⟩ := hE
    refine ⟨rfl, ?_⟩
    dsimp only [vfill, List.set_cons_zero, List.set_cons_succ, Option.toList, List.cons_append, List.nil_append, Nat.add_zero]
    refine V_top (b := 1) (by decide) ?_
    refine V_if_eq (tgt := 38) (by omega) dX7_stop_33 rfl (fun h_33 => ?_) (fun h_33 => ?_)
    · exfalso; omega
    · refine V_iconst (v := 0) dX7_stop_36 rfl ?_
      refine V_iret hR dX7_stop_37 hkc hks ?_
      first | exact Or.inl ⟨b00 h_5, rfl, rfl⟩ | exact Or.inr (Or.inl ⟨hy, h_22, rfl, rfl⟩)

abbrev rX7_undo : Room := { frames := 1, cells := 0, slots := 0, locals := 24 }
theorem vy_X7_undo : vY yX7_undo wsX7_undo cX7_undo 1 (some .int) 0 := ⟨⟨_, rfl⟩, by decide +kernel, by decide +kernel, by decide +kernel⟩
theorem fl_X7_undo_38 : Cond.fieldLink RX7 38 "OrderChainsModel" "acts" "I" ∈ wsX7_undo := List.mem_of_getElem? (i := 1) rfl
theorem il_X7_undo_X7 : ∀ w ∈ wsX70, w ∈ wsX7_undo := fun _ h => List.mem_cons_of_mem _ (List.mem_append_right _ h)
theorem fl_X7_undo_22 : Cond.fieldLink RX7 22 "OrderChainsModel" "diary" "[I" ∈ wsX7_undo := List.mem_of_getElem? (i := 2) rfl
theorem fl_X7_undo_16 : Cond.fieldLink RX7 16 "OrderChainsModel" "now" "[I" ∈ wsX7_undo := List.mem_of_getElem? (i := 3) rfl
set_option maxHeartbeats 4000000 in
set_option maxRecDepth 100000 in
/-- undo -/
theorem c_X7_undo (l : Launch) (G : vG) (B z g d : Nat → Nat) (h3 : z 3 ≤ 14) : Kc l G yX7_undo wsX7_undo rX7_undo [.ref (B 0)] [mO B z, iA G (B 3) 427 g, iA G (B 5) 5978 d] (fun v Y => (¬ (0 < z 3) ∧ v = some (.int (nI 0)) ∧ Y = [mO B (va_up z 0 1), iA G (B 3) 427 g, iA G (B 5) 5978 d]) ∨ ((0 < z 3) ∧ v = some (.int (nI (z 3 - 1))) ∧ Y = [mO B (va_up (va_up z 0 0) 3 (z 3 - 1)), iA G (B 3) 427 (cpE 427 d (427 * (z 3 - 1)) g 0), iA G (B 5) 5978 d])) 0 0 := by
  refine V_enter (own := RX7) [some (.ref (B 0))] (by decide +kernel) rfl rfl (Nat.le_of_ble_eq_true rfl) rfl (fun Γ hR hin => ?_)
  have hkc : 0 ≤ 0 := Nat.le_refl 0
  have hks : 0 ≤ 0 := Nat.le_refl 0
  refine V_aload_n (i := 0) dX7_undo_0 rfl rfl ?_
  refine V_aload_n (i := 0) dX7_undo_1 rfl rfl ?_
  refine V_get (C := RX7) (T := TX7) (N := 17) (ci := 6) (q := 0) (ref := "OrderChainsModel") 8 rfl il_X7_undo_X7 rfl rfl fl_X7_undo_38 rfl rfl dX7_undo_2 ?_
  refine V_if_ne (tgt := 12) (by omega) dX7_undo_5 rfl (fun h_5 => ?_) (fun h_5 => ?_)
  · refine V_iconst (v := 0) dX7_undo_12 rfl ?_
    refine V_callV (C := RX7) (q := 0) (ci := 6) (As := _) (rest := []) [0] (c_X7_refused l G B z 0 (by decide)) vy_X7_refused gX7_undo_X7_refused rfl rfl rfl rfl rfl rfl rfl ⟨rfl, rfl⟩ ⟨rfl, rfl⟩ ⟨Nat.zero_le _, Nat.zero_le _⟩ rfl dX7_undo_13 (fun v Y hE => ?_)
    obtain ⟨rfl, rfl⟩ := hE
    refine ⟨rfl, ?_⟩
    dsimp only [vfill, List.set_cons_zero, List.set_cons_succ, Option.toList, List.cons_append, List.nil_append, Nat.add_zero]
    refine V_top (b := 0) (by decide) ?_
    refine V_if_eq (tgt := 21) (by omega) dX7_undo_16 rfl (fun h_16 => ?_) (fun h_16 => ?_)
    · refine V_aload_n (i := 0) dX7_undo_21 rfl rfl ?_
      refine V_dup dX7_undo_22 rfl ?_
      refine V_get (C := RX7) (T := TX7) (N := 17) (ci := 6) (q := 0) (ref := "OrderChainsModel") 8 rfl il_X7_undo_X7 rfl rfl fl_X7_undo_38 rfl rfl dX7_undo_23 ?_
      refine V_iconst (v := 1) dX7_undo_26 rfl ?_
      refine V_isub dX7_undo_27 (show 1 ≤ z 3 by omega) ?_
      refine V_put (C := RX7) (T := TX7) (N := 17) (ci := 6) (q := 0) (ref := "OrderChainsModel") (ty := .int) (ty0 := tyX7) 8 rfl il_X7_undo_X7 tyX7_ok nmX7 rfl rfl fl_X7_undo_38 rfl rfl rfl rfl rfl rfl dX7_undo_28 ?_
      dsimp only [List.set_cons_zero, List.set_cons_succ]
      refine V_aload_n (i := 0) dX7_undo_31 rfl rfl ?_
      refine V_get (C := RX7) (T := TX7) (N := 17) (ci := 6) (q := 0) (ref := "OrderChainsModel") 7 rfl il_X7_undo_X7 rfl rfl fl_X7_undo_22 rfl rfl dX7_undo_32 ?_
      refine V_sipush (v := 427) dX7_undo_35 (by decide) ?_
      refine V_aload_n (i := 0) dX7_undo_38 rfl rfl ?_
      refine V_get (C := RX7) (T := TX7) (N := 17) (ci := 6) (q := 0) (ref := "OrderChainsModel") 8 rfl il_X7_undo_X7 rfl rfl fl_X7_undo_38 rfl rfl dX7_undo_39 ?_
      refine V_imul dX7_undo_42 ?_
      refine V_aload_n (i := 0) dX7_undo_43 rfl rfl ?_
      refine V_get (C := RX7) (T := TX7) (N := 17) (ci := 6) (q := 0) (ref := "OrderChainsModel") 5 rfl il_X7_undo_X7 rfl rfl fl_X7_undo_16 rfl rfl dX7_undo_44 ?_
      refine V_iconst (v := 0) dX7_undo_47 rfl ?_
      refine V_callS (As := _) (rest := []) [2, 1] (c_X7_copyEngine l G (B 5) (B 3) 5978 427 (427 * (z 3 - 1)) 0 d g rfl rfl (by omega) (by omega)) vy_X7_copyEngine gX7_undo_X7_copyEngine rfl rfl rfl rfl ⟨rfl, rfl⟩ ⟨rfl, rfl⟩ ⟨Nat.zero_le _, Nat.zero_le _⟩ rfl dX7_undo_48 (fun v Y hE => ?_)
      obtain ⟨rfl, rfl⟩ := hE
      refine ⟨rfl, ?_⟩
      dsimp only [vfill, List.set_cons_zero, List.set_cons_succ, Option.toList, List.cons_append, List.nil_append, Nat.add_zero]
      refine V_aload_n (i := 0) dX7_undo_51 rfl rfl ?_
      refine V_get (C := RX7) (T := TX7) (N := 17) (ci := 6) (q := 0) (ref := "OrderChainsModel") 8 rfl il_X7_undo_X7 rfl rfl fl_X7_undo_38 rfl rfl dX7_undo_52 ?_
      refine V_iret hR dX7_undo_55 hkc hks ?_
      exact Or.inr ⟨by omega, rfl, rfl⟩
    · exfalso; omega
  · refine V_iconst (v := 1) dX7_undo_8 rfl ?_
    refine V_goto (tgt := 13) dX7_undo_9 rfl ?_
    refine V_callV (C := RX7) (q := 0) (ci := 6) (As := _) (rest := []) [0] (c_X7_refused l G B z 1 (by decide)) vy_X7_refused gX7_undo_X7_refused rfl rfl rfl rfl rfl rfl rfl ⟨rfl, rfl⟩ ⟨rfl, rfl⟩ ⟨Nat.zero_le _, Nat.zero_le _⟩ rfl dX7_undo_13 (fun v Y hE => ?_)
    obtain ⟨rfl, rfl⟩ := hE
    refine ⟨rfl, ?_⟩
    dsimp only [vfill, List.set_cons_zero, List.set_cons_succ, Option.toList, List.cons_append, List.nil_append, Nat.add_zero]
    refine V_top (b := 1) (by decide) ?_
    refine V_if_eq (tgt := 21) (by omega) dX7_undo_16 rfl (fun h_16 => ?_) (fun h_16 => ?_)
    · exfalso; omega
    · refine V_iconst (v := 0) dX7_undo_19 rfl ?_
      refine V_iret hR dX7_undo_20 hkc hks ?_
      exact Or.inl ⟨by omega, rfl, rfl⟩

abbrev rX7_run : Room := { frames := 5, cells := 0, slots := 0, locals := 120 }
theorem vy_X7_run : vY yX7_run wsX7_run cX7_run 2 (some .int) 1 := ⟨⟨_, rfl⟩, by decide +kernel, by decide +kernel, by decide +kernel⟩
theorem kc_X7_run_158 : Cond.constantLong RX7 158 (99) ∈ wsX7_run := List.mem_of_getElem? (i := 1) rfl
theorem fl_X7_run_16 : Cond.fieldLink RX7 16 "OrderChainsModel" "now" "[I" ∈ wsX7_run := List.mem_of_getElem? (i := 2) rfl
theorem il_X7_run_X7 : ∀ w ∈ wsX70, w ∈ wsX7_run := fun _ h => List.mem_cons_of_mem _ (List.mem_append_right _ h)
set_option maxHeartbeats 4000000 in
set_option maxRecDepth 100000 in
/-- run -/
theorem c_X7_run (l : Launch) (G : vG) (B z g d b : Nat → Nat) (w : Nat) (h3 : z 3 ≤ 14) (hw : w < 4294967296) (hg : gB g) (Q : vR3 → Prop) (hQ1 : ∀ t, Q t → gB t.2.1 ∧ t.1 5 < 4294967296) (hQ2 : ∀ t, Q t → Q (rTk t)) (hq : Q ((va_up (va_up z 0 0) 3 (rmA (z 3))), g, b)) : Kc l G yX7_run wsX7_run rX7_run [.ref (B 0), .int (nI w)] [mO B z, iA G (B 3) 427 g, iA G (B 5) 5978 d, iA G (B 8) 96 b] (fun v Y => (¬ (1 ≤ w ∧ w < 100) ∧ v = some (.int (nI 0)) ∧ Y = [mO B (va_up z 0 1), iA G (B 3) 427 g, iA G (B 5) 5978 d, iA G (B 8) 96 b]) ∨ ((1 ≤ w ∧ w < 100) ∧ ¬ (¬ rT g = 4294967287) ∧ v = some (.int (nI 0)) ∧ Y = [mO B (va_up z 0 2), iA G (B 3) 427 g, iA G (B 5) 5978 d, iA G (B 8) 96 b]) ∨ ((1 ≤ w ∧ w < 100) ∧ (¬ rT g = 4294967287) ∧ v = some (.int (nI (rRun w ((va_up (va_up z 0 0) 3 (rmA (z 3))), g, b)).1)) ∧ Y = [mO B (rRun w ((va_up (va_up z 0 0) 3 (rmA (z 3))), g, b)).2.1, iA G (B 3) 427 (rRun w ((va_up (va_up z 0 0) 3 (rmA (z 3))), g, b)).2.2.1, iA G (B 5) 5978 (rmD (z 3) g d), iA G (B 8) 96 (rRun w ((va_up (va_up z 0 0) 3 (rmA (z 3))), g, b)).2.2.2])) 0 0 := by
  refine V_enter (own := RX7) [some (.ref (B 0)), some (.int (nI w))] (by decide +kernel) rfl rfl (Nat.le_of_ble_eq_true rfl) rfl (fun Γ hR hin => ?_)
  have hkc : 0 ≤ 0 := Nat.le_refl 0
  have hks : 0 ≤ 0 := Nat.le_refl 0
  refine V_aload_n (i := 0) dX7_run_0 rfl rfl ?_
  refine V_iload_n (i := 1) dX7_run_1 rfl rfl ?_
  refine V_i2l dX7_run_2 ?_
  refine V_lconst dX7_run_3 rfl ?_
  refine V_ldc2 (v := 99) dX7_run_4 kc_X7_run_158 ?_
  refine V_callS (As := _) (rest := _) [] (c_X7_inN l G (w) 1 99 _ _ (by decide) (by decide) hw (by decide)) vy_X7_in gX7_run_X7_in rfl rfl rfl rfl ⟨rfl, rfl⟩ ⟨rfl, rfl⟩ ⟨Nat.zero_le _, Nat.zero_le _⟩ rfl dX7_run_7 (fun v Y hE => ?_)
  obtain ⟨rfl, rfl⟩ := hE
  refine ⟨rfl, ?_⟩
  dsimp only [vfill, List.set_cons_zero, List.set_cons_succ, Option.toList, List.cons_append, List.nil_append, Nat.add_zero]
  refine V_if_ne (tgt := 17) (by split <;> decide) dX7_run_10 rfl (fun h_10 => ?_) (fun h_10 => ?_)
  · have hy := b01 h_10
    refine V_aload_n (i := 0) dX7_run_17 rfl rfl ?_
    refine V_get (C := RX7) (T := TX7) (N := 17) (ci := 6) (q := 0) (ref := "OrderChainsModel") 5 rfl il_X7_run_X7 rfl rfl fl_X7_run_16 rfl rfl dX7_run_18 ?_
    refine V_callS (As := _) (rest := _) [1] (c_X7_turnOf l G (B 3) g hg.2.2.2.1 (fun h hh => (hg.2.2.2.2 h hh).1)) vy_X7_turnOf gX7_run_X7_turnOf rfl rfl rfl rfl ⟨rfl, rfl⟩ ⟨rfl, rfl⟩ ⟨Nat.zero_le _, Nat.zero_le _⟩ rfl dX7_run_21 (fun v Y hE => ?_)
    obtain ⟨rfl, rfl⟩ := hE
    refine ⟨rfl, ?_⟩
    dsimp only [vfill, List.set_cons_zero, List.set_cons_succ, Option.toList, List.cons_append, List.nil_append, Nat.add_zero]
    refine V_bipush (v := 4294967287) dX7_run_24 (by decide) ?_
    refine V_icmp_ne (tgt := 33) (rT_l32 g) (by omega) dX7_run_26 rfl (fun h_26 => ?_) (fun h_26 => ?_)
    · refine V_iconst (v := 0) dX7_run_33 rfl ?_
      refine V_callV (C := RX7) (q := 0) (ci := 6) (As := _) (rest := []) [0] (c_X7_refused l G B z 0 (by decide)) vy_X7_refused gX7_run_X7_refused rfl rfl rfl rfl rfl rfl rfl ⟨rfl, rfl⟩ ⟨rfl, rfl⟩ ⟨Nat.zero_le _, Nat.zero_le _⟩ rfl dX7_run_34 (fun v Y hE => ?_)
      obtain ⟨rfl, rfl⟩ := hE
      refine ⟨rfl, ?_⟩
      dsimp only [vfill, List.set_cons_zero, List.set_cons_succ, Option.toList, List.cons_append, List.nil_append, Nat.add_zero]
      refine V_top (b := 0) (by decide) ?_
      refine V_if_eq (tgt := 42) (by omega) dX7_run_37 rfl (fun h_37 => ?_) (fun h_37 => ?_)
      · refine V_aload_n (i := 0) dX7_run_42 rfl rfl ?_
        refine V_callV (C := RX7) (q := 0) (ci := 6) (As := []) (rest := []) [0, 1, 2] (c_X7_remember l G B (va_up z 0 0) g d h3) vy_X7_remember gX7_run_X7_remember rfl rfl rfl rfl rfl rfl rfl ⟨rfl, rfl⟩ ⟨rfl, rfl⟩ ⟨Nat.zero_le _, Nat.zero_le _⟩ rfl dX7_run_43 (fun v Y hE => ?_)
        obtain ⟨rfl, rfl⟩ := hE
        refine ⟨rfl, ?_⟩
        dsimp only [vfill, List.set_cons_zero, List.set_cons_succ, Option.toList, List.cons_append, List.nil_append, Nat.add_zero]
        refine V_aload_n (i := 0) dX7_run_46 rfl rfl ?_
        refine V_aload_n (i := 0) dX7_run_47 rfl rfl ?_
        refine V_get (C := RX7) (T := TX7) (N := 17) (ci := 6) (q := 0) (ref := "OrderChainsModel") 5 rfl il_X7_run_X7 rfl rfl fl_X7_run_16 rfl rfl dX7_run_48 ?_
        refine V_iload_n (i := 1) dX7_run_51 rfl rfl ?_
        refine V_callV (C := RX7) (q := 0) (ci := 6) (As := _) (rest := []) [0, 1, 3] (c_X7_goOnFor l G B (va_up (va_up z 0 0) 3 (rmA (z 3))) b (B 3) g w (by omega) Q hQ1 hQ2 hq) vy_X7_goOnFor gX7_run_X7_goOnFor rfl rfl rfl rfl rfl rfl rfl ⟨rfl, rfl⟩ ⟨rfl, rfl⟩ ⟨Nat.zero_le _, Nat.zero_le _⟩ rfl dX7_run_52 (fun v Y hE => ?_)
        obtain ⟨rfl, rfl⟩ := hE
        refine ⟨rfl, ?_⟩
        dsimp only [vfill, w3, List.set_cons_zero, List.set_cons_succ, Option.toList, List.cons_append, List.nil_append, Nat.add_zero]
        refine V_iret hR dX7_run_55 hkc hks ?_
        exact Or.inr (Or.inr ⟨by omega, h_26, rfl, rfl⟩)
      · exfalso; omega
    · refine V_iconst (v := 2) dX7_run_29 rfl ?_
      refine V_goto (tgt := 34) dX7_run_30 rfl ?_
      refine V_callV (C := RX7) (q := 0) (ci := 6) (As := _) (rest := []) [0] (c_X7_refused l G B z 2 (by decide)) vy_X7_refused gX7_run_X7_refused rfl rfl rfl rfl rfl rfl rfl ⟨rfl, rfl⟩ ⟨rfl, rfl⟩ ⟨Nat.zero_le _, Nat.zero_le _⟩ rfl dX7_run_34 (fun v Y hE => ?_)
      obtain ⟨rfl, rfl⟩ := hE
      refine ⟨rfl, ?_⟩
      dsimp only [vfill, List.set_cons_zero, List.set_cons_succ, Option.toList, List.cons_append, List.nil_append, Nat.add_zero]
      refine V_top (b := 1) (by decide) ?_
      refine V_if_eq (tgt := 42) (by omega) dX7_run_37 rfl (fun h_37 => ?_) (fun h_37 => ?_)
      · exfalso; omega
      · refine V_iconst (v := 0) dX7_run_40 rfl ?_
        refine V_iret hR dX7_run_41 hkc hks ?_
        first | exact Or.inl ⟨fun y9 => b00 h_10 (by omega), rfl, rfl⟩ | exact Or.inr (Or.inl ⟨by omega, fun y9 => y9 h_26, rfl, rfl⟩)
  · refine V_iconst (v := 1) dX7_run_13 rfl ?_
    refine V_goto (tgt := 34) dX7_run_14 rfl ?_
    refine V_callV (C := RX7) (q := 0) (ci := 6) (As := _) (rest := []) [0] (c_X7_refused l G B z 1 (by decide)) vy_X7_refused gX7_run_X7_refused rfl rfl rfl rfl rfl rfl rfl ⟨rfl, rfl⟩ ⟨rfl, rfl⟩ ⟨Nat.zero_le _, Nat.zero_le _⟩ rfl dX7_run_34 (fun v Y hE => ?_)
    obtain ⟨rfl, rfl⟩ := hE
    refine ⟨rfl, ?_⟩
    dsimp only [vfill, List.set_cons_zero, List.set_cons_succ, Option.toList, List.cons_append, List.nil_append, Nat.add_zero]
    refine V_top (b := 1) (by decide) ?_
    refine V_if_eq (tgt := 42) (by omega) dX7_run_37 rfl (fun h_37 => ?_) (fun h_37 => ?_)
    · exfalso; omega
    · refine V_iconst (v := 0) dX7_run_40 rfl ?_
      refine V_iret hR dX7_run_41 hkc hks ?_
      first | exact Or.inl ⟨fun y9 => b00 h_10 (by omega), rfl, rfl⟩ | exact Or.inr (Or.inl ⟨by omega, fun y9 => y9 h_26, rfl, rfl⟩)

end REF6
