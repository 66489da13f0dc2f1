section REF13
def rDg (hi : Nat) (z tx : Nat → Nat) : Nat × (Nat → Nat) := if z 2 < z 1 ∧ 48 ≤ tx (z 2) ∧ tx (z 2) ≤ 48 + hi then (tx (z 2) - 48, va_up z 2 (z 2 + 1)) else (4294967287, z)
theorem nI_wr {p : Nat} (h : 48 ≤ p) (h2 : p < 4294967296) : nI (p + (4294967296 - 48)) = nI (p - 48) := by
  have e : (p + (4294967296 - 48)) % 4294967296 = p - 48 := by omega
  rw [← nI_mod (p + (4294967296 - 48)), e]
def rSub (p : Nat) : Nat := if 48 ≤ p then p - 48 else p + (4294967296 - 48)
theorem rSub_eq {p : Nat} (h2 : p < 256) : nI (p + (4294967296 - 48)) = nI (rSub p) := by
  unfold rSub
  split
  · exact nI_wr (by omega) (by omega)
  · rfl
theorem rSub_lt {p : Nat} (h2 : p < 256) : rSub p < 4294967296 := by
  unfold rSub
  split <;> omega
theorem i64_nI (hi : Nat) (h : hi < 2147483648) : (nI hi).toInt64.toInt = (hi : Int) := by rw [nI_64, nI_sm h]

abbrev rX7_digit : Room := { frames := 1, cells := 0, slots := 0, locals := 25 }
theorem vy_X7_digit : vY yX7_digit wsX7_digit cX7_digit 3 (some .int) 1 := ⟨⟨_, rfl⟩, by decide +kernel, by decide +kernel, by decide +kernel⟩
theorem fl_X7_digit_106 : Cond.fieldLink RX7 106 "OrderChainsModel" "spot" "I" ∈ wsX7_digit := List.mem_of_getElem? (i := 1) rfl
theorem il_X7_digit_X7 : ∀ w ∈ wsX70, w ∈ wsX7_digit := fun _ h => List.mem_cons_of_mem _ (List.mem_append_right _ h)
theorem fl_X7_digit_99 : Cond.fieldLink RX7 99 "OrderChainsModel" "size" "I" ∈ wsX7_digit := List.mem_of_getElem? (i := 2) rfl
theorem fl_X7_digit_7 : Cond.fieldLink RX7 7 "OrderChainsModel" "text" "[I" ∈ wsX7_digit := List.mem_of_getElem? (i := 3) rfl
set_option maxHeartbeats 4000000 in
set_option maxRecDepth 100000 in
/-- digit -/
theorem c_X7_digit (l : Launch) (G : vG) (B z tx : Nat → Nat) (hi : Nat) (hh : hi < 10) (h1 : z 1 ≤ 140) (h2 : z 2 ≤ 140) (ht : ∀ k, k < 140 → tx k < 256) : Kc l G yX7_digit wsX7_digit rX7_digit [.ref (B 0), .int (nI hi)] [mO B z, iA G (B 1) 140 tx] (fun v Y => v = some (.int (nI (rDg hi z tx).1)) ∧ Y = [mO B (rDg hi z tx).2, iA G (B 1) 140 tx]) 0 0 := by
  refine V_enter (own := RX7) [some (.ref (B 0)), some (.int (nI hi)), none] (by decide +kernel) rfl rfl (Nat.le_of_ble_eq_true rfl) rfl (fun Γ hR hin => ?_)
  have hkc : 0 ≤ 0 := Nat.le_refl 0
  have hks : 0 ≤ 0 := Nat.le_refl 0
  refine V_aload_n (i := 0) dX7_digit_0 rfl rfl ?_
  refine V_get (C := RX7) (T := TX7) (N := 17) (ci := 6) (q := 0) (ref := "OrderChainsModel") 3 rfl il_X7_digit_X7 rfl rfl fl_X7_digit_106 rfl rfl dX7_digit_1 ?_
  refine V_aload_n (i := 0) dX7_digit_4 rfl rfl ?_
  refine V_get (C := RX7) (T := TX7) (N := 17) (ci := 6) (q := 0) (ref := "OrderChainsModel") 2 rfl il_X7_digit_X7 rfl rfl fl_X7_digit_99 rfl rfl dX7_digit_5 ?_
  refine V_icmp_ge (tgt := 26) (by omega) (by omega) dX7_digit_8 rfl (fun h_8 => ?_) (fun h_8 => ?_)
  · refine V_bipush (v := 4294967287) dX7_digit_26 (by decide) ?_
    refine V_istore_n (i := 2) dX7_digit_28 rfl rfl rfl ?_
    dsimp only [List.set_cons_zero, List.set_cons_succ]
    refine V_iload_n (i := 2) dX7_digit_29 rfl rfl ?_
    refine V_i2l dX7_digit_30 ?_
    refine V_lconst dX7_digit_31 rfl ?_
    refine V_iload_n (i := 1) dX7_digit_32 rfl rfl ?_
    refine V_i2l dX7_digit_33 ?_
    refine V_callS (As := _) (rest := []) [] (c_X7_inN l G 4294967287 0 hi _ _ (by decide) (i64_nI hi (by omega)) (by decide) (by omega)) vy_X7_in gX7_digit_X7_in rfl rfl rfl rfl ⟨rfl, rfl⟩ ⟨rfl, rfl⟩ ⟨Nat.zero_le _, Nat.zero_le _⟩ rfl dX7_digit_34 (fun v Y hE => ?_)
    obtain ⟨rfl, rfl⟩ := hE
    refine ⟨rfl, ?_⟩
    dsimp only [vfill, List.set_cons_zero, List.set_cons_succ, Option.toList, List.cons_append, List.nil_append, Nat.add_zero]
    refine V_if_ne (tgt := 43) (by split <;> decide) dX7_digit_37 rfl (fun h_37 => ?_) (fun h_37 => ?_)
    · refine V_aload_n (i := 0) dX7_digit_43 rfl rfl ?_
      refine V_dup dX7_digit_44 rfl ?_
      refine V_get (C := RX7) (T := TX7) (N := 17) (ci := 6) (q := 0) (ref := "OrderChainsModel") 3 rfl il_X7_digit_X7 rfl rfl fl_X7_digit_106 rfl rfl dX7_digit_45 ?_
      refine V_iconst (v := 1) dX7_digit_48 rfl ?_
      refine V_iadd dX7_digit_49 ?_
      refine V_put (C := RX7) (T := TX7) (N := 17) (ci := 6) (q := 0) (ref := "OrderChainsModel") (ty := .int) (ty0 := tyX7) 3 rfl il_X7_digit_X7 tyX7_ok nmX7 rfl rfl fl_X7_digit_106 rfl rfl rfl rfl rfl rfl dX7_digit_50 ?_
      dsimp only [List.set_cons_zero, List.set_cons_succ]
      refine V_iload_n (i := 2) dX7_digit_53 rfl rfl ?_
      refine V_iret hR dX7_digit_54 hkc hks ?_
      have q9 := b01 h_37
      first | (exfalso; omega) | (have g9 : z 2 < z 1 ∧ 48 ≤ tx (z 2) ∧ tx (z 2) ≤ 48 + hi := (by have y9 := ht (z 2) (by omega); unfold rSub at q9; split at q9 <;> omega); have f9 : rSub (tx (z 2)) = tx (z 2) - 48 := if_pos g9.2.1; have e9 : rDg hi z tx = (tx (z 2) - 48, va_up z 2 (z 2 + 1)) := if_pos g9; rw [e9, f9]; exact ⟨rfl, rfl⟩)
    · refine V_bipush (v := 4294967287) dX7_digit_40 (by decide) ?_
      refine V_iret hR dX7_digit_42 hkc hks ?_
      have q9 := b00 h_37
      unfold rDg
      rw [if_neg (fun y9 => by first | (unfold rSub at q9; split at q9 <;> omega) | omega)]
      exact ⟨rfl, rfl⟩
  · refine V_aload_n (i := 0) dX7_digit_11 rfl rfl ?_
    refine V_get (C := RX7) (T := TX7) (N := 17) (ci := 6) (q := 0) (ref := "OrderChainsModel") 1 rfl il_X7_digit_X7 rfl rfl fl_X7_digit_7 rfl rfl dX7_digit_12 ?_
    refine V_aload_n (i := 0) dX7_digit_15 rfl rfl ?_
    refine V_get (C := RX7) (T := TX7) (N := 17) (ci := 6) (q := 0) (ref := "OrderChainsModel") 3 rfl il_X7_digit_X7 rfl rfl fl_X7_digit_106 rfl rfl dX7_digit_16 ?_
    refine V_iald (q := 1) rfl (by omega) rfl dX7_digit_19 ?_
    refine V_bipush (v := 48) dX7_digit_20 (by decide) ?_
    refine V_isubW dX7_digit_22 (by omega) ?_
    rw [rSub_eq (ht (z 2) (by omega))]
    refine V_goto (tgt := 28) dX7_digit_23 rfl ?_
    refine V_istore_n (i := 2) dX7_digit_28 rfl rfl rfl ?_
    dsimp only [List.set_cons_zero, List.set_cons_succ]
    refine V_iload_n (i := 2) dX7_digit_29 rfl rfl ?_
    refine V_i2l dX7_digit_30 ?_
    refine V_lconst dX7_digit_31 rfl ?_
    refine V_iload_n (i := 1) dX7_digit_32 rfl rfl ?_
    refine V_i2l dX7_digit_33 ?_
    refine V_callS (As := _) (rest := []) [] (c_X7_inN l G (rSub (tx (z 2))) 0 hi _ _ (by decide) (i64_nI hi (by omega)) (rSub_lt (ht _ (by omega))) (by omega)) vy_X7_in gX7_digit_X7_in rfl rfl rfl rfl ⟨rfl, rfl⟩ ⟨rfl, rfl⟩ ⟨Nat.zero_le _, Nat.zero_le _⟩ rfl dX7_digit_34 (fun v Y hE => ?_)
    obtain ⟨rfl, rfl⟩ := hE
    refine ⟨rfl, ?_⟩
    dsimp only [vfill, List.set_cons_zero, List.set_cons_succ, Option.toList, List.cons_append, List.nil_append, Nat.add_zero]
    refine V_if_ne (tgt := 43) (by split <;> decide) dX7_digit_37 rfl (fun h_37 => ?_) (fun h_37 => ?_)
    · refine V_aload_n (i := 0) dX7_digit_43 rfl rfl ?_
      refine V_dup dX7_digit_44 rfl ?_
      refine V_get (C := RX7) (T := TX7) (N := 17) (ci := 6) (q := 0) (ref := "OrderChainsModel") 3 rfl il_X7_digit_X7 rfl rfl fl_X7_digit_106 rfl rfl dX7_digit_45 ?_
      refine V_iconst (v := 1) dX7_digit_48 rfl ?_
      refine V_iadd dX7_digit_49 ?_
      refine V_put (C := RX7) (T := TX7) (N := 17) (ci := 6) (q := 0) (ref := "OrderChainsModel") (ty := .int) (ty0 := tyX7) 3 rfl il_X7_digit_X7 tyX7_ok nmX7 rfl rfl fl_X7_digit_106 rfl rfl rfl rfl rfl rfl dX7_digit_50 ?_
      dsimp only [List.set_cons_zero, List.set_cons_succ]
      refine V_iload_n (i := 2) dX7_digit_53 rfl rfl ?_
      refine V_iret hR dX7_digit_54 hkc hks ?_
      have q9 := b01 h_37
      first | (exfalso; omega) | (have g9 : z 2 < z 1 ∧ 48 ≤ tx (z 2) ∧ tx (z 2) ≤ 48 + hi := (by have y9 := ht (z 2) (by omega); unfold rSub at q9; split at q9 <;> omega); have f9 : rSub (tx (z 2)) = tx (z 2) - 48 := if_pos g9.2.1; have e9 : rDg hi z tx = (tx (z 2) - 48, va_up z 2 (z 2 + 1)) := if_pos g9; rw [e9, f9]; exact ⟨rfl, rfl⟩)
    · refine V_bipush (v := 4294967287) dX7_digit_40 (by decide) ?_
      refine V_iret hR dX7_digit_42 hkc hks ?_
      have q9 := b00 h_37
      unfold rDg
      rw [if_neg (fun y9 => by first | (unfold rSub at q9; split at q9 <;> omega) | omega)]
      exact ⟨rfl, rfl⟩

theorem rDg_1 (hi : Nat) (z tx : Nat → Nat) : (rDg hi z tx).2 1 = z 1 := by
  unfold rDg
  split
  · show va_up z 2 (z 2 + 1) 1 = z 1
    exact up_n (by omega)
  · rfl
theorem rDg_2 {hi : Nat} {z tx : Nat → Nat} (h1 : z 1 ≤ 140) (h2 : z 2 ≤ 140) : (rDg hi z tx).2 2 ≤ 140 := by
  unfold rDg
  split
  · show va_up z 2 (z 2 + 1) 2 ≤ 140
    rw [up_s]
    omega
  · exact h2
theorem rDg_lt {hi : Nat} {z tx : Nat → Nat} (hh : hi < 10) : (rDg hi z tx).1 = 4294967287 ∨ (rDg hi z tx).1 ≤ hi := by
  unfold rDg
  split
  · right; dsimp only; omega
  · left; rfl
def rTw (hi : Nat) (z tx : Nat → Nat) : Nat × (Nat → Nat) :=
  if (rDg (hi / 10) z tx).1 = 4294967287 then (4294967287, (rDg (hi / 10) z tx).2)
  else if (rDg (if (rDg (hi / 10) z tx).1 = hi / 10 then hi % 10 else 9) (rDg (hi / 10) z tx).2 tx).1 = 4294967287 then (4294967287, (rDg (if (rDg (hi / 10) z tx).1 = hi / 10 then hi % 10 else 9) (rDg (hi / 10) z tx).2 tx).2)
  else (10 * (rDg (hi / 10) z tx).1 + (rDg (if (rDg (hi / 10) z tx).1 = hi / 10 then hi % 10 else 9) (rDg (hi / 10) z tx).2 tx).1, (rDg (if (rDg (hi / 10) z tx).1 = hi / 10 then hi % 10 else 9) (rDg (hi / 10) z tx).2 tx).2)
abbrev rX7_two : Room := { frames := 2, cells := 0, slots := 0, locals := 47 }
theorem vy_X7_two : vY yX7_two wsX7_two cX7_two 4 (some .int) 1 := ⟨⟨_, rfl⟩, by decide +kernel, by decide +kernel, by decide +kernel⟩
set_option maxHeartbeats 4000000 in
set_option maxRecDepth 100000 in
/-- two -/
theorem c_X7_two (l : Launch) (G : vG) (B z tx : Nat → Nat) (hi : Nat) (hh : hi < 100) (h1 : z 1 ≤ 140) (h2 : z 2 ≤ 140) (ht : ∀ k, k < 140 → tx k < 256) : Kc l G yX7_two wsX7_two rX7_two [.ref (B 0), .int (nI hi)] [mO B z, iA G (B 1) 140 tx] (fun v Y => v = some (.int (nI (rTw hi z tx).1)) ∧ Y = [mO B (rTw hi z tx).2, iA G (B 1) 140 tx]) 0 0 := by
  refine V_enter (own := RX7) [some (.ref (B 0)), some (.int (nI hi)), none, none] (by decide +kernel) rfl rfl (Nat.le_of_ble_eq_true rfl) rfl (fun Γ hR hin => ?_)
  have hkc : 0 ≤ 0 := Nat.le_refl 0
  have hks : 0 ≤ 0 := Nat.le_refl 0
  refine V_aload_n (i := 0) dX7_two_0 rfl rfl ?_
  refine V_iload_n (i := 1) dX7_two_1 rfl rfl ?_
  refine V_bipush (v := 10) dX7_two_2 (by decide) ?_
  refine V_idiv dX7_two_4 (by omega) (by omega) (by omega) ?_
  refine V_callV (C := RX7) (q := 0) (ci := 6) (As := _) (rest := []) [0, 1] (c_X7_digit l G B z tx (hi / 10) (by omega) h1 h2 ht) vy_X7_digit gX7_two_X7_digit rfl rfl rfl rfl rfl rfl rfl ⟨rfl, rfl⟩ ⟨rfl, rfl⟩ ⟨Nat.zero_le _, Nat.zero_le _⟩ rfl dX7_two_5 (fun v Y hE => ?_)
  obtain ⟨rfl, rfl⟩ := hE
  refine ⟨rfl, ?_⟩
  dsimp only [vfill, List.set_cons_zero, List.set_cons_succ, Option.toList, List.cons_append, List.nil_append, Nat.add_zero]
  have d9 := rDg_lt (hi := hi / 10) (z := z) (tx := tx) (by omega)
  refine V_istore_n (i := 2) dX7_two_8 rfl rfl rfl ?_
  dsimp only [List.set_cons_zero, List.set_cons_succ]
  refine V_iload_n (i := 2) dX7_two_9 rfl rfl ?_
  refine V_bipush (v := 4294967287) dX7_two_10 (by decide) ?_
  refine V_icmp_ne (tgt := 20) (by omega) (by omega) dX7_two_12 rfl (fun h_12 => ?_) (fun h_12 => ?_)
  · refine V_aload_n (i := 0) dX7_two_20 rfl rfl ?_
    refine V_iload_n (i := 2) dX7_two_21 rfl rfl ?_
    refine V_iload_n (i := 1) dX7_two_22 rfl rfl ?_
    refine V_bipush (v := 10) dX7_two_23 (by decide) ?_
    refine V_idiv dX7_two_25 (by omega) (by omega) (by omega) ?_
    refine V_icmp_ne (tgt := 36) (by omega) (by omega) dX7_two_26 rfl (fun h_26 => ?_) (fun h_26 => ?_)
    · refine V_bipush (v := 9) dX7_two_36 (by decide) ?_
      refine V_callV (C := RX7) (q := 0) (ci := 6) (As := _) (rest := []) [0, 1] (c_X7_digit l G B (rDg (hi / 10) z tx).2 tx 9 (by omega) (by rw [rDg_1]; exact h1) (rDg_2 h1 h2) ht) vy_X7_digit gX7_two_X7_digit rfl rfl rfl rfl rfl rfl rfl ⟨rfl, rfl⟩ ⟨rfl, rfl⟩ ⟨Nat.zero_le _, Nat.zero_le _⟩ rfl dX7_two_38 (fun v Y hE => ?_)
      obtain ⟨rfl, rfl⟩ := hE
      refine ⟨rfl, ?_⟩
      dsimp only [vfill, List.set_cons_zero, List.set_cons_succ, Option.toList, List.cons_append, List.nil_append, Nat.add_zero]
      refine V_istore_n (i := 3) dX7_two_41 rfl rfl rfl ?_
      dsimp only [List.set_cons_zero, List.set_cons_succ]
      refine V_iload_n (i := 3) dX7_two_42 rfl rfl ?_
      refine V_bipush (v := 4294967287) dX7_two_43 (by decide) ?_
      refine V_icmp_ne (tgt := 53) (by first | decide | (have w9 := rDg_lt (hi := hi % 10) (z := (rDg (hi / 10) z tx).2) (tx := tx) (by omega); have x9 := rDg_lt (hi := 9) (z := (rDg (hi / 10) z tx).2) (tx := tx) (by omega); omega)) (by omega) dX7_two_45 rfl (fun h_45 => ?_) (fun h_45 => ?_)
      · refine V_bipush (v := 10) dX7_two_53 (by decide) ?_
        refine V_iload_n (i := 2) dX7_two_55 rfl rfl ?_
        refine V_imul dX7_two_56 ?_
        refine V_iload_n (i := 3) dX7_two_57 rfl rfl ?_
        refine V_iadd dX7_two_58 ?_
        refine V_iret hR dX7_two_59 hkc hks ?_
        first | exact absurd rfl h_45 | (have e9 : rTw hi z tx = _ := if_pos h_12; rw [e9]; exact ⟨rfl, rfl⟩) | (have e9 : rTw hi z tx = _ := if_neg h_12; (first | rw [if_pos h_26] at e9 | rw [if_neg h_26] at e9); (first | rw [if_pos h_45] at e9 | rw [if_neg h_45] at e9); rw [e9]; exact ⟨rfl, rfl⟩)
      · refine V_bipush (v := 4294967287) dX7_two_48 (by decide) ?_
        refine V_goto (tgt := 59) dX7_two_50 rfl ?_
        refine V_iret hR dX7_two_59 hkc hks ?_
        first | exact absurd rfl h_45 | (have e9 : rTw hi z tx = _ := if_pos h_12; rw [e9]; exact ⟨rfl, rfl⟩) | (have e9 : rTw hi z tx = _ := if_neg h_12; (first | rw [if_pos h_26] at e9 | rw [if_neg h_26] at e9); (first | rw [if_pos h_45] at e9 | rw [if_neg h_45] at e9); rw [e9]; exact ⟨rfl, rfl⟩)
    · refine V_iload_n (i := 1) dX7_two_29 rfl rfl ?_
      refine V_bipush (v := 10) dX7_two_30 (by decide) ?_
      refine V_irem dX7_two_32 (by omega) (by omega) (by omega) ?_
      refine V_goto (tgt := 38) dX7_two_33 rfl ?_
      refine V_callV (C := RX7) (q := 0) (ci := 6) (As := _) (rest := []) [0, 1] (c_X7_digit l G B (rDg (hi / 10) z tx).2 tx (hi % 10) (by omega) (by rw [rDg_1]; exact h1) (rDg_2 h1 h2) ht) vy_X7_digit gX7_two_X7_digit rfl rfl rfl rfl rfl rfl rfl ⟨rfl, rfl⟩ ⟨rfl, rfl⟩ ⟨Nat.zero_le _, Nat.zero_le _⟩ rfl dX7_two_38 (fun v Y hE => ?_)
      obtain ⟨rfl, rfl⟩ := hE
      refine ⟨rfl, ?_⟩
      dsimp only [vfill, List.set_cons_zero, List.set_cons_succ, Option.toList, List.cons_append, List.nil_append, Nat.add_zero]
      refine V_istore_n (i := 3) dX7_two_41 rfl rfl rfl ?_
      dsimp only [List.set_cons_zero, List.set_cons_succ]
      refine V_iload_n (i := 3) dX7_two_42 rfl rfl ?_
      refine V_bipush (v := 4294967287) dX7_two_43 (by decide) ?_
      refine V_icmp_ne (tgt := 53) (by first | decide | (have w9 := rDg_lt (hi := hi % 10) (z := (rDg (hi / 10) z tx).2) (tx := tx) (by omega); have x9 := rDg_lt (hi := 9) (z := (rDg (hi / 10) z tx).2) (tx := tx) (by omega); omega)) (by omega) dX7_two_45 rfl (fun h_45 => ?_) (fun h_45 => ?_)
      · refine V_bipush (v := 10) dX7_two_53 (by decide) ?_
        refine V_iload_n (i := 2) dX7_two_55 rfl rfl ?_
        refine V_imul dX7_two_56 ?_
        refine V_iload_n (i := 3) dX7_two_57 rfl rfl ?_
        refine V_iadd dX7_two_58 ?_
        refine V_iret hR dX7_two_59 hkc hks ?_
        first | exact absurd rfl h_45 | (have e9 : rTw hi z tx = _ := if_pos h_12; rw [e9]; exact ⟨rfl, rfl⟩) | (have e9 : rTw hi z tx = _ := if_neg h_12; (first | rw [if_pos h_26] at e9 | rw [if_neg h_26] at e9); (first | rw [if_pos h_45] at e9 | rw [if_neg h_45] at e9); rw [e9]; exact ⟨rfl, rfl⟩)
      · refine V_bipush (v := 4294967287) dX7_two_48 (by decide) ?_
        refine V_goto (tgt := 59) dX7_two_50 rfl ?_
        refine V_iret hR dX7_two_59 hkc hks ?_
        first | exact absurd rfl h_45 | (have e9 : rTw hi z tx = _ := if_pos h_12; rw [e9]; exact ⟨rfl, rfl⟩) | (have e9 : rTw hi z tx = _ := if_neg h_12; (first | rw [if_pos h_26] at e9 | rw [if_neg h_26] at e9); (first | rw [if_pos h_45] at e9 | rw [if_neg h_45] at e9); rw [e9]; exact ⟨rfl, rfl⟩)
  · refine V_bipush (v := 4294967287) dX7_two_15 (by decide) ?_
    refine V_goto (tgt := 41) dX7_two_17 rfl ?_
    refine V_istore_n (i := 3) dX7_two_41 rfl rfl rfl ?_
    dsimp only [List.set_cons_zero, List.set_cons_succ]
    refine V_iload_n (i := 3) dX7_two_42 rfl rfl ?_
    refine V_bipush (v := 4294967287) dX7_two_43 (by decide) ?_
    refine V_icmp_ne (tgt := 53) (by first | decide | (have w9 := rDg_lt (hi := hi % 10) (z := (rDg (hi / 10) z tx).2) (tx := tx) (by omega); have x9 := rDg_lt (hi := 9) (z := (rDg (hi / 10) z tx).2) (tx := tx) (by omega); omega)) (by omega) dX7_two_45 rfl (fun h_45 => ?_) (fun h_45 => ?_)
    · exfalso; omega
    · refine V_bipush (v := 4294967287) dX7_two_48 (by decide) ?_
      refine V_goto (tgt := 59) dX7_two_50 rfl ?_
      refine V_iret hR dX7_two_59 hkc hks ?_
      first | exact absurd rfl h_45 | (have e9 : rTw hi z tx = _ := if_pos h_12; rw [e9]; exact ⟨rfl, rfl⟩) | (have e9 : rTw hi z tx = _ := if_neg h_12; (first | rw [if_pos h_26] at e9 | rw [if_neg h_26] at e9); (first | rw [if_pos h_45] at e9 | rw [if_neg h_45] at e9); rw [e9]; exact ⟨rfl, rfl⟩)

end REF13
