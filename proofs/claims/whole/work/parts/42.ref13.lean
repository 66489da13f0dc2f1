section REF13
def rDg (hi : Nat) (z tx : Nat → Nat) : Nat × (Nat → Nat) := if z 2 < z 1 ∧ 48 ≤ tx (z 2) ∧ tx (z 2) ≤ 48 + hi then (tx (z 2) - 48, va_up z 2 (z 2 + 1)) else (4294967287, z)
theorem nI_wr {p : Nat} (h : 48 ≤ p) (h2 : p < 4294967296) : nI (p + (4294967296 - 48)) = nI (p - 48) := by
  have e : (p + (4294967296 - 48)) % 4294967296 = p - 48 := by omega
  rw [← nI_mod (p + (4294967296 - 48)), e]
def rSub (p : Nat) : Nat := if 48 ≤ p then p - 48 else p + (4294967296 - 48)
theorem rSub_eq {p : Nat} (h2 : p < 256) : nI (p + (4294967296 - 48)) = nI (rSub p) := by
  unfold rSub
  split
  · exact nI_wr (by omega) (by omega)
  · rfl
theorem rSub_lt {p : Nat} (h2 : p < 256) : rSub p < 4294967296 := by
  unfold rSub
  split <;> omega
theorem i64_nI (hi : Nat) (h : hi < 2147483648) : (nI hi).toInt64.toInt = (hi : Int) := by rw [nI_64, nI_sm h]

abbrev rX7_digit : Room := { frames := 1, cells := 0, slots := 0, locals := 25 }
theorem vy_X7_digit : vY yX7_digit wsX7_digit cX7_digit 3 (some .int) 1 := ⟨⟨_, rfl⟩, by decide +kernel, by decide +kernel, by decide +kernel⟩
theorem fl_X7_digit_106 : Cond.fieldLink RX7 106 "OrderChainsModel" "spot" "I" ∈ wsX7_digit := List.mem_of_getElem? (i := 1) rfl
theorem il_X7_digit_X7 : ∀ w ∈ wsX70, w ∈ wsX7_digit := fun _ h => List.mem_cons_of_mem _ (List.mem_append_right _ h)
theorem fl_X7_digit_99 : Cond.fieldLink RX7 99 "OrderChainsModel" "size" "I" ∈ wsX7_digit := List.mem_of_getElem? (i := 2) rfl
theorem fl_X7_digit_7 : Cond.fieldLink RX7 7 "OrderChainsModel" "text" "[I" ∈ wsX7_digit := List.mem_of_getElem? (i := 3) rfl
set_option maxHeartbeats 4000000 in
set_option maxRecDepth 100000 in
/-- digit -/
theorem c_X7_digit (l : Launch) (G : vG) (B z tx : Nat → Nat) (hi : Nat) (hh : hi < 10) (h1 : z 1 ≤ 140) (h2 : z 2 ≤ 140) (ht : ∀ k, k < 140 → tx k < 256) : Kc l G yX7_digit wsX7_digit rX7_digit [.ref (B 0), .int (nI hi)] [mO B z, iA G (B 1) 140 tx] (fun v Y => v = some (.int (nI (rDg hi z tx).1)) ∧ Y = [mO B (rDg hi z tx).2, iA G (B 1) 140 tx]) 0 0 := by
  refine V_enter (own := RX7) [some (.ref (B 0)), some (.int (nI hi)), none] (by decide +kernel) rfl rfl (Nat.le_of_ble_eq_true rfl) rfl (fun Γ hR hin => ?_)
  have hkc : 0 ≤ 0 := Nat.le_refl 0
  have hks : 0 ≤ 0 := Nat.le_refl 0
  refine V_aload_n (i := 0) dX7_digit_0 rfl rfl ?_
  refine V_get (C := RX7) (T := TX7) (N := 17) (ci := 6) (q := 0) (ref := "OrderChainsModel") 3 rfl il_X7_digit_X7 rfl rfl fl_X7_digit_106 rfl rfl dX7_digit_1 ?_
  refine V_aload_n (i := 0) dX7_digit_4 rfl rfl ?_
  refine V_get (C := RX7) (T := TX7) (N := 17) (ci := 6) (q := 0) (ref := "OrderChainsModel") 2 rfl il_X7_digit_X7 rfl rfl fl_X7_digit_99 rfl rfl dX7_digit_5 ?_
  refine V_icmp_ge (tgt := 26) (by omega) (by omega) dX7_digit_8 rfl (fun h_8 => ?_) (fun h_8 => ?_)
  · refine V_bipush (v := 4294967287) dX7_digit_26 (by decide) ?_
    refine V_istore_n (i := 2) dX7_digit_28 rfl rfl rfl ?_
    dsimp only [List.set_cons_zero, List.set_cons_succ]
    refine V_iload_n (i := 2) dX7_digit_29 rfl rfl ?_
    refine V_i2l dX7_digit_30 ?_
    refine V_lconst dX7_digit_31 rfl ?_
    refine V_iload_n (i := 1) dX7_digit_32 rfl rfl ?_
    refine V_i2l dX7_digit_33 ?_
    refine V_callS (As := _) (rest := []) [] (c_X7_inN l G 4294967287 0 hi _ _ (by decide) (i64_nI hi (by omega)) (by decide) (by omega)) vy_X7_in gX7_digit_X7_in rfl rfl rfl rfl ⟨rfl, rfl⟩ ⟨rfl, rfl⟩ ⟨Nat.zero_le _, Nat.zero_le _⟩ rfl dX7_digit_34 (fun v Y hE => ?_)
    obtain ⟨rfl, rfl⟩ := hE
    refine ⟨rfl, ?_⟩
    dsimp only [vfill, List.set_cons_zero, List.set_cons_succ, Option.toList, List.cons_append, List.nil_append, Nat.add_zero]
    refine V_if_ne (tgt := 43) (by split <;> decide) dX7_digit_37 rfl (fun h_37 => ?_) (fun h_37 => ?_)
    · refine V_aload_n (i := 0) dX7_digit_43 rfl rfl ?_
      refine V_dup dX7_digit_44 rfl ?_
      refine V_get (C := RX7) (T := TX7) (N := 17) (ci := 6) (q := 0) (ref := "OrderChainsModel") 3 rfl il_X7_digit_X7 rfl rfl fl_X7_digit_106 rfl rfl dX7_digit_45 ?_
      refine V_iconst (v := 1) dX7_digit_48 rfl ?_
      refine V_iadd dX7_digit_49 ?_
      refine V_put (C := RX7) (T := TX7) (N := 17) (ci := 6) (q := 0) (ref := "OrderChainsModel") (ty := .int) (ty0 := tyX7) 3 rfl il_X7_digit_X7 tyX7_ok nmX7 rfl rfl fl_X7_digit_106 rfl rfl rfl rfl rfl rfl dX7_digit_50 ?_
      dsimp only [List.set_cons_zero, List.set_cons_succ]
      refine V_iload_n (i := 2) dX7_digit_53 rfl rfl ?_
      refine V_iret hR dX7_digit_54 hkc hks ?_
      have q9 := b01 h_37
      first | (exfalso; omega) | (have g9 : z 2 < z 1 ∧ 48 ≤ tx (z 2) ∧ tx (z 2) ≤ 48 + hi := (by have y9 := ht (z 2) (by omega); unfold rSub at q9; split at q9 <;> omega); have f9 : rSub (tx (z 2)) = tx (z 2) - 48 := if_pos g9.2.1; have e9 : rDg hi z tx = (tx (z 2) - 48, va_up z 2 (z 2 + 1)) := if_pos g9; rw [e9, f9]; exact ⟨rfl, rfl⟩)
    · refine V_bipush (v := 4294967287) dX7_digit_40 (by decide) ?_
      refine V_iret hR dX7_digit_42 hkc hks ?_
      have q9 := b00 h_37
      unfold rDg
      rw [if_neg (fun y9 => by first | (unfold rSub at q9; split at q9 <;> omega) | omega)]
      exact ⟨rfl, rfl⟩
  · refine V_aload_n (i := 0) dX7_digit_11 rfl rfl ?_
    refine V_get (C := RX7) (T := TX7) (N := 17) (ci := 6) (q := 0) (ref := "OrderChainsModel") 1 rfl il_X7_digit_X7 rfl rfl fl_X7_digit_7 rfl rfl dX7_digit_12 ?_
    refine V_aload_n (i := 0) dX7_digit_15 rfl rfl ?_
    refine V_get (C := RX7) (T := TX7) (N := 17) (ci := 6) (q := 0) (ref := "OrderChainsModel") 3 rfl il_X7_digit_X7 rfl rfl fl_X7_digit_106 rfl rfl dX7_digit_16 ?_
    refine V_iald (q := 1) rfl (by omega) rfl dX7_digit_19 ?_
    refine V_bipush (v := 48) dX7_digit_20 (by decide) ?_
    refine V_isubW dX7_digit_22 (by omega) ?_
    rw [rSub_eq (ht (z 2) (by omega))]
    refine V_goto (tgt := 28) dX7_digit_23 rfl ?_
    refine V_istore_n (i := 2) dX7_digit_28 rfl rfl rfl ?_
    dsimp only [List.set_cons_zero, List.set_cons_succ]
    refine V_iload_n (i := 2) dX7_digit_29 rfl rfl ?_
    refine V_i2l dX7_digit_30 ?_
    refine V_lconst dX7_digit_31 rfl ?_
    refine V_iload_n (i := 1) dX7_digit_32 rfl rfl ?_
    refine V_i2l dX7_digit_33 ?_
    refine V_callS (As := _) (rest := []) [] (c_X7_inN l G (rSub (tx (z 2))) 0 hi _ _ (by decide) (i64_nI hi (by omega)) (rSub_lt (ht _ (by omega))) (by omega)) vy_X7_in gX7_digit_X7_in rfl rfl rfl rfl ⟨rfl, rfl⟩ ⟨rfl, rfl⟩ ⟨Nat.zero_le _, Nat.zero_le _⟩ rfl dX7_digit_34 (fun v Y hE => ?_)
    obtain ⟨rfl, rfl⟩ := hE
    refine ⟨rfl, ?_⟩
    dsimp only [vfill, List.set_cons_zero, List.set_cons_succ, Option.toList, List.cons_append, List.nil_append, Nat.add_zero]
    refine V_if_ne (tgt := 43) (by split <;> decide) dX7_digit_37 rfl (fun h_37 => ?_) (fun h_37 => ?_)
    · refine V_aload_n (i := 0) dX7_digit_43 rfl rfl ?_
      refine V_dup dX7_digit_44 rfl ?_
      refine V_get (C := RX7) (T := TX7) (N := 17) (ci := 6) (q := 0) (ref := "OrderChainsModel") 3 rfl il_X7_digit_X7 rfl rfl fl_X7_digit_106 rfl rfl dX7_digit_45 ?_
      refine V_iconst (v := 1) dX7_digit_48 rfl ?_
      refine V_iadd dX7_digit_49 ?_
      refine V_put (C := RX7) (T := TX7) (N := 17) (ci := 6) (q := 0) (ref := "OrderChainsModel") (ty := .int) (ty0 := tyX7) 3 rfl il_X7_digit_X7 tyX7_ok nmX7 rfl rfl fl_X7_digit_106 rfl rfl rfl rfl rfl rfl dX7_digit_50 ?_
      dsimp only [List.set_cons_zero, List.set_cons_succ]
      refine V_iload_n (i := 2) dX7_digit_53 rfl rfl ?_
      refine V_iret hR dX7_digit_54 hkc hks ?_
      have q9 := b01 h_37
      first | (exfalso; omega) | (have g9 : z 2 < z 1 ∧ 48 ≤ tx (z 2) ∧ tx (z 2) ≤ 48 + hi := (by have y9 := ht (z 2) (by omega); unfold rSub at q9; split at q9 <;> omega); have f9 : rSub (tx (z 2)) = tx (z 2) - 48 := if_pos g9.2.1; have e9 : rDg hi z tx = (tx (z 2) - 48, va_up z 2 (z 2 + 1)) := if_pos g9; rw [e9, f9]; exact ⟨rfl, rfl⟩)
    · refine V_bipush (v := 4294967287) dX7_digit_40 (by decide) ?_
      refine V_iret hR dX7_digit_42 hkc hks ?_
      have q9 := b00 h_37
      unfold rDg
      rw [if_neg (fun y9 => by first | (unfold rSub at q9; split at q9 <;> omega) | omega)]
      exact ⟨rfl, rfl⟩

end REF13
