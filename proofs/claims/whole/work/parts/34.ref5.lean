section REF5
def rCs (s : Nat) (g : Nat → Nat) : Nat := vsum (fun h => if g (384 + 13 * h) = s then 1 else 0) 3
def rOwF (c m o : Nat) (g : Nat → Nat) : Nat → Nat := fun j => if 96 + c ≤ j ∧ j < 96 + m then o else g j
def rOwN (c m o : Nat) (g : Nat → Nat) : Nat := gvN c m o (fun k => g (96 + k))
theorem rOw_t (b c o : Nat) (g : Nat → Nat) (h : b ≤ c) : va_up (rOwF b c o g) (96 + c) o = rOwF b (c + 1) o g := by
  funext k
  unfold va_up rOwF
  by_cases e : k = 96 + c
  · rw [if_pos e, if_pos (by omega)]
  · rw [if_neg e]
    by_cases h2 : 96 + b ≤ k ∧ k < 96 + c
    · rw [if_pos h2, if_pos (by omega)]
    · rw [if_neg h2, if_neg (by omega)]
theorem rOw_at (b c o : Nat) (g : Nat → Nat) : rOwF b c o g (96 + c) = g (96 + c) := by
  unfold rOwF
  rw [if_neg (by omega)]
theorem rOw_0 (b o : Nat) (g : Nat → Nat) : rOwF b b o g = g := by
  funext k
  unfold rOwF
  rw [if_neg (by omega)]
def rSo (h : Nat) (g : Nat → Nat) : Nat := if 1 ≤ g (384 + 13 * h + 4) ∧ g (384 + 13 * h + 4) ≤ 5 then g (384 + 13 * h + 7) - g (384 + 13 * h + 10) else 0
def rCell (g : Nat → Nat) (p w : Nat) : Nat := if w < 3 then g (96 * w + p) else if g (96 * w + p) = 0 then 4294967287 else g (96 * w + p) - 1
def rChan (g : Nat → Nat) (h w : Nat) : Nat :=
  if w = 0 then g (384 + 13 * h) else if w = 1 then g (384 + 13 * h + 1) else if w = 2 then (if g (384 + 13 * h) = 3 then g (384 + 13 * h + 2) else 4294967287)
  else if w = 3 then (if 0 < g (384 + 13 * h + 4) then g (384 + 13 * h + 3) else 4294967287) else if w = 4 then (if 0 < g (384 + 13 * h + 4) then g (384 + 13 * h + 4) else 4294967287)
  else if w = 5 then (if 0 < g (384 + 13 * h + 4) then g (384 + 13 * h + 10) else 0) else if w = 6 then g (384 + 13 * h + 11) else g (384 + 13 * h + 12)

abbrev rX7_channels : Room := { frames := 1, cells := 0, slots := 0, locals := 20 }
theorem vy_X7_channels : vY yX7_channels wsX7_channels cX7_channels 4 (some .int) 2 := ⟨⟨_, rfl⟩, by decide +kernel, by decide +kernel, by decide +kernel⟩
set_option maxHeartbeats 4000000 in
set_option maxRecDepth 100000 in
/-- channels -/
theorem c_X7_channels (l : Launch) (G : vG) (a : Nat) (g : Nat → Nat) (c : Nat) (hc : c < 4) (hs : ∀ h, h < 3 → g (384 + 13 * h) < 4) : Kc l G yX7_channels wsX7_channels rX7_channels [.ref a, .int (nI c)] [iA G a 427 g] (fun v Y => v = some (.int (nI (rCs c g))) ∧ Y = [iA G a 427 g]) 0 0 := by
  refine V_enter (own := RX7) [some (.ref a), some (.int (nI c)), none, none] (by decide +kernel) rfl rfl (Nat.le_of_ble_eq_true rfl) rfl (fun Γ hR hin => ?_)
  have hkc : 0 ≤ 0 := Nat.le_refl 0
  have hks : 0 ≤ 0 := Nat.le_refl 0
  refine V_iconst (v := 0) dX7_channels_0 rfl ?_
  refine V_istore_n (i := 2) dX7_channels_1 rfl rfl rfl ?_
  dsimp only [List.set_cons_zero, List.set_cons_succ]
  refine V_iconst (v := 0) dX7_channels_2 rfl ?_
  refine V_istore_n (i := 3) dX7_channels_3 rfl rfl rfl ?_
  dsimp only [List.set_cons_zero, List.set_cons_succ]
  refine V_iload_n (i := 3) dX7_channels_4 rfl rfl ?_
  refine V_iconst (v := 3) dX7_channels_5 rfl ?_
  refine V_icmp_ge (tgt := 33) (by omega) (by omega) dX7_channels_6 rfl (fun h_6 => ?_) (fun h_6 => ?_)
  · exfalso; omega
  · refine V_iload_n (i := 2) dX7_channels_9 rfl rfl ?_
    refine V_aload_n (i := 0) dX7_channels_10 rfl rfl ?_
    refine V_iload_n (i := 3) dX7_channels_11 rfl rfl ?_
    refine V_callS (As := _) (rest := _) [] (c_X7_at l G (0)) vy_X7_at gX7_channels_X7_at rfl rfl rfl rfl ⟨rfl, rfl⟩ ⟨rfl, rfl⟩ ⟨Nat.zero_le _, Nat.zero_le _⟩ rfl dX7_channels_12 (fun v Y hE => ?_)
    obtain ⟨rfl, rfl⟩ := hE
    refine ⟨rfl, ?_⟩
    dsimp only [vfill, List.set_cons_zero, List.set_cons_succ, Option.toList, List.cons_append, List.nil_append, Nat.add_zero]
    refine V_iald (q := 0) rfl (by omega) rfl dX7_channels_15 ?_
    refine V_iload_n (i := 1) dX7_channels_16 rfl rfl ?_
    refine V_icmp_ne (tgt := 24) (by have h0 := hs 0 (by decide); have h1 := hs 1 (by decide); have h2 := hs 2 (by decide); omega) (by omega) dX7_channels_17 rfl (fun h_17 => ?_) (fun h_17 => ?_)
    · refine V_iconst (v := 0) dX7_channels_24 rfl ?_
      refine V_iadd dX7_channels_25 ?_
      refine V_top (b := 0) (by omega) ?_
      refine V_istore_n (i := 2) dX7_channels_26 rfl rfl rfl ?_
      dsimp only [List.set_cons_zero, List.set_cons_succ]
      refine V_iinc (v := 1) dX7_channels_27 rfl (by decide) rfl rfl ?_
      dsimp only [List.set_cons_zero, List.set_cons_succ]
      refine V_goto (tgt := 4) dX7_channels_30 rfl ?_
      refine V_iload_n (i := 3) dX7_channels_4 rfl rfl ?_
      refine V_iconst (v := 3) dX7_channels_5 rfl ?_
      refine V_icmp_ge (tgt := 33) (by omega) (by omega) dX7_channels_6 rfl (fun h_6_2 => ?_) (fun h_6_2 => ?_)
      · exfalso; omega
      · refine V_iload_n (i := 2) dX7_channels_9 rfl rfl ?_
        refine V_aload_n (i := 0) dX7_channels_10 rfl rfl ?_
        refine V_iload_n (i := 3) dX7_channels_11 rfl rfl ?_
        refine V_callS (As := _) (rest := _) [] (c_X7_at l G (1)) vy_X7_at gX7_channels_X7_at rfl rfl rfl rfl ⟨rfl, rfl⟩ ⟨rfl, rfl⟩ ⟨Nat.zero_le _, Nat.zero_le _⟩ rfl dX7_channels_12 (fun v Y hE => ?_)
        obtain ⟨rfl, rfl⟩ := hE
        refine ⟨rfl, ?_⟩
        dsimp only [vfill, List.set_cons_zero, List.set_cons_succ, Option.toList, List.cons_append, List.nil_append, Nat.add_zero]
        refine V_iald (q := 0) rfl (by omega) rfl dX7_channels_15 ?_
        refine V_iload_n (i := 1) dX7_channels_16 rfl rfl ?_
        refine V_icmp_ne (tgt := 24) (by have h0 := hs 0 (by decide); have h1 := hs 1 (by decide); have h2 := hs 2 (by decide); omega) (by omega) dX7_channels_17 rfl (fun h_17_2 => ?_) (fun h_17_2 => ?_)
        · refine V_iconst (v := 0) dX7_channels_24 rfl ?_
          refine V_iadd dX7_channels_25 ?_
          refine V_top (b := 0) (by omega) ?_
          refine V_istore_n (i := 2) dX7_channels_26 rfl rfl rfl ?_
          dsimp only [List.set_cons_zero, List.set_cons_succ]
          refine V_iinc (v := 2) dX7_channels_27 rfl (by decide) rfl rfl ?_
          dsimp only [List.set_cons_zero, List.set_cons_succ]
          refine V_goto (tgt := 4) dX7_channels_30 rfl ?_
          refine V_iload_n (i := 3) dX7_channels_4 rfl rfl ?_
          refine V_iconst (v := 3) dX7_channels_5 rfl ?_
          refine V_icmp_ge (tgt := 33) (by omega) (by omega) dX7_channels_6 rfl (fun h_6_3 => ?_) (fun h_6_3 => ?_)
          · exfalso; omega
          · refine V_iload_n (i := 2) dX7_channels_9 rfl rfl ?_
            refine V_aload_n (i := 0) dX7_channels_10 rfl rfl ?_
            refine V_iload_n (i := 3) dX7_channels_11 rfl rfl ?_
            refine V_callS (As := _) (rest := _) [] (c_X7_at l G (2)) vy_X7_at gX7_channels_X7_at rfl rfl rfl rfl ⟨rfl, rfl⟩ ⟨rfl, rfl⟩ ⟨Nat.zero_le _, Nat.zero_le _⟩ rfl dX7_channels_12 (fun v Y hE => ?_)
            obtain ⟨rfl, rfl⟩ := hE
            refine ⟨rfl, ?_⟩
            dsimp only [vfill, List.set_cons_zero, List.set_cons_succ, Option.toList, List.cons_append, List.nil_append, Nat.add_zero]
            refine V_iald (q := 0) rfl (by omega) rfl dX7_channels_15 ?_
            refine V_iload_n (i := 1) dX7_channels_16 rfl rfl ?_
            refine V_icmp_ne (tgt := 24) (by have h0 := hs 0 (by decide); have h1 := hs 1 (by decide); have h2 := hs 2 (by decide); omega) (by omega) dX7_channels_17 rfl (fun h_17_3 => ?_) (fun h_17_3 => ?_)
            · refine V_iconst (v := 0) dX7_channels_24 rfl ?_
              refine V_iadd dX7_channels_25 ?_
              refine V_top (b := 0) (by omega) ?_
              refine V_istore_n (i := 2) dX7_channels_26 rfl rfl rfl ?_
              dsimp only [List.set_cons_zero, List.set_cons_succ]
              refine V_iinc (v := 3) dX7_channels_27 rfl (by decide) rfl rfl ?_
              dsimp only [List.set_cons_zero, List.set_cons_succ]
              refine V_goto (tgt := 4) dX7_channels_30 rfl ?_
              refine V_iload_n (i := 3) dX7_channels_4 rfl rfl ?_
              refine V_iconst (v := 3) dX7_channels_5 rfl ?_
              refine V_icmp_ge (tgt := 33) (by omega) (by omega) dX7_channels_6 rfl (fun h_6_4 => ?_) (fun h_6_4 => ?_)
              · refine V_iload_n (i := 2) dX7_channels_33 rfl rfl ?_
                refine V_iret hR dX7_channels_34 hkc hks ?_
                refine ⟨?_, rfl⟩
                unfold rCs
                simp [vsum, h_17, h_17_2, h_17_3]
              · exfalso; omega
            · refine V_iconst (v := 1) dX7_channels_20 rfl ?_
              refine V_goto (tgt := 25) dX7_channels_21 rfl ?_
              refine V_iadd dX7_channels_25 ?_
              refine V_top (b := 1) (by omega) ?_
              refine V_istore_n (i := 2) dX7_channels_26 rfl rfl rfl ?_
              dsimp only [List.set_cons_zero, List.set_cons_succ]
              refine V_iinc (v := 3) dX7_channels_27 rfl (by decide) rfl rfl ?_
              dsimp only [List.set_cons_zero, List.set_cons_succ]
              refine V_goto (tgt := 4) dX7_channels_30 rfl ?_
              refine V_iload_n (i := 3) dX7_channels_4 rfl rfl ?_
              refine V_iconst (v := 3) dX7_channels_5 rfl ?_
              refine V_icmp_ge (tgt := 33) (by omega) (by omega) dX7_channels_6 rfl (fun h_6_4 => ?_) (fun h_6_4 => ?_)
              · refine V_iload_n (i := 2) dX7_channels_33 rfl rfl ?_
                refine V_iret hR dX7_channels_34 hkc hks ?_
                refine ⟨?_, rfl⟩
                unfold rCs
                simp [vsum, h_17, h_17_2, h_17_3]
              · exfalso; omega
        · refine V_iconst (v := 1) dX7_channels_20 rfl ?_
          refine V_goto (tgt := 25) dX7_channels_21 rfl ?_
          refine V_iadd dX7_channels_25 ?_
          refine V_top (b := 1) (by omega) ?_
          refine V_istore_n (i := 2) dX7_channels_26 rfl rfl rfl ?_
          dsimp only [List.set_cons_zero, List.set_cons_succ]
          refine V_iinc (v := 2) dX7_channels_27 rfl (by decide) rfl rfl ?_
          dsimp only [List.set_cons_zero, List.set_cons_succ]
          refine V_goto (tgt := 4) dX7_channels_30 rfl ?_
          refine V_iload_n (i := 3) dX7_channels_4 rfl rfl ?_
          refine V_iconst (v := 3) dX7_channels_5 rfl ?_
          refine V_icmp_ge (tgt := 33) (by omega) (by omega) dX7_channels_6 rfl (fun h_6_3 => ?_) (fun h_6_3 => ?_)
          · exfalso; omega
          · refine V_iload_n (i := 2) dX7_channels_9 rfl rfl ?_
            refine V_aload_n (i := 0) dX7_channels_10 rfl rfl ?_
            refine V_iload_n (i := 3) dX7_channels_11 rfl rfl ?_
            refine V_callS (As := _) (rest := _) [] (c_X7_at l G (2)) vy_X7_at gX7_channels_X7_at rfl rfl rfl rfl ⟨rfl, rfl⟩ ⟨rfl, rfl⟩ ⟨Nat.zero_le _, Nat.zero_le _⟩ rfl dX7_channels_12 (fun v Y hE => ?_)
            obtain ⟨rfl, rfl⟩ := hE
            refine ⟨rfl, ?_⟩
            dsimp only [vfill, List.set_cons_zero, List.set_cons_succ, Option.toList, List.cons_append, List.nil_append, Nat.add_zero]
            refine V_iald (q := 0) rfl (by omega) rfl dX7_channels_15 ?_
            refine V_iload_n (i := 1) dX7_channels_16 rfl rfl ?_
            refine V_icmp_ne (tgt := 24) (by have h0 := hs 0 (by decide); have h1 := hs 1 (by decide); have h2 := hs 2 (by decide); omega) (by omega) dX7_channels_17 rfl (fun h_17_3 => ?_) (fun h_17_3 => ?_)
            · refine V_iconst (v := 0) dX7_channels_24 rfl ?_
              refine V_iadd dX7_channels_25 ?_
              refine V_top (b := 1) (by omega) ?_
              refine V_istore_n (i := 2) dX7_channels_26 rfl rfl rfl ?_
              dsimp only [List.set_cons_zero, List.set_cons_succ]
              refine V_iinc (v := 3) dX7_channels_27 rfl (by decide) rfl rfl ?_
              dsimp only [List.set_cons_zero, List.set_cons_succ]
              refine V_goto (tgt := 4) dX7_channels_30 rfl ?_
              refine V_iload_n (i := 3) dX7_channels_4 rfl rfl ?_
              refine V_iconst (v := 3) dX7_channels_5 rfl ?_
              refine V_icmp_ge (tgt := 33) (by omega) (by omega) dX7_channels_6 rfl (fun h_6_4 => ?_) (fun h_6_4 => ?_)
              · refine V_iload_n (i := 2) dX7_channels_33 rfl rfl ?_
                refine V_iret hR dX7_channels_34 hkc hks ?_
                refine ⟨?_, rfl⟩
                unfold rCs
                simp [vsum, h_17, h_17_2, h_17_3]
              · exfalso; omega
            · refine V_iconst (v := 1) dX7_channels_20 rfl ?_
              refine V_goto (tgt := 25) dX7_channels_21 rfl ?_
              refine V_iadd dX7_channels_25 ?_
              refine V_top (b := 2) (by omega) ?_
              refine V_istore_n (i := 2) dX7_channels_26 rfl rfl rfl ?_
              dsimp only [List.set_cons_zero, List.set_cons_succ]
              refine V_iinc (v := 3) dX7_channels_27 rfl (by decide) rfl rfl ?_
              dsimp only [List.set_cons_zero, List.set_cons_succ]
              refine V_goto (tgt := 4) dX7_channels_30 rfl ?_
              refine V_iload_n (i := 3) dX7_channels_4 rfl rfl ?_
              refine V_iconst (v := 3) dX7_channels_5 rfl ?_
              refine V_icmp_ge (tgt := 33) (by omega) (by omega) dX7_channels_6 rfl (fun h_6_4 => ?_) (fun h_6_4 => ?_)
              · refine V_iload_n (i := 2) dX7_channels_33 rfl rfl ?_
                refine V_iret hR dX7_channels_34 hkc hks ?_
                refine ⟨?_, rfl⟩
                unfold rCs
                simp [vsum, h_17, h_17_2, h_17_3]
              · exfalso; omega
    · refine V_iconst (v := 1) dX7_channels_20 rfl ?_
      refine V_goto (tgt := 25) dX7_channels_21 rfl ?_
      refine V_iadd dX7_channels_25 ?_
      refine V_top (b := 1) (by omega) ?_
      refine V_istore_n (i := 2) dX7_channels_26 rfl rfl rfl ?_
      dsimp only [List.set_cons_zero, List.set_cons_succ]
      refine V_iinc (v := 1) dX7_channels_27 rfl (by decide) rfl rfl ?_
      dsimp only [List.set_cons_zero, List.set_cons_succ]
      refine V_goto (tgt := 4) dX7_channels_30 rfl ?_
      refine V_iload_n (i := 3) dX7_channels_4 rfl rfl ?_
      refine V_iconst (v := 3) dX7_channels_5 rfl ?_
      refine V_icmp_ge (tgt := 33) (by omega) (by omega) dX7_channels_6 rfl (fun h_6_2 => ?_) (fun h_6_2 => ?_)
      · exfalso; omega
      · refine V_iload_n (i := 2) dX7_channels_9 rfl rfl ?_
        refine V_aload_n (i := 0) dX7_channels_10 rfl rfl ?_
        refine V_iload_n (i := 3) dX7_channels_11 rfl rfl ?_
        refine V_callS (As := _) (rest := _) [] (c_X7_at l G (1)) vy_X7_at gX7_channels_X7_at rfl rfl rfl rfl ⟨rfl, rfl⟩ ⟨rfl, rfl⟩ ⟨Nat.zero_le _, Nat.zero_le _⟩ rfl dX7_channels_12 (fun v Y hE => ?_)
        obtain ⟨rfl, rfl⟩ := hE
        refine ⟨rfl, ?_⟩
        dsimp only [vfill, List.set_cons_zero, List.set_cons_succ, Option.toList, List.cons_append, List.nil_append, Nat.add_zero]
        refine V_iald (q := 0) rfl (by omega) rfl dX7_channels_15 ?_
        refine V_iload_n (i := 1) dX7_channels_16 rfl rfl ?_
        refine V_icmp_ne (tgt := 24) (by have h0 := hs 0 (by decide); have h1 := hs 1 (by decide); have h2 := hs 2 (by decide); omega) (by omega) dX7_channels_17 rfl (fun h_17_2 => ?_) (fun h_17_2 => ?_)
        · refine V_iconst (v := 0) dX7_channels_24 rfl ?_
          refine V_iadd dX7_channels_25 ?_
          refine V_top (b := 1) (by omega) ?_
          refine V_istore_n (i := 2) dX7_channels_26 rfl rfl rfl ?_
          dsimp only [List.set_cons_zero, List.set_cons_succ]
          refine V_iinc (v := 2) dX7_channels_27 rfl (by decide) rfl rfl ?_
          dsimp only [List.set_cons_zero, List.set_cons_succ]
          refine V_goto (tgt := 4) dX7_channels_30 rfl ?_
          refine V_iload_n (i := 3) dX7_channels_4 rfl rfl ?_
          refine V_iconst (v := 3) dX7_channels_5 rfl ?_
          refine V_icmp_ge (tgt := 33) (by omega) (by omega) dX7_channels_6 rfl (fun h_6_3 => ?_) (fun h_6_3 => ?_)
          · exfalso; omega
          · refine V_iload_n (i := 2) dX7_channels_9 rfl rfl ?_
            refine V_aload_n (i := 0) dX7_channels_10 rfl rfl ?_
            refine V_iload_n (i := 3) dX7_channels_11 rfl rfl ?_
            refine V_callS (As := _) (rest := _) [] (c_X7_at l G (2)) vy_X7_at gX7_channels_X7_at rfl rfl rfl rfl ⟨rfl, rfl⟩ ⟨rfl, rfl⟩ ⟨Nat.zero_le _, Nat.zero_le _⟩ rfl dX7_channels_12 (fun v Y hE => ?_)
            obtain ⟨rfl, rfl⟩ := hE
            refine ⟨rfl, ?_⟩
            dsimp only [vfill, List.set_cons_zero, List.set_cons_succ, Option.toList, List.cons_append, List.nil_append, Nat.add_zero]
            refine V_iald (q := 0) rfl (by omega) rfl dX7_channels_15 ?_
            refine V_iload_n (i := 1) dX7_channels_16 rfl rfl ?_
            refine V_icmp_ne (tgt := 24) (by have h0 := hs 0 (by decide); have h1 := hs 1 (by decide); have h2 := hs 2 (by decide); omega) (by omega) dX7_channels_17 rfl (fun h_17_3 => ?_) (fun h_17_3 => ?_)
            · refine V_iconst (v := 0) dX7_channels_24 rfl ?_
              refine V_iadd dX7_channels_25 ?_
              refine V_top (b := 1) (by omega) ?_
              refine V_istore_n (i := 2) dX7_channels_26 rfl rfl rfl ?_
              dsimp only [List.set_cons_zero, List.set_cons_succ]
              refine V_iinc (v := 3) dX7_channels_27 rfl (by decide) rfl rfl ?_
              dsimp only [List.set_cons_zero, List.set_cons_succ]
              refine V_goto (tgt := 4) dX7_channels_30 rfl ?_
              refine V_iload_n (i := 3) dX7_channels_4 rfl rfl ?_
              refine V_iconst (v := 3) dX7_channels_5 rfl ?_
              refine V_icmp_ge (tgt := 33) (by omega) (by omega) dX7_channels_6 rfl (fun h_6_4 => ?_) (fun h_6_4 => ?_)
              · refine V_iload_n (i := 2) dX7_channels_33 rfl rfl ?_
                refine V_iret hR dX7_channels_34 hkc hks ?_
                refine ⟨?_, rfl⟩
                unfold rCs
                simp [vsum, h_17, h_17_2, h_17_3]
              · exfalso; omega
            · refine V_iconst (v := 1) dX7_channels_20 rfl ?_
              refine V_goto (tgt := 25) dX7_channels_21 rfl ?_
              refine V_iadd dX7_channels_25 ?_
              refine V_top (b := 2) (by omega) ?_
              refine V_istore_n (i := 2) dX7_channels_26 rfl rfl rfl ?_
              dsimp only [List.set_cons_zero, List.set_cons_succ]
              refine V_iinc (v := 3) dX7_channels_27 rfl (by decide) rfl rfl ?_
              dsimp only [List.set_cons_zero, List.set_cons_succ]
              refine V_goto (tgt := 4) dX7_channels_30 rfl ?_
              refine V_iload_n (i := 3) dX7_channels_4 rfl rfl ?_
              refine V_iconst (v := 3) dX7_channels_5 rfl ?_
              refine V_icmp_ge (tgt := 33) (by omega) (by omega) dX7_channels_6 rfl (fun h_6_4 => ?_) (fun h_6_4 => ?_)
              · refine V_iload_n (i := 2) dX7_channels_33 rfl rfl ?_
                refine V_iret hR dX7_channels_34 hkc hks ?_
                refine ⟨?_, rfl⟩
                unfold rCs
                simp [vsum, h_17, h_17_2, h_17_3]
              · exfalso; omega
        · refine V_iconst (v := 1) dX7_channels_20 rfl ?_
          refine V_goto (tgt := 25) dX7_channels_21 rfl ?_
          refine V_iadd dX7_channels_25 ?_
          refine V_top (b := 2) (by omega) ?_
          refine V_istore_n (i := 2) dX7_channels_26 rfl rfl rfl ?_
          dsimp only [List.set_cons_zero, List.set_cons_succ]
          refine V_iinc (v := 2) dX7_channels_27 rfl (by decide) rfl rfl ?_
          dsimp only [List.set_cons_zero, List.set_cons_succ]
          refine V_goto (tgt := 4) dX7_channels_30 rfl ?_
          refine V_iload_n (i := 3) dX7_channels_4 rfl rfl ?_
          refine V_iconst (v := 3) dX7_channels_5 rfl ?_
          refine V_icmp_ge (tgt := 33) (by omega) (by omega) dX7_channels_6 rfl (fun h_6_3 => ?_) (fun h_6_3 => ?_)
          · exfalso; omega
          · refine V_iload_n (i := 2) dX7_channels_9 rfl rfl ?_
            refine V_aload_n (i := 0) dX7_channels_10 rfl rfl ?_
            refine V_iload_n (i := 3) dX7_channels_11 rfl rfl ?_
            refine V_callS (As := _) (rest := _) [] (c_X7_at l G (2)) vy_X7_at gX7_channels_X7_at rfl rfl rfl rfl ⟨rfl, rfl⟩ ⟨rfl, rfl⟩ ⟨Nat.zero_le _, Nat.zero_le _⟩ rfl dX7_channels_12 (fun v Y hE => ?_)
            obtain ⟨rfl, rfl⟩ := hE
            refine ⟨rfl, ?_⟩
            dsimp only [vfill, List.set_cons_zero, List.set_cons_succ, Option.toList, List.cons_append, List.nil_append, Nat.add_zero]
            refine V_iald (q := 0) rfl (by omega) rfl dX7_channels_15 ?_
            refine V_iload_n (i := 1) dX7_channels_16 rfl rfl ?_
            refine V_icmp_ne (tgt := 24) (by have h0 := hs 0 (by decide); have h1 := hs 1 (by decide); have h2 := hs 2 (by decide); omega) (by omega) dX7_channels_17 rfl (fun h_17_3 => ?_) (fun h_17_3 => ?_)
            · refine V_iconst (v := 0) dX7_channels_24 rfl ?_
              refine V_iadd dX7_channels_25 ?_
              refine V_top (b := 2) (by omega) ?_
              refine V_istore_n (i := 2) dX7_channels_26 rfl rfl rfl ?_
              dsimp only [List.set_cons_zero, List.set_cons_succ]
              refine V_iinc (v := 3) dX7_channels_27 rfl (by decide) rfl rfl ?_
              dsimp only [List.set_cons_zero, List.set_cons_succ]
              refine V_goto (tgt := 4) dX7_channels_30 rfl ?_
              refine V_iload_n (i := 3) dX7_channels_4 rfl rfl ?_
              refine V_iconst (v := 3) dX7_channels_5 rfl ?_
              refine V_icmp_ge (tgt := 33) (by omega) (by omega) dX7_channels_6 rfl (fun h_6_4 => ?_) (fun h_6_4 => ?_)
              · refine V_iload_n (i := 2) dX7_channels_33 rfl rfl ?_
                refine V_iret hR dX7_channels_34 hkc hks ?_
                refine ⟨?_, rfl⟩
                unfold rCs
                simp [vsum, h_17, h_17_2, h_17_3]
              · exfalso; omega
            · refine V_iconst (v := 1) dX7_channels_20 rfl ?_
              refine V_goto (tgt := 25) dX7_channels_21 rfl ?_
              refine V_iadd dX7_channels_25 ?_
              refine V_top (b := 3) (by omega) ?_
              refine V_istore_n (i := 2) dX7_channels_26 rfl rfl rfl ?_
              dsimp only [List.set_cons_zero, List.set_cons_succ]
              refine V_iinc (v := 3) dX7_channels_27 rfl (by decide) rfl rfl ?_
              dsimp only [List.set_cons_zero, List.set_cons_succ]
              refine V_goto (tgt := 4) dX7_channels_30 rfl ?_
              refine V_iload_n (i := 3) dX7_channels_4 rfl rfl ?_
              refine V_iconst (v := 3) dX7_channels_5 rfl ?_
              refine V_icmp_ge (tgt := 33) (by omega) (by omega) dX7_channels_6 rfl (fun h_6_4 => ?_) (fun h_6_4 => ?_)
              · refine V_iload_n (i := 2) dX7_channels_33 rfl rfl ?_
                refine V_iret hR dX7_channels_34 hkc hks ?_
                refine ⟨?_, rfl⟩
                unfold rCs
                simp [vsum, h_17, h_17_2, h_17_3]
              · exfalso; omega

abbrev rX7_sum : Room := { frames := 0, cells := 0, slots := 0, locals := 0 }
theorem vy_X7_sum : vY yX7_sum wsX7_sum cX7_sum 4 (some .int) 2 := ⟨⟨_, rfl⟩, by decide +kernel, by decide +kernel, by decide +kernel⟩
set_option maxHeartbeats 4000000 in
set_option maxRecDepth 100000 in
/-- sum -/
theorem c_X7_sum (l : Launch) (G : vG) (a : Nat) (g : Nat → Nat) (f : Nat) (hf9 : f < 300) : Kc l G yX7_sum wsX7_sum rX7_sum [.ref a, .int (nI f)] [iA G a 427 g] (fun v Y => v = some (.int (nI (vsum (fun k => g (f + k)) 96))) ∧ Y = [iA G a 427 g]) 0 0 := by
  refine V_enter (own := RX7) [some (.ref a), some (.int (nI f)), none, none] (by decide +kernel) rfl rfl (Nat.le_of_ble_eq_true rfl) rfl (fun Γ hR hin => ?_)
  have hkc : 0 ≤ 0 := Nat.le_refl 0
  have hks : 0 ≤ 0 := Nat.le_refl 0
  have LP4 : ∀ (fuel : Nat) (c : Nat), 97 ≤ c + fuel → c ≤ 96 → V l G (cX7_sum, 4, wsX7_sum, RX7, rX7_sum) Γ 0 0 4 [some (.ref a), some (.int (nI f)), some (.int (nI (vsum (fun k => g (f + k)) c))), some (.int (nI c))] [] [iA G a 427 g] := by
    intro fuel
    induction fuel with
    | zero => intro c hf hc; exact absurd hf (by omega)
    | succ fuel ih =>
      intro c hf hc
      refine V_iload_n (i := 3) dX7_sum_4 rfl rfl ?_
      refine V_bipush (v := 96) dX7_sum_5 (by decide) ?_
      refine V_icmp_ge (tgt := 24) (by omega) (by omega) dX7_sum_7 rfl (fun h_7 => ?_) (fun h_7 => ?_)
      · refine V_iload_n (i := 2) dX7_sum_24 rfl rfl ?_
        refine V_iret hR dX7_sum_25 hkc hks ?_
        exact ⟨by rw [show c = 96 by omega], rfl⟩
      · refine V_iload_n (i := 2) dX7_sum_10 rfl rfl ?_
        refine V_aload_n (i := 0) dX7_sum_11 rfl rfl ?_
        refine V_iload_n (i := 1) dX7_sum_12 rfl rfl ?_
        refine V_iload_n (i := 3) dX7_sum_13 rfl rfl ?_
        refine V_iadd dX7_sum_14 ?_
        refine V_iald (q := 0) rfl (by omega) rfl dX7_sum_15 ?_
        refine V_iadd dX7_sum_16 ?_
        refine V_istore_n (i := 2) dX7_sum_17 rfl rfl rfl ?_
        dsimp only [List.set_cons_zero, List.set_cons_succ]
        refine V_iinc dX7_sum_18 rfl (nI_1 _) rfl rfl ?_
        dsimp only [List.set_cons_zero, List.set_cons_succ]
        refine V_goto (tgt := 4) dX7_sum_21 rfl ?_
        exact ih (c + 1) (by omega) (by omega)
  refine V_iconst (v := 0) dX7_sum_0 rfl ?_
  refine V_istore_n (i := 2) dX7_sum_1 rfl rfl rfl ?_
  dsimp only [List.set_cons_zero, List.set_cons_succ]
  refine V_iconst (v := 0) dX7_sum_2 rfl ?_
  refine V_istore_n (i := 3) dX7_sum_3 rfl rfl rfl ?_
  dsimp only [List.set_cons_zero, List.set_cons_succ]
  exact LP4 97 0 (by omega) (by omega)

abbrev rX7_ownOn : Room := { frames := 0, cells := 0, slots := 0, locals := 0 }
theorem vy_X7_ownOn : vY yX7_ownOn wsX7_ownOn cX7_ownOn 6 (some .int) 4 := ⟨⟨_, rfl⟩, by decide +kernel, by decide +kernel, by decide +kernel⟩
set_option maxHeartbeats 4000000 in
set_option maxRecDepth 100000 in
/-- ownOn -/
theorem c_X7_ownOn (l : Launch) (G : vG) (a : Nat) (g : Nat → Nat) (c n o : Nat) (hc : c < 96) (hn : n < 97) (ho : o < 4) (hw : ∀ k, k < 96 → g (96 + k) < 4) : Kc l G yX7_ownOn wsX7_ownOn rX7_ownOn [.ref a, .int (nI c), .int (nI n), .int (nI o)] [iA G a 427 g] (fun v Y => v = some (.int (nI (rOwN c (sm c n) o g))) ∧ Y = [iA G a 427 (rOwF c (sm c n) o g)]) 0 0 := by
  refine V_enter (own := RX7) [some (.ref a), some (.int (nI c)), some (.int (nI n)), some (.int (nI o)), none, none] (by decide +kernel) rfl rfl (Nat.le_of_ble_eq_true rfl) rfl (fun Γ hR hin => ?_)
  have hkc : 0 ≤ 0 := Nat.le_refl 0
  have hks : 0 ≤ 0 := Nat.le_refl 0
  have LP6 : ∀ (fuel : Nat) (k : Nat), c + 97 ≤ k + fuel → c ≤ k → k ≤ 96 → k ≤ c + n → V l G (cX7_ownOn, 6, wsX7_ownOn, RX7, rX7_ownOn) Γ 0 0 6 [some (.ref a), some (.int (nI c)), some (.int (nI n)), some (.int (nI o)), some (.int (nI (rOwN c k o g))), some (.int (nI k))] [] [iA G a 427 (rOwF c k o g)] := by
    intro fuel
    induction fuel with
    | zero => intro k hf h1 h2 h3; exact absurd hf (by omega)
    | succ fuel ih =>
      intro k hf h1 h2 h3
      refine V_iload (i := 5) dX7_ownOn_6 rfl ?_
      refine V_iload_n (i := 1) dX7_ownOn_8 rfl rfl ?_
      refine V_iload_n (i := 2) dX7_ownOn_9 rfl rfl ?_
      refine V_iadd dX7_ownOn_10 ?_
      refine V_icmp_ge (tgt := 56) (by omega) (by omega) dX7_ownOn_11 rfl (fun h_11 => ?_) (fun h_11 => ?_)
      · refine V_iload (i := 4) dX7_ownOn_56 rfl ?_
        refine V_iret hR dX7_ownOn_58 hkc hks ?_
        first | (rw [show sm c n = k by (unfold sm; split <;> omega)]; exact ⟨rfl, rfl⟩)
      · refine V_iload (i := 5) dX7_ownOn_14 rfl ?_
        refine V_bipush (v := 96) dX7_ownOn_16 (by decide) ?_
        refine V_icmp_ge (tgt := 56) (by omega) (by omega) dX7_ownOn_18 rfl (fun h_18 => ?_) (fun h_18 => ?_)
        · refine V_iload (i := 4) dX7_ownOn_56 rfl ?_
          refine V_iret hR dX7_ownOn_58 hkc hks ?_
          first | (rw [show sm c n = k by (unfold sm; split <;> omega)]; exact ⟨rfl, rfl⟩)
        · refine V_iload (i := 4) dX7_ownOn_21 rfl ?_
          refine V_aload_n (i := 0) dX7_ownOn_23 rfl rfl ?_
          refine V_bipush (v := 96) dX7_ownOn_24 (by decide) ?_
          refine V_iload (i := 5) dX7_ownOn_26 rfl ?_
          refine V_iadd dX7_ownOn_28 ?_
          refine V_iald (q := 0) rfl (by omega) rfl dX7_ownOn_29 ?_
          refine V_iload_n (i := 3) dX7_ownOn_30 rfl rfl ?_
          refine V_icmp_ne (tgt := 38) (by rw [rOw_at]; have := hw k (by omega); omega) (by omega) dX7_ownOn_31 rfl (fun h_31 => ?_) (fun h_31 => ?_)
          · refine V_iconst (v := 1) dX7_ownOn_38 rfl ?_
            refine V_iadd dX7_ownOn_39 ?_
            refine V_istore (i := 4) dX7_ownOn_40 rfl rfl ?_
            dsimp only [List.set_cons_zero, List.set_cons_succ]
            refine V_aload_n (i := 0) dX7_ownOn_42 rfl rfl ?_
            refine V_bipush (v := 96) dX7_ownOn_43 (by decide) ?_
            refine V_iload (i := 5) dX7_ownOn_45 rfl ?_
            refine V_iadd dX7_ownOn_47 ?_
            refine V_iload_n (i := 3) dX7_ownOn_48 rfl rfl ?_
            refine V_iast (q := 0) rfl (by omega) rfl dX7_ownOn_49 ?_
            dsimp only [List.set_cons_zero, List.set_cons_succ]
            refine V_iinc dX7_ownOn_50 rfl (nI_1 _) rfl rfl ?_
            dsimp only [List.set_cons_zero, List.set_cons_succ]
            refine V_goto (tgt := 6) dX7_ownOn_53 rfl ?_
            first | (have e9 : rOwN c (k + 1) o g = rOwN c k o g := gvN_f c k o _ ((rOw_at c k o g).symm.trans h_31); have f9 : rOwN c k o g + 0 = rOwN c (k + 1) o g := e9.symm; rw [f9, rOw_t c k o g h1]; exact ih (k + 1) (by omega) (by omega) (by omega) (by omega)) | (have e9 : rOwN c (k + 1) o g = rOwN c k o g + 1 := gvN_t c k o _ h1 (fun z => h_31 ((rOw_at c k o g).trans z)); rw [← e9, rOw_t c k o g h1]; exact ih (k + 1) (by omega) (by omega) (by omega) (by omega))
          · refine V_iconst (v := 0) dX7_ownOn_34 rfl ?_
            refine V_goto (tgt := 39) dX7_ownOn_35 rfl ?_
            refine V_iadd dX7_ownOn_39 ?_
            refine V_istore (i := 4) dX7_ownOn_40 rfl rfl ?_
            dsimp only [List.set_cons_zero, List.set_cons_succ]
            refine V_aload_n (i := 0) dX7_ownOn_42 rfl rfl ?_
            refine V_bipush (v := 96) dX7_ownOn_43 (by decide) ?_
            refine V_iload (i := 5) dX7_ownOn_45 rfl ?_
            refine V_iadd dX7_ownOn_47 ?_
            refine V_iload_n (i := 3) dX7_ownOn_48 rfl rfl ?_
            refine V_iast (q := 0) rfl (by omega) rfl dX7_ownOn_49 ?_
            dsimp only [List.set_cons_zero, List.set_cons_succ]
            refine V_iinc dX7_ownOn_50 rfl (nI_1 _) rfl rfl ?_
            dsimp only [List.set_cons_zero, List.set_cons_succ]
            refine V_goto (tgt := 6) dX7_ownOn_53 rfl ?_
            first | (have e9 : rOwN c (k + 1) o g = rOwN c k o g := gvN_f c k o _ ((rOw_at c k o g).symm.trans h_31); have f9 : rOwN c k o g + 0 = rOwN c (k + 1) o g := e9.symm; rw [f9, rOw_t c k o g h1]; exact ih (k + 1) (by omega) (by omega) (by omega) (by omega)) | (have e9 : rOwN c (k + 1) o g = rOwN c k o g + 1 := gvN_t c k o _ h1 (fun z => h_31 ((rOw_at c k o g).trans z)); rw [← e9, rOw_t c k o g h1]; exact ih (k + 1) (by omega) (by omega) (by omega) (by omega))
  refine V_iconst (v := 0) dX7_ownOn_0 rfl ?_
  refine V_istore (i := 4) dX7_ownOn_1 rfl rfl ?_
  dsimp only [List.set_cons_zero, List.set_cons_succ]
  refine V_iload_n (i := 1) dX7_ownOn_3 rfl rfl ?_
  refine V_istore (i := 5) dX7_ownOn_4 rfl rfl ?_
  dsimp only [List.set_cons_zero, List.set_cons_succ]
  refine V_same (X' := [iA G a 427 (rOwF c c o g)]) (by rw [rOw_0]) ?_
  have e1 := LP6 97 c (by omega) (by omega) (by omega) (by omega)
  unfold rOwN at e1
  rw [gvN_0 c o _ c (Nat.le_refl c)] at e1
  exact e1

abbrev rX7_stopOn : Room := { frames := 2, cells := 0, slots := 0, locals := 43 }
theorem vy_X7_stopOn : vY yX7_stopOn wsX7_stopOn cX7_stopOn 4 (some .int) 2 := ⟨⟨_, rfl⟩, by decide +kernel, by decide +kernel, by decide +kernel⟩
theorem kc_X7_stopOn_169 : Cond.constantLong RX7 169 (5) ∈ wsX7_stopOn := List.mem_of_getElem? (i := 1) rfl
set_option maxHeartbeats 4000000 in
set_option maxRecDepth 100000 in
/-- stopOn -/
theorem c_X7_stopOn (l : Launch) (G : vG) (a : Nat) (g : Nat → Nat) (h : Nat) (hh : h < 3) (hc : cB h g) : Kc l G yX7_stopOn wsX7_stopOn rX7_stopOn [.ref a, .int (nI h)] [iA G a 427 g] (fun v Y => v = some (.int (nI (rSo h g))) ∧ Y = [iA G a 427 (rBegin h (g (384 + 13 * h + 1)) 0 g)]) 0 0 := by
  refine V_enter (own := RX7) [some (.ref a), some (.int (nI h)), none, none] (by decide +kernel) rfl rfl (Nat.le_of_ble_eq_true rfl) rfl (fun Γ hR hin => ?_)
  have hkc : 0 ≤ 0 := Nat.le_refl 0
  have hks : 0 ≤ 0 := Nat.le_refl 0
  obtain ⟨c0, c1, c3, c4, c5, c6, c7, c8, c9, c10, cu⟩ := id hc
  refine V_iload_n (i := 1) dX7_stopOn_0 rfl rfl ?_
  refine V_callS (As := _) (rest := []) [] (c_X7_at l G (h)) vy_X7_at gX7_stopOn_X7_at rfl rfl rfl rfl ⟨rfl, rfl⟩ ⟨rfl, rfl⟩ ⟨Nat.zero_le _, Nat.zero_le _⟩ rfl dX7_stopOn_1 (fun v Y hE => ?_)
  obtain ⟨rfl, rfl⟩ := hE
  refine ⟨rfl, ?_⟩
  dsimp only [vfill, List.set_cons_zero, List.set_cons_succ, Option.toList, List.cons_append, List.nil_append, Nat.add_zero]
  refine V_istore_n (i := 2) dX7_stopOn_4 rfl rfl rfl ?_
  dsimp only [List.set_cons_zero, List.set_cons_succ]
  refine V_aload_n (i := 0) dX7_stopOn_5 rfl rfl ?_
  refine V_iload_n (i := 2) dX7_stopOn_6 rfl rfl ?_
  refine V_iconst (v := 4) dX7_stopOn_7 rfl ?_
  refine V_iadd dX7_stopOn_8 ?_
  refine V_iald (q := 0) rfl (by omega) rfl dX7_stopOn_9 ?_
  refine V_i2l dX7_stopOn_10 ?_
  refine V_lconst dX7_stopOn_11 rfl ?_
  refine V_ldc2 (v := 5) dX7_stopOn_12 kc_X7_stopOn_169 ?_
  refine V_callS (As := _) (rest := []) [] (c_X7_inN l G (g (384 + 13 * h + 4)) 1 5 _ _ (by decide) (by decide) (by omega) (by decide)) vy_X7_in gX7_stopOn_X7_in rfl rfl rfl rfl ⟨rfl, rfl⟩ ⟨rfl, rfl⟩ ⟨Nat.zero_le _, Nat.zero_le _⟩ rfl dX7_stopOn_15 (fun v Y hE => ?_)
  obtain ⟨rfl, rfl⟩ := hE
  refine ⟨rfl, ?_⟩
  dsimp only [vfill, List.set_cons_zero, List.set_cons_succ, Option.toList, List.cons_append, List.nil_append, Nat.add_zero]
  refine V_if_eq (tgt := 37) (by split <;> decide) dX7_stopOn_18 rfl (fun h_18 => ?_) (fun h_18 => ?_)
  · refine V_iconst (v := 0) dX7_stopOn_37 rfl ?_
    refine V_istore_n (i := 3) dX7_stopOn_38 rfl rfl rfl ?_
    dsimp only [List.set_cons_zero, List.set_cons_succ]
    refine V_aload_n (i := 0) dX7_stopOn_39 rfl rfl ?_
    refine V_iload_n (i := 1) dX7_stopOn_40 rfl rfl ?_
    refine V_aload_n (i := 0) dX7_stopOn_41 rfl rfl ?_
    refine V_iload_n (i := 2) dX7_stopOn_42 rfl rfl ?_
    refine V_iconst (v := 1) dX7_stopOn_43 rfl ?_
    refine V_iadd dX7_stopOn_44 ?_
    refine V_iald (q := 0) rfl (by omega) rfl dX7_stopOn_45 ?_
    refine V_iconst (v := 0) dX7_stopOn_46 rfl ?_
    refine V_callS (As := _) (rest := []) [0] (c_X7_begin l G a g h (g (384 + 13 * h + 1)) 0 hh) vy_X7_begin gX7_stopOn_X7_begin rfl rfl rfl rfl ⟨rfl, rfl⟩ ⟨rfl, rfl⟩ ⟨Nat.zero_le _, Nat.zero_le _⟩ rfl dX7_stopOn_47 (fun v Y hE => ?_)
    obtain ⟨rfl, rfl⟩ := hE
    refine ⟨rfl, ?_⟩
    dsimp only [vfill, List.set_cons_zero, List.set_cons_succ, Option.toList, List.cons_append, List.nil_append, Nat.add_zero]
    refine V_iload_n (i := 3) dX7_stopOn_50 rfl rfl ?_
    refine V_iret hR dX7_stopOn_51 hkc hks ?_
    refine ⟨?_, rfl⟩
    unfold rSo
    first | (rw [if_pos (b01 h_18)]; done) | (rw [if_neg (b00 h_18)]; done)
  · refine V_aload_n (i := 0) dX7_stopOn_21 rfl rfl ?_
    refine V_iload_n (i := 2) dX7_stopOn_22 rfl rfl ?_
    refine V_bipush (v := 7) dX7_stopOn_23 (by decide) ?_
    refine V_iadd dX7_stopOn_25 ?_
    refine V_iald (q := 0) rfl (by omega) rfl dX7_stopOn_26 ?_
    refine V_aload_n (i := 0) dX7_stopOn_27 rfl rfl ?_
    refine V_iload_n (i := 2) dX7_stopOn_28 rfl rfl ?_
    refine V_bipush (v := 10) dX7_stopOn_29 (by decide) ?_
    refine V_iadd dX7_stopOn_31 ?_
    refine V_iald (q := 0) rfl (by omega) rfl dX7_stopOn_32 ?_
    refine V_isub dX7_stopOn_33 (by have := b01 h_18; have := cu (by omega) (by omega); omega) ?_
    refine V_goto (tgt := 38) dX7_stopOn_34 rfl ?_
    refine V_istore_n (i := 3) dX7_stopOn_38 rfl rfl rfl ?_
    dsimp only [List.set_cons_zero, List.set_cons_succ]
    refine V_aload_n (i := 0) dX7_stopOn_39 rfl rfl ?_
    refine V_iload_n (i := 1) dX7_stopOn_40 rfl rfl ?_
    refine V_aload_n (i := 0) dX7_stopOn_41 rfl rfl ?_
    refine V_iload_n (i := 2) dX7_stopOn_42 rfl rfl ?_
    refine V_iconst (v := 1) dX7_stopOn_43 rfl ?_
    refine V_iadd dX7_stopOn_44 ?_
    refine V_iald (q := 0) rfl (by omega) rfl dX7_stopOn_45 ?_
    refine V_iconst (v := 0) dX7_stopOn_46 rfl ?_
    refine V_callS (As := _) (rest := []) [0] (c_X7_begin l G a g h (g (384 + 13 * h + 1)) 0 hh) vy_X7_begin gX7_stopOn_X7_begin rfl rfl rfl rfl ⟨rfl, rfl⟩ ⟨rfl, rfl⟩ ⟨Nat.zero_le _, Nat.zero_le _⟩ rfl dX7_stopOn_47 (fun v Y hE => ?_)
    obtain ⟨rfl, rfl⟩ := hE
    refine ⟨rfl, ?_⟩
    dsimp only [vfill, List.set_cons_zero, List.set_cons_succ, Option.toList, List.cons_append, List.nil_append, Nat.add_zero]
    refine V_iload_n (i := 3) dX7_stopOn_50 rfl rfl ?_
    refine V_iret hR dX7_stopOn_51 hkc hks ?_
    refine ⟨?_, rfl⟩
    unfold rSo
    first | (rw [if_pos (b01 h_18)]; done) | (rw [if_neg (b00 h_18)]; done)

abbrev rX7_tryNow : Room := { frames := 1, cells := 0, slots := 0, locals := 24 }
theorem vy_X7_tryNow : vY yX7_tryNow wsX7_tryNow cX7_tryNow 1 none 0 := ⟨⟨_, rfl⟩, by decide +kernel, by decide +kernel, by decide +kernel⟩
theorem fl_X7_tryNow_16 : Cond.fieldLink RX7 16 "OrderChainsModel" "now" "[I" ∈ wsX7_tryNow := List.mem_of_getElem? (i := 1) rfl
theorem il_X7_tryNow_X7 : ∀ w ∈ wsX70, w ∈ wsX7_tryNow := fun _ h => List.mem_cons_of_mem _ (List.mem_append_right _ h)
theorem fl_X7_tryNow_19 : Cond.fieldLink RX7 19 "OrderChainsModel" "trial" "[I" ∈ wsX7_tryNow := List.mem_of_getElem? (i := 2) rfl
set_option maxHeartbeats 4000000 in
set_option maxRecDepth 100000 in
/-- tryNow -/
theorem c_X7_tryNow (l : Launch) (G : vG) (B z g t b : Nat → Nat) : Kc l G yX7_tryNow wsX7_tryNow rX7_tryNow [.ref (B 0)] [mO B z, iA G (B 3) 427 g, iA G (B 4) 427 t, iA G (B 8) 96 b] (fun v Y => v = none ∧ Y = [mO B (va_up (va_up z 4 4294967287) 5 4294967287), iA G (B 3) 427 g, iA G (B 4) 427 (cpE 427 g 0 t 0), iA G (B 8) 96 (fiK 96 b)]) 0 0 := by
  refine V_enter (own := RX7) [some (.ref (B 0))] (by decide +kernel) rfl rfl (Nat.le_of_ble_eq_true rfl) rfl (fun Γ hR hin => ?_)
  have hkc : 0 ≤ 0 := Nat.le_refl 0
  have hks : 0 ≤ 0 := Nat.le_refl 0
  refine V_aload_n (i := 0) dX7_tryNow_0 rfl rfl ?_
  refine V_get (C := RX7) (T := TX7) (N := 17) (ci := 6) (q := 0) (ref := "OrderChainsModel") 5 rfl il_X7_tryNow_X7 rfl rfl fl_X7_tryNow_16 rfl rfl dX7_tryNow_1 ?_
  refine V_iconst (v := 0) dX7_tryNow_4 rfl ?_
  refine V_aload_n (i := 0) dX7_tryNow_5 rfl rfl ?_
  refine V_get (C := RX7) (T := TX7) (N := 17) (ci := 6) (q := 0) (ref := "OrderChainsModel") 6 rfl il_X7_tryNow_X7 rfl rfl fl_X7_tryNow_19 rfl rfl dX7_tryNow_6 ?_
  refine V_iconst (v := 0) dX7_tryNow_9 rfl ?_
  refine V_callS (As := _) (rest := []) [1, 2] (c_X7_copyEngine l G (B 3) (B 4) 427 427 0 0 g t rfl rfl (by decide) (by decide)) vy_X7_copyEngine gX7_tryNow_X7_copyEngine rfl rfl rfl rfl ⟨rfl, rfl⟩ ⟨rfl, rfl⟩ ⟨Nat.zero_le _, Nat.zero_le _⟩ rfl dX7_tryNow_10 (fun v Y hE => ?_)
  obtain ⟨rfl, rfl⟩ := hE
  refine ⟨rfl, ?_⟩
  dsimp only [vfill, List.set_cons_zero, List.set_cons_succ, Option.toList, List.cons_append, List.nil_append, Nat.add_zero]
  refine V_aload_n (i := 0) dX7_tryNow_13 rfl rfl ?_
  refine V_callV (C := RX7) (q := 0) (ci := 6) (As := []) (rest := []) [0, 3] (c_X7_watch l G B z b) vy_X7_watch gX7_tryNow_X7_watch rfl rfl rfl rfl rfl rfl rfl ⟨rfl, rfl⟩ ⟨rfl, rfl⟩ ⟨Nat.zero_le _, Nat.zero_le _⟩ rfl dX7_tryNow_14 (fun v Y hE => ?_)
  obtain ⟨rfl, rfl⟩ := hE
  refine ⟨rfl, ?_⟩
  dsimp only [vfill, List.set_cons_zero, List.set_cons_succ, Option.toList, List.cons_append, List.nil_append, Nat.add_zero]
  refine V_vret hR dX7_tryNow_17 hkc hks ?_
  exact ⟨rfl, rfl⟩

abbrev rX7_clearText : Room := { frames := 0, cells := 0, slots := 0, locals := 0 }
theorem vy_X7_clearText : vY yX7_clearText wsX7_clearText cX7_clearText 2 (some .int) 0 := ⟨⟨_, rfl⟩, by decide +kernel, by decide +kernel, by decide +kernel⟩
theorem fl_X7_clearText_99 : Cond.fieldLink RX7 99 "OrderChainsModel" "size" "I" ∈ wsX7_clearText := List.mem_of_getElem? (i := 1) rfl
theorem il_X7_clearText_X7 : ∀ w ∈ wsX70, w ∈ wsX7_clearText := fun _ h => List.mem_cons_of_mem _ (List.mem_append_right _ h)
set_option maxHeartbeats 4000000 in
set_option maxRecDepth 100000 in
/-- clearText -/
theorem c_X7_clearText (l : Launch) (G : vG) (B z : Nat → Nat) : Kc l G yX7_clearText wsX7_clearText rX7_clearText [.ref (B 0)] [mO B z] (fun v Y => v = some (.int (nI (z 1))) ∧ Y = [mO B (va_up z 1 0)]) 0 0 := by
  refine V_enter (own := RX7) [some (.ref (B 0)), none] (by decide +kernel) rfl rfl (Nat.le_of_ble_eq_true rfl) rfl (fun Γ hR hin => ?_)
  have hkc : 0 ≤ 0 := Nat.le_refl 0
  have hks : 0 ≤ 0 := Nat.le_refl 0
  refine V_aload_n (i := 0) dX7_clearText_0 rfl rfl ?_
  refine V_get (C := RX7) (T := TX7) (N := 17) (ci := 6) (q := 0) (ref := "OrderChainsModel") 2 rfl il_X7_clearText_X7 rfl rfl fl_X7_clearText_99 rfl rfl dX7_clearText_1 ?_
  refine V_istore_n (i := 1) dX7_clearText_4 rfl rfl rfl ?_
  dsimp only [List.set_cons_zero, List.set_cons_succ]
  refine V_aload_n (i := 0) dX7_clearText_5 rfl rfl ?_
  refine V_iconst (v := 0) dX7_clearText_6 rfl ?_
  refine V_put (C := RX7) (T := TX7) (N := 17) (ci := 6) (q := 0) (ref := "OrderChainsModel") (ty := .int) (ty0 := tyX7) 2 rfl il_X7_clearText_X7 tyX7_ok nmX7 rfl rfl fl_X7_clearText_99 rfl rfl rfl rfl rfl rfl dX7_clearText_7 ?_
  dsimp only [List.set_cons_zero, List.set_cons_succ]
  refine V_iload_n (i := 1) dX7_clearText_10 rfl rfl ?_
  refine V_iret hR dX7_clearText_11 hkc hks ?_
  exact ⟨rfl, rfl⟩

abbrev rX7_append : Room := { frames := 1, cells := 0, slots := 0, locals := 25 }
theorem vy_X7_append : vY yX7_append wsX7_append cX7_append 2 (some .int) 1 := ⟨⟨_, rfl⟩, by decide +kernel, by decide +kernel, by decide +kernel⟩
theorem kc_X7_append_97 : Cond.constantLong RX7 97 (255) ∈ wsX7_append := List.mem_of_getElem? (i := 1) rfl
theorem fl_X7_append_99 : Cond.fieldLink RX7 99 "OrderChainsModel" "size" "I" ∈ wsX7_append := List.mem_of_getElem? (i := 2) rfl
theorem il_X7_append_X7 : ∀ w ∈ wsX70, w ∈ wsX7_append := fun _ h => List.mem_cons_of_mem _ (List.mem_append_right _ h)
theorem fl_X7_append_7 : Cond.fieldLink RX7 7 "OrderChainsModel" "text" "[I" ∈ wsX7_append := List.mem_of_getElem? (i := 3) rfl
set_option maxHeartbeats 4000000 in
set_option maxRecDepth 100000 in
/-- append -/
theorem c_X7_append (l : Launch) (G : vG) (B z tx : Nat → Nat) (p : Nat) (hp : p < 4294967296) (hn : z 1 ≤ 140) : Kc l G yX7_append wsX7_append rX7_append [.ref (B 0), .int (nI p)] [mO B z, iA G (B 1) 140 tx] (fun v Y => (¬ p < 256 ∧ v = some (.int (nI 0)) ∧ Y = [mO B (va_up z 0 1), iA G (B 1) 140 tx]) ∨ (p < 256 ∧ ¬ z 1 < 140 ∧ v = some (.int (nI 0)) ∧ Y = [mO B (va_up z 0 2), iA G (B 1) 140 tx]) ∨ (p < 256 ∧ z 1 < 140 ∧ v = some (.int (nI (z 1 + 1))) ∧ Y = [mO B (va_up (va_up z 0 0) 1 (z 1 + 1)), iA G (B 1) 140 (va_up tx (z 1) p)])) 0 0 := by
  refine V_enter (own := RX7) [some (.ref (B 0)), some (.int (nI p))] (by decide +kernel) rfl rfl (Nat.le_of_ble_eq_true rfl) rfl (fun Γ hR hin => ?_)
  have hkc : 0 ≤ 0 := Nat.le_refl 0
  have hks : 0 ≤ 0 := Nat.le_refl 0
  refine V_aload_n (i := 0) dX7_append_0 rfl rfl ?_
  refine V_iload_n (i := 1) dX7_append_1 rfl rfl ?_
  refine V_i2l dX7_append_2 ?_
  refine V_lconst dX7_append_3 rfl ?_
  refine V_ldc2 (v := 255) dX7_append_4 kc_X7_append_97 ?_
  refine V_callS (As := _) (rest := _) [] (c_X7_inN l G (p) 0 255 _ _ (by decide) (by decide) hp (by decide)) vy_X7_in gX7_append_X7_in rfl rfl rfl rfl ⟨rfl, rfl⟩ ⟨rfl, rfl⟩ ⟨Nat.zero_le _, Nat.zero_le _⟩ rfl dX7_append_7 (fun v Y hE => ?_)
  obtain ⟨rfl, rfl⟩ := hE
  refine ⟨rfl, ?_⟩
  dsimp only [vfill, List.set_cons_zero, List.set_cons_succ, Option.toList, List.cons_append, List.nil_append, Nat.add_zero]
  refine V_if_ne (tgt := 17) (by split <;> decide) dX7_append_10 rfl (fun h_10 => ?_) (fun h_10 => ?_)
  · have hy := b01 h_10
    refine V_aload_n (i := 0) dX7_append_17 rfl rfl ?_
    refine V_get (C := RX7) (T := TX7) (N := 17) (ci := 6) (q := 0) (ref := "OrderChainsModel") 2 rfl il_X7_append_X7 rfl rfl fl_X7_append_99 rfl rfl dX7_append_18 ?_
    refine V_sipush (v := 140) dX7_append_21 (by decide) ?_
    refine V_icmp_ne (tgt := 31) (by omega) (by omega) dX7_append_24 rfl (fun h_24 => ?_) (fun h_24 => ?_)
    · refine V_iconst (v := 0) dX7_append_31 rfl ?_
      refine V_callV (C := RX7) (q := 0) (ci := 6) (As := _) (rest := []) [0] (c_X7_refused l G B z 0 (by decide)) vy_X7_refused gX7_append_X7_refused rfl rfl rfl rfl rfl rfl rfl ⟨rfl, rfl⟩ ⟨rfl, rfl⟩ ⟨Nat.zero_le _, Nat.zero_le _⟩ rfl dX7_append_32 (fun v Y hE => ?_)
      obtain ⟨rfl, rfl⟩ := hE
      refine ⟨rfl, ?_⟩
      dsimp only [vfill, List.set_cons_zero, List.set_cons_succ, Option.toList, List.cons_append, List.nil_append, Nat.add_zero]
      refine V_top (b := 0) (by decide) ?_
      refine V_if_eq (tgt := 40) (by omega) dX7_append_35 rfl (fun h_35 => ?_) (fun h_35 => ?_)
      · refine V_aload_n (i := 0) dX7_append_40 rfl rfl ?_
        refine V_get (C := RX7) (T := TX7) (N := 17) (ci := 6) (q := 0) (ref := "OrderChainsModel") 1 rfl il_X7_append_X7 rfl rfl fl_X7_append_7 rfl rfl dX7_append_41 ?_
        refine V_aload_n (i := 0) dX7_append_44 rfl rfl ?_
        refine V_get (C := RX7) (T := TX7) (N := 17) (ci := 6) (q := 0) (ref := "OrderChainsModel") 2 rfl il_X7_append_X7 rfl rfl fl_X7_append_99 rfl rfl dX7_append_45 ?_
        refine V_iload_n (i := 1) dX7_append_48 rfl rfl ?_
        refine V_iast (q := 1) rfl (show z 1 < 140 by omega) rfl dX7_append_49 ?_
        dsimp only [List.set_cons_zero, List.set_cons_succ]
        refine V_aload_n (i := 0) dX7_append_50 rfl rfl ?_
        refine V_dup dX7_append_51 rfl ?_
        refine V_get (C := RX7) (T := TX7) (N := 17) (ci := 6) (q := 0) (ref := "OrderChainsModel") 2 rfl il_X7_append_X7 rfl rfl fl_X7_append_99 rfl rfl dX7_append_52 ?_
        refine V_iconst (v := 1) dX7_append_55 rfl ?_
        refine V_iadd dX7_append_56 ?_
        refine V_put (C := RX7) (T := TX7) (N := 17) (ci := 6) (q := 0) (ref := "OrderChainsModel") (ty := .int) (ty0 := tyX7) 2 rfl il_X7_append_X7 tyX7_ok nmX7 rfl rfl fl_X7_append_99 rfl rfl rfl rfl rfl rfl dX7_append_57 ?_
        dsimp only [List.set_cons_zero, List.set_cons_succ]
        refine V_aload_n (i := 0) dX7_append_60 rfl rfl ?_
        refine V_get (C := RX7) (T := TX7) (N := 17) (ci := 6) (q := 0) (ref := "OrderChainsModel") 2 rfl il_X7_append_X7 rfl rfl fl_X7_append_99 rfl rfl dX7_append_61 ?_
        refine V_iret hR dX7_append_64 hkc hks ?_
        first | exact Or.inl ⟨fun y9 => b00 h_10 (by omega), rfl, rfl⟩ | exact Or.inr (Or.inl ⟨by omega, by omega, rfl, rfl⟩) | exact Or.inr (Or.inr ⟨by omega, by omega, rfl, rfl⟩)
      · exfalso; omega
    · refine V_iconst (v := 2) dX7_append_27 rfl ?_
      refine V_goto (tgt := 32) dX7_append_28 rfl ?_
      refine V_callV (C := RX7) (q := 0) (ci := 6) (As := _) (rest := []) [0] (c_X7_refused l G B z 2 (by decide)) vy_X7_refused gX7_append_X7_refused rfl rfl rfl rfl rfl rfl rfl ⟨rfl, rfl⟩ ⟨rfl, rfl⟩ ⟨Nat.zero_le _, Nat.zero_le _⟩ rfl dX7_append_32 (fun v Y hE => ?_)
      obtain ⟨rfl, rfl⟩ := hE
      refine ⟨rfl, ?_⟩
      dsimp only [vfill, List.set_cons_zero, List.set_cons_succ, Option.toList, List.cons_append, List.nil_append, Nat.add_zero]
      refine V_top (b := 1) (by decide) ?_
      refine V_if_eq (tgt := 40) (by omega) dX7_append_35 rfl (fun h_35 => ?_) (fun h_35 => ?_)
      · exfalso; omega
      · refine V_iconst (v := 0) dX7_append_38 rfl ?_
        refine V_iret hR dX7_append_39 hkc hks ?_
        first | exact Or.inl ⟨fun y9 => b00 h_10 (by omega), rfl, rfl⟩ | exact Or.inr (Or.inl ⟨by omega, by omega, rfl, rfl⟩) | exact Or.inr (Or.inr ⟨by omega, by omega, rfl, rfl⟩)
  · refine V_iconst (v := 1) dX7_append_13 rfl ?_
    refine V_goto (tgt := 32) dX7_append_14 rfl ?_
    refine V_callV (C := RX7) (q := 0) (ci := 6) (As := _) (rest := []) [0] (c_X7_refused l G B z 1 (by decide)) vy_X7_refused gX7_append_X7_refused rfl rfl rfl rfl rfl rfl rfl ⟨rfl, rfl⟩ ⟨rfl, rfl⟩ ⟨Nat.zero_le _, Nat.zero_le _⟩ rfl dX7_append_32 (fun v Y hE => ?_)
    obtain ⟨rfl, rfl⟩ := hE
    refine ⟨rfl, ?_⟩
    dsimp only [vfill, List.set_cons_zero, List.set_cons_succ, Option.toList, List.cons_append, List.nil_append, Nat.add_zero]
    refine V_top (b := 1) (by decide) ?_
    refine V_if_eq (tgt := 40) (by omega) dX7_append_35 rfl (fun h_35 => ?_) (fun h_35 => ?_)
    · exfalso; omega
    · refine V_iconst (v := 0) dX7_append_38 rfl ?_
      refine V_iret hR dX7_append_39 hkc hks ?_
      first | exact Or.inl ⟨fun y9 => b00 h_10 (by omega), rfl, rfl⟩ | exact Or.inr (Or.inl ⟨by omega, by omega, rfl, rfl⟩) | exact Or.inr (Or.inr ⟨by omega, by omega, rfl, rfl⟩)

abbrev rX7_cell : Room := { frames := 2, cells := 0, slots := 0, locals := 45 }
theorem vy_X7_cell : vY yX7_cell wsX7_cell cX7_cell 4 (some .int) 2 := ⟨⟨_, rfl⟩, by decide +kernel, by decide +kernel, by decide +kernel⟩
theorem kc_X7_cell_151 : Cond.constantLong RX7 151 (3) ∈ wsX7_cell := List.mem_of_getElem? (i := 1) rfl
theorem fl_X7_cell_16 : Cond.fieldLink RX7 16 "OrderChainsModel" "now" "[I" ∈ wsX7_cell := List.mem_of_getElem? (i := 2) rfl
theorem il_X7_cell_X7 : ∀ w ∈ wsX70, w ∈ wsX7_cell := fun _ h => List.mem_cons_of_mem _ (List.mem_append_right _ h)
set_option maxHeartbeats 4000000 in
set_option maxRecDepth 100000 in
/-- cell -/
theorem c_X7_cell (l : Launch) (G : vG) (B z g : Nat → Nat) (p w : Nat) (hp : p < 4294967296) (hw : w < 4294967296) (hg : ∀ k, k < 96 → g (288 + k) < 4) : Kc l G yX7_cell wsX7_cell rX7_cell [.ref (B 0), .int (nI p), .int (nI w)] [mO B z, iA G (B 3) 427 g] (fun v Y => (¬ p < 96 ∧ v = some (.int (nI 0)) ∧ Y = [mO B (va_up z 0 1), iA G (B 3) 427 g]) ∨ (p < 96 ∧ ¬ w < 4 ∧ v = some (.int (nI 0)) ∧ Y = [mO B (va_up z 0 2), iA G (B 3) 427 g]) ∨ (p < 96 ∧ w < 4 ∧ v = some (.int (nI (rCell g p w))) ∧ Y = [mO B (va_up z 0 0), iA G (B 3) 427 g])) 0 0 := by
  refine V_enter (own := RX7) [some (.ref (B 0)), some (.int (nI p)), some (.int (nI w)), none] (by decide +kernel) rfl rfl (Nat.le_of_ble_eq_true rfl) rfl (fun Γ hR hin => ?_)
  have hkc : 0 ≤ 0 := Nat.le_refl 0
  have hks : 0 ≤ 0 := Nat.le_refl 0
  refine V_aload_n (i := 0) dX7_cell_0 rfl rfl ?_
  refine V_iload_n (i := 1) dX7_cell_1 rfl rfl ?_
  refine V_callS (As := _) (rest := _) [] (c_X7_isCell l G p hp) vy_X7_isCell gX7_cell_X7_isCell rfl rfl rfl rfl ⟨rfl, rfl⟩ ⟨rfl, rfl⟩ ⟨Nat.zero_le _, Nat.zero_le _⟩ rfl dX7_cell_2 (fun v Y hE => ?_)
  obtain ⟨rfl, rfl⟩ := hE
  refine ⟨rfl, ?_⟩
  dsimp only [vfill, List.set_cons_zero, List.set_cons_succ, Option.toList, List.cons_append, List.nil_append, Nat.add_zero]
  refine V_if_ne (tgt := 12) (by split <;> decide) dX7_cell_5 rfl (fun h_5 => ?_) (fun h_5 => ?_)
  · have hy := b01 h_5
    refine V_iload_n (i := 2) dX7_cell_12 rfl rfl ?_
    refine V_i2l dX7_cell_13 ?_
    refine V_lconst dX7_cell_14 rfl ?_
    refine V_ldc2 (v := 3) dX7_cell_15 kc_X7_cell_151 ?_
    refine V_callS (As := _) (rest := _) [] (c_X7_inN l G (w) 0 3 _ _ (by decide) (by decide) hw (by decide)) vy_X7_in gX7_cell_X7_in rfl rfl rfl rfl ⟨rfl, rfl⟩ ⟨rfl, rfl⟩ ⟨Nat.zero_le _, Nat.zero_le _⟩ rfl dX7_cell_18 (fun v Y hE => ?_)
    obtain ⟨rfl, rfl⟩ := hE
    refine ⟨rfl, ?_⟩
    dsimp only [vfill, List.set_cons_zero, List.set_cons_succ, Option.toList, List.cons_append, List.nil_append, Nat.add_zero]
    refine V_if_eq (tgt := 28) (by split <;> decide) dX7_cell_21 rfl (fun h_21 => ?_) (fun h_21 => ?_)
    · refine V_iconst (v := 2) dX7_cell_28 rfl ?_
      refine V_callV (C := RX7) (q := 0) (ci := 6) (As := _) (rest := []) [0] (c_X7_refused l G B z 2 (by decide)) vy_X7_refused gX7_cell_X7_refused rfl rfl rfl rfl rfl rfl rfl ⟨rfl, rfl⟩ ⟨rfl, rfl⟩ ⟨Nat.zero_le _, Nat.zero_le _⟩ rfl dX7_cell_29 (fun v Y hE => ?_)
      obtain ⟨rfl, rfl⟩ := hE
      refine ⟨rfl, ?_⟩
      dsimp only [vfill, List.set_cons_zero, List.set_cons_succ, Option.toList, List.cons_append, List.nil_append, Nat.add_zero]
      refine V_top (b := 1) (by decide) ?_
      refine V_if_eq (tgt := 37) (by omega) dX7_cell_32 rfl (fun h_32 => ?_) (fun h_32 => ?_)
      · exfalso; omega
      · refine V_iconst (v := 0) dX7_cell_35 rfl ?_
        refine V_iret hR dX7_cell_36 hkc hks ?_
        first | exact Or.inl ⟨b00 h_5, rfl, rfl⟩ | exact Or.inr (Or.inl ⟨hy, fun y9 => b00 h_21 (by omega), rfl, rfl⟩)
    · have hx := b01 h_21
      refine V_iconst (v := 0) dX7_cell_24 rfl ?_
      refine V_goto (tgt := 29) dX7_cell_25 rfl ?_
      refine V_callV (C := RX7) (q := 0) (ci := 6) (As := _) (rest := []) [0] (c_X7_refused l G B z 0 (by decide)) vy_X7_refused gX7_cell_X7_refused rfl rfl rfl rfl rfl rfl rfl ⟨rfl, rfl⟩ ⟨rfl, rfl⟩ ⟨Nat.zero_le _, Nat.zero_le _⟩ rfl dX7_cell_29 (fun v Y hE => ?_)
      obtain ⟨rfl, rfl⟩ := hE
      refine ⟨rfl, ?_⟩
      dsimp only [vfill, List.set_cons_zero, List.set_cons_succ, Option.toList, List.cons_append, List.nil_append, Nat.add_zero]
      refine V_top (b := 0) (by decide) ?_
      refine V_if_eq (tgt := 37) (by omega) dX7_cell_32 rfl (fun h_32 => ?_) (fun h_32 => ?_)
      · refine V_aload_n (i := 0) dX7_cell_37 rfl rfl ?_
        refine V_get (C := RX7) (T := TX7) (N := 17) (ci := 6) (q := 0) (ref := "OrderChainsModel") 5 rfl il_X7_cell_X7 rfl rfl fl_X7_cell_16 rfl rfl dX7_cell_38 ?_
        refine V_bipush (v := 96) dX7_cell_41 (by decide) ?_
        refine V_iload_n (i := 2) dX7_cell_43 rfl rfl ?_
        refine V_imul dX7_cell_44 ?_
        refine V_iload_n (i := 1) dX7_cell_45 rfl rfl ?_
        refine V_iadd dX7_cell_46 ?_
        refine V_iald (q := 1) rfl (by omega) rfl dX7_cell_47 ?_
        refine V_istore_n (i := 3) dX7_cell_48 rfl rfl rfl ?_
        dsimp only [List.set_cons_zero, List.set_cons_succ]
        refine V_iload_n (i := 2) dX7_cell_49 rfl rfl ?_
        refine V_iconst (v := 3) dX7_cell_50 rfl ?_
        refine V_icmp_ge (tgt := 58) (by omega) (by omega) dX7_cell_51 rfl (fun h_51 => ?_) (fun h_51 => ?_)
        · refine V_iload_n (i := 3) dX7_cell_58 rfl rfl ?_
          refine V_if_ne (tgt := 67) (by have := hg p hy; rw [show 96 * w + p = 288 + p by omega]; omega) dX7_cell_59 rfl (fun h_59 => ?_) (fun h_59 => ?_)
          · refine V_iload_n (i := 3) dX7_cell_67 rfl rfl ?_
            refine V_iconst (v := 1) dX7_cell_68 rfl ?_
            refine V_isub dX7_cell_69 (by omega) ?_
            refine V_iret hR dX7_cell_70 hkc hks ?_
            refine Or.inr (Or.inr ⟨hy, by omega, ?_, rfl⟩)
            unfold rCell
            first | (rw [if_pos h_51]; done) | (rw [if_pos (show w < 3 by omega)]; done) | (rw [if_neg (show ¬ w < 3 by omega), if_pos h_59]; done) | (rw [if_neg (show ¬ w < 3 by omega), if_neg h_59]; done)
          · refine V_bipush (v := 4294967287) dX7_cell_62 (by decide) ?_
            refine V_goto (tgt := 70) dX7_cell_64 rfl ?_
            refine V_iret hR dX7_cell_70 hkc hks ?_
            refine Or.inr (Or.inr ⟨hy, by omega, ?_, rfl⟩)
            unfold rCell
            first | (rw [if_pos h_51]; done) | (rw [if_pos (show w < 3 by omega)]; done) | (rw [if_neg (show ¬ w < 3 by omega), if_pos h_59]; done) | (rw [if_neg (show ¬ w < 3 by omega), if_neg h_59]; done)
        · refine V_iload_n (i := 3) dX7_cell_54 rfl rfl ?_
          refine V_goto (tgt := 70) dX7_cell_55 rfl ?_
          refine V_iret hR dX7_cell_70 hkc hks ?_
          refine Or.inr (Or.inr ⟨hy, by omega, ?_, rfl⟩)
          unfold rCell
          first | (rw [if_pos h_51]; done) | (rw [if_pos (show w < 3 by omega)]; done) | (rw [if_neg (show ¬ w < 3 by omega), if_pos h_59]; done) | (rw [if_neg (show ¬ w < 3 by omega), if_neg h_59]; done)
      · exfalso; omega
  · refine V_iconst (v := 1) dX7_cell_8 rfl ?_
    refine V_goto (tgt := 29) dX7_cell_9 rfl ?_
    refine V_callV (C := RX7) (q := 0) (ci := 6) (As := _) (rest := []) [0] (c_X7_refused l G B z 1 (by decide)) vy_X7_refused gX7_cell_X7_refused rfl rfl rfl rfl rfl rfl rfl ⟨rfl, rfl⟩ ⟨rfl, rfl⟩ ⟨Nat.zero_le _, Nat.zero_le _⟩ rfl dX7_cell_29 (fun v Y hE => ?_)
    obtain ⟨rfl, rfl⟩ := hE
    refine ⟨rfl, ?_⟩
    dsimp only [vfill, List.set_cons_zero, List.set_cons_succ, Option.toList, List.cons_append, List.nil_append, Nat.add_zero]
    refine V_top (b := 1) (by decide) ?_
    refine V_if_eq (tgt := 37) (by omega) dX7_cell_32 rfl (fun h_32 => ?_) (fun h_32 => ?_)
    · exfalso; omega
    · refine V_iconst (v := 0) dX7_cell_35 rfl ?_
      refine V_iret hR dX7_cell_36 hkc hks ?_
      first | exact Or.inl ⟨b00 h_5, rfl, rfl⟩ | exact Or.inr (Or.inl ⟨hy, fun y9 => b00 h_21 (by omega), rfl, rfl⟩)

end REF5
