section REF2
def rMk (p : Nat) (g : Nat → Nat) : Nat → Nat := va_up (va_up (va_up (va_up (va_up (va_up g (192 + p) 1) (192 + p + 1) 1) (192 + p + 2) 1) (192 + p + 3) 1) (192 + p + 4) 1) (192 + p + 5) 1
def rG2 (h : Nat) (g : Nat → Nat) : Nat → Nat := va_up (rMk (g (384 + 13 * h + 1)) g) (384 + 13 * h + 11) (rMk (g (384 + 13 * h + 1)) g (384 + 13 * h + 11) + 1)
def rCk (h p i : Nat) (g : Nat → Nat) : Nat → Nat := va_up g (384 + 13 * h + 4 + i) (g (p + i))
def rG4 (h : Nat) (g : Nat → Nat) : Nat → Nat := rCk h (g (384 + 13 * h + 1)) 5 (rCk h (g (384 + 13 * h + 1)) 4 (rCk h (g (384 + 13 * h + 1)) 3 (rCk h (g (384 + 13 * h + 1)) 2 (rCk h (g (384 + 13 * h + 1)) 1 (rCk h (g (384 + 13 * h + 1)) 0 (va_up (va_up (rG2 h g) (384 + 13 * h + 3) (g (384 + 13 * h + 1))) (384 + 13 * h + 10) 0))))))
def rRd (h : Nat) (g : Nat → Nat) : Nat → Nat :=
  if 90 < g (384 + 13 * h + 1) then rFail h 1 g
  else if rG2 h g (g (384 + 13 * h + 1)) = 0 then va_up (rG2 h g) (384 + 13 * h) 2
  else if 6 < rG2 h g (g (384 + 13 * h + 1)) then rFail h 2 (rG2 h g)
  else if rG2 h g (g (384 + 13 * h + 1)) < 6 ∧ rG4 h g (384 + 13 * h + 7) = 0 then rEnd h (rG4 h g (384 + 13 * h + 9)) (rG4 h g)
  else rG4 h g
theorem rRd_a {h : Nat} {g : Nat → Nat} (c : 90 < g (384 + 13 * h + 1)) : rRd h g = rFail h 1 g := if_pos c
theorem rRd_b {h : Nat} {g : Nat → Nat} (c : ¬ 90 < g (384 + 13 * h + 1)) (d : rG2 h g (g (384 + 13 * h + 1)) = 0) : rRd h g = va_up (rG2 h g) (384 + 13 * h) 2 := (if_neg c).trans (if_pos d)
theorem rRd_c {h : Nat} {g : Nat → Nat} (c : ¬ 90 < g (384 + 13 * h + 1)) (d : ¬ rG2 h g (g (384 + 13 * h + 1)) = 0) (e : 6 < rG2 h g (g (384 + 13 * h + 1))) : rRd h g = rFail h 2 (rG2 h g) := (if_neg c).trans ((if_neg d).trans (if_pos e))
theorem rRd_d {h : Nat} {g : Nat → Nat} (c : ¬ 90 < g (384 + 13 * h + 1)) (d : ¬ rG2 h g (g (384 + 13 * h + 1)) = 0) (e : ¬ 6 < rG2 h g (g (384 + 13 * h + 1))) (f : rG2 h g (g (384 + 13 * h + 1)) < 6 ∧ rG4 h g (384 + 13 * h + 7) = 0) : rRd h g = rEnd h (rG4 h g (384 + 13 * h + 9)) (rG4 h g) := (if_neg c).trans ((if_neg d).trans ((if_neg e).trans (if_pos f)))
theorem rRd_e {h : Nat} {g : Nat → Nat} (c : ¬ 90 < g (384 + 13 * h + 1)) (d : ¬ rG2 h g (g (384 + 13 * h + 1)) = 0) (e : ¬ 6 < rG2 h g (g (384 + 13 * h + 1))) (f : ¬ (rG2 h g (g (384 + 13 * h + 1)) < 6 ∧ rG4 h g (384 + 13 * h + 7) = 0)) : rRd h g = rG4 h g := (if_neg c).trans ((if_neg d).trans ((if_neg e).trans (if_neg f)))
theorem rMk_lo {p k : Nat} {g : Nat → Nat} (hk : k < 192) : rMk p g k = g k := by
  unfold rMk
  rw [up_n (by omega), up_n (by omega), up_n (by omega), up_n (by omega), up_n (by omega), up_n (by omega)]
theorem rG2_lo {h k : Nat} {g : Nat → Nat} (hk : k < 192) : rG2 h g k = g k := by
  unfold rG2
  rw [up_n (by omega), rMk_lo hk]
theorem rG4_lo {h k : Nat} {g : Nat → Nat} (hk : k < 192) : rG4 h g k = g k := by
  unfold rG4 rCk
  rw [up_n (by omega), up_n (by omega), up_n (by omega), up_n (by omega), up_n (by omega), up_n (by omega), up_n (by omega), up_n (by omega), rG2_lo hk]
theorem rG4_at {h i : Nat} {g : Nat → Nat} (hp : g (384 + 13 * h + 1) ≤ 90) (hi : i < 6) : rG4 h g (384 + 13 * h + 4 + i) = g (g (384 + 13 * h + 1) + i) := by
  have hlo : ∀ (w : Nat → Nat) (a v k : Nat), k < 192 → 384 ≤ a → va_up w a v k = w k := fun w a v k h1 h2 => up_n (by omega)
  have hG : ∀ k, k < 192 → rG2 h g k = g k := fun k hk => rG2_lo hk
  unfold rG4 rCk
  obtain rfl | rfl | rfl | rfl | rfl | rfl : i = 0 ∨ i = 1 ∨ i = 2 ∨ i = 3 ∨ i = 4 ∨ i = 5 := by omega
  · rw [up_n (by omega), up_n (by omega), up_n (by omega), up_n (by omega), up_n (by omega), up_s, hlo _ _ _ _ (by omega) (by omega), hlo _ _ _ _ (by omega) (by omega), hG _ (by omega)]
  · rw [up_n (by omega), up_n (by omega), up_n (by omega), up_n (by omega), up_s]
    repeat rw [hlo _ _ _ _ (by omega) (by omega)]
    rw [hG _ (by omega)]
  · rw [up_n (by omega), up_n (by omega), up_n (by omega), up_s]
    repeat rw [hlo _ _ _ _ (by omega) (by omega)]
    rw [hG _ (by omega)]
  · rw [up_n (by omega), up_n (by omega), up_s]
    repeat rw [hlo _ _ _ _ (by omega) (by omega)]
    rw [hG _ (by omega)]
  · rw [up_n (by omega), up_s]
    repeat rw [hlo _ _ _ _ (by omega) (by omega)]
    rw [hG _ (by omega)]
  · rw [up_s]
    repeat rw [hlo _ _ _ _ (by omega) (by omega)]
    rw [hG _ (by omega)]
def rOw (h c : Nat) (g : Nat → Nat) : Nat := if g (96 + c) = 0 ∨ g (96 + c) = h + 1 then 1 else 0
def rCh (h : Nat) (g : Nat → Nat) : Nat → Nat := if g (384 + 13 * h + 5) < 96 then rEnd h (if g (g (384 + 13 * h + 5)) = g (384 + 13 * h + 6) then g (384 + 13 * h + 9) else g (384 + 13 * h + 3) + 6) g else rFail h 3 g
abbrev vR3 : Type := (Nat → Nat) × (Nat → Nat) × (Nat → Nat)
def rW2 (h c : Nat) (g : Nat → Nat) : Nat → Nat := va_up (va_up (va_up g (288 + c) (h + 1)) 425 (va_up g (288 + c) (h + 1) 425 + 1)) (384 + 13 * h + 12) (va_up (va_up g (288 + c) (h + 1)) 425 (va_up g (288 + c) (h + 1) 425 + 1) (384 + 13 * h + 12) + 1)
def rWr (h c v : Nat) (t : vR3) : vR3 :=
  if va_up t.2.1 c v (192 + c) = 1 then (if t.1 5 = 4294967287 then va_up (va_up t.1 4 h) 5 c else t.1, rW2 h c (va_up (va_up t.2.1 c v) 424 (va_up t.2.1 c v 424 + 1)), va_up t.2.2 c (t.2.2 c ||| 2 ^ h))
  else (t.1, rW2 h c (va_up t.2.1 c v), va_up t.2.2 c (t.2.2 c ||| 2 ^ h))
def w3 (G : vG) (B : Nat → Nat) (a : Nat) (t : vR3) : List va_W := [mO B t.1, iA G a 427 t.2.1, iA G (B 8) 96 t.2.2]
theorem rWr_n {h c v : Nat} {z g b : Nat → Nat} (q : ¬ va_up g c v (192 + c) = 1) : rWr h c v (z, g, b) = (z, rW2 h c (va_up g c v), va_up b c (b c ||| 2 ^ h)) := if_neg q
theorem rWr_a {h c v : Nat} {z g b : Nat → Nat} (q : va_up g c v (192 + c) = 1) (y : z 5 = 4294967287) : rWr h c v (z, g, b) = (va_up (va_up z 4 h) 5 c, rW2 h c (va_up (va_up g c v) 424 (va_up g c v 424 + 1)), va_up b c (b c ||| 2 ^ h)) := by
  unfold rWr
  dsimp only
  rw [if_pos q, if_pos y]
theorem rWr_b {h c v : Nat} {z g b : Nat → Nat} (q : va_up g c v (192 + c) = 1) (y : ¬ z 5 = 4294967287) : rWr h c v (z, g, b) = (z, rW2 h c (va_up (va_up g c v) 424 (va_up g c v 424 + 1)), va_up b c (b c ||| 2 ^ h)) := by
  unfold rWr
  dsimp only
  rw [if_pos q, if_neg y]

abbrev rX7_readOrder : Room := { frames := 2, cells := 0, slots := 0, locals := 42 }
theorem vy_X7_readOrder : vY yX7_readOrder wsX7_readOrder cX7_readOrder 6 none 2 := ⟨⟨_, rfl⟩, by decide +kernel, by decide +kernel, by decide +kernel⟩
set_option maxHeartbeats 4000000 in
set_option maxRecDepth 100000 in
/-- readOrder -/
theorem c_X7_readOrder (l : Launch) (G : vG) (a : Nat) (g : Nat → Nat) (h : Nat) (hh : h < 3) (h1 : g (384 + 13 * h + 1) < 100) (hv : ∀ k, k < 96 → g k < 100) : Kc l G yX7_readOrder wsX7_readOrder rX7_readOrder [.ref a, .int (nI h)] [iA G a 427 g] (fun v Y => v = none ∧ Y = [iA G a 427 (rRd h g)]) 0 0 := by
  refine V_enter (own := RX7) [some (.ref a), some (.int (nI h)), none, none, none, none] (by decide +kernel) rfl rfl (Nat.le_of_ble_eq_true rfl) rfl (fun Γ hR hin => ?_)
  have hkc : 0 ≤ 0 := Nat.le_refl 0
  have hks : 0 ≤ 0 := Nat.le_refl 0
  refine V_iload_n (i := 1) dX7_readOrder_0 rfl rfl ?_
  refine V_callS (As := _) (rest := []) [] (c_X7_at l G (h)) vy_X7_at gX7_readOrder_X7_at rfl rfl rfl rfl ⟨rfl, rfl⟩ ⟨rfl, rfl⟩ ⟨Nat.zero_le _, Nat.zero_le _⟩ rfl dX7_readOrder_1 (fun v Y hE => ?_)
  obtain ⟨rfl, rfl⟩ := hE
  refine ⟨rfl, ?_⟩
  dsimp only [vfill, List.set_cons_zero, List.set_cons_succ, Option.toList, List.cons_append, List.nil_append, Nat.add_zero]
  refine V_istore_n (i := 2) dX7_readOrder_4 rfl rfl rfl ?_
  dsimp only [List.set_cons_zero, List.set_cons_succ]
  refine V_aload_n (i := 0) dX7_readOrder_5 rfl rfl ?_
  refine V_iload_n (i := 2) dX7_readOrder_6 rfl rfl ?_
  refine V_iconst (v := 1) dX7_readOrder_7 rfl ?_
  refine V_iadd dX7_readOrder_8 ?_
  refine V_iald (q := 0) rfl (by omega) rfl dX7_readOrder_9 ?_
  refine V_istore_n (i := 3) dX7_readOrder_10 rfl rfl rfl ?_
  dsimp only [List.set_cons_zero, List.set_cons_succ]
  refine V_iload_n (i := 3) dX7_readOrder_11 rfl rfl ?_
  refine V_bipush (v := 90) dX7_readOrder_12 (by decide) ?_
  refine V_icmp_le (tgt := 24) (by omega) (by omega) dX7_readOrder_14 rfl (fun h_14 => ?_) (fun h_14 => ?_)
  · refine V_iconst (v := 0) dX7_readOrder_24 rfl ?_
    refine V_istore (i := 4) dX7_readOrder_25 rfl rfl ?_
    dsimp only [List.set_cons_zero, List.set_cons_succ]
    refine V_iload (i := 4) dX7_readOrder_27 rfl ?_
    refine V_bipush (v := 6) dX7_readOrder_29 (by decide) ?_
    refine V_icmp_ge (tgt := 51) (by omega) (by omega) dX7_readOrder_31 rfl (fun h_31 => ?_) (fun h_31 => ?_)
    · exfalso; omega
    · refine V_aload_n (i := 0) dX7_readOrder_34 rfl rfl ?_
      refine V_sipush (v := 192) dX7_readOrder_35 (by decide) ?_
      refine V_iload_n (i := 3) dX7_readOrder_38 rfl rfl ?_
      refine V_iadd dX7_readOrder_39 ?_
      refine V_iload (i := 4) dX7_readOrder_40 rfl ?_
      refine V_iadd dX7_readOrder_42 ?_
      refine V_iconst (v := 1) dX7_readOrder_43 rfl ?_
      refine V_iast (q := 0) rfl (by omega) rfl dX7_readOrder_44 ?_
      dsimp only [List.set_cons_zero, List.set_cons_succ]
      refine V_iinc (v := 1) dX7_readOrder_45 rfl (by decide) rfl rfl ?_
      dsimp only [List.set_cons_zero, List.set_cons_succ]
      refine V_goto (tgt := 27) dX7_readOrder_48 rfl ?_
      refine V_iload (i := 4) dX7_readOrder_27 rfl ?_
      refine V_bipush (v := 6) dX7_readOrder_29 (by decide) ?_
      refine V_icmp_ge (tgt := 51) (by omega) (by omega) dX7_readOrder_31 rfl (fun h_31_2 => ?_) (fun h_31_2 => ?_)
      · exfalso; omega
      · refine V_aload_n (i := 0) dX7_readOrder_34 rfl rfl ?_
        refine V_sipush (v := 192) dX7_readOrder_35 (by decide) ?_
        refine V_iload_n (i := 3) dX7_readOrder_38 rfl rfl ?_
        refine V_iadd dX7_readOrder_39 ?_
        refine V_iload (i := 4) dX7_readOrder_40 rfl ?_
        refine V_iadd dX7_readOrder_42 ?_
        refine V_iconst (v := 1) dX7_readOrder_43 rfl ?_
        refine V_iast (q := 0) rfl (by omega) rfl dX7_readOrder_44 ?_
        dsimp only [List.set_cons_zero, List.set_cons_succ]
        refine V_iinc (v := 2) dX7_readOrder_45 rfl (by decide) rfl rfl ?_
        dsimp only [List.set_cons_zero, List.set_cons_succ]
        refine V_goto (tgt := 27) dX7_readOrder_48 rfl ?_
        refine V_iload (i := 4) dX7_readOrder_27 rfl ?_
        refine V_bipush (v := 6) dX7_readOrder_29 (by decide) ?_
        refine V_icmp_ge (tgt := 51) (by omega) (by omega) dX7_readOrder_31 rfl (fun h_31_3 => ?_) (fun h_31_3 => ?_)
        · exfalso; omega
        · refine V_aload_n (i := 0) dX7_readOrder_34 rfl rfl ?_
          refine V_sipush (v := 192) dX7_readOrder_35 (by decide) ?_
          refine V_iload_n (i := 3) dX7_readOrder_38 rfl rfl ?_
          refine V_iadd dX7_readOrder_39 ?_
          refine V_iload (i := 4) dX7_readOrder_40 rfl ?_
          refine V_iadd dX7_readOrder_42 ?_
          refine V_iconst (v := 1) dX7_readOrder_43 rfl ?_
          refine V_iast (q := 0) rfl (by omega) rfl dX7_readOrder_44 ?_
          dsimp only [List.set_cons_zero, List.set_cons_succ]
          refine V_iinc (v := 3) dX7_readOrder_45 rfl (by decide) rfl rfl ?_
          dsimp only [List.set_cons_zero, List.set_cons_succ]
          refine V_goto (tgt := 27) dX7_readOrder_48 rfl ?_
          refine V_iload (i := 4) dX7_readOrder_27 rfl ?_
          refine V_bipush (v := 6) dX7_readOrder_29 (by decide) ?_
          refine V_icmp_ge (tgt := 51) (by omega) (by omega) dX7_readOrder_31 rfl (fun h_31_4 => ?_) (fun h_31_4 => ?_)
          · exfalso; omega
          · refine V_aload_n (i := 0) dX7_readOrder_34 rfl rfl ?_
            refine V_sipush (v := 192) dX7_readOrder_35 (by decide) ?_
            refine V_iload_n (i := 3) dX7_readOrder_38 rfl rfl ?_
            refine V_iadd dX7_readOrder_39 ?_
            refine V_iload (i := 4) dX7_readOrder_40 rfl ?_
            refine V_iadd dX7_readOrder_42 ?_
            refine V_iconst (v := 1) dX7_readOrder_43 rfl ?_
            refine V_iast (q := 0) rfl (by omega) rfl dX7_readOrder_44 ?_
            dsimp only [List.set_cons_zero, List.set_cons_succ]
            refine V_iinc (v := 4) dX7_readOrder_45 rfl (by decide) rfl rfl ?_
            dsimp only [List.set_cons_zero, List.set_cons_succ]
            refine V_goto (tgt := 27) dX7_readOrder_48 rfl ?_
            refine V_iload (i := 4) dX7_readOrder_27 rfl ?_
            refine V_bipush (v := 6) dX7_readOrder_29 (by decide) ?_
            refine V_icmp_ge (tgt := 51) (by omega) (by omega) dX7_readOrder_31 rfl (fun h_31_5 => ?_) (fun h_31_5 => ?_)
            · exfalso; omega
            · refine V_aload_n (i := 0) dX7_readOrder_34 rfl rfl ?_
              refine V_sipush (v := 192) dX7_readOrder_35 (by decide) ?_
              refine V_iload_n (i := 3) dX7_readOrder_38 rfl rfl ?_
              refine V_iadd dX7_readOrder_39 ?_
              refine V_iload (i := 4) dX7_readOrder_40 rfl ?_
              refine V_iadd dX7_readOrder_42 ?_
              refine V_iconst (v := 1) dX7_readOrder_43 rfl ?_
              refine V_iast (q := 0) rfl (by omega) rfl dX7_readOrder_44 ?_
              dsimp only [List.set_cons_zero, List.set_cons_succ]
              refine V_iinc (v := 5) dX7_readOrder_45 rfl (by decide) rfl rfl ?_
              dsimp only [List.set_cons_zero, List.set_cons_succ]
              refine V_goto (tgt := 27) dX7_readOrder_48 rfl ?_
              refine V_iload (i := 4) dX7_readOrder_27 rfl ?_
              refine V_bipush (v := 6) dX7_readOrder_29 (by decide) ?_
              refine V_icmp_ge (tgt := 51) (by omega) (by omega) dX7_readOrder_31 rfl (fun h_31_6 => ?_) (fun h_31_6 => ?_)
              · exfalso; omega
              · refine V_aload_n (i := 0) dX7_readOrder_34 rfl rfl ?_
                refine V_sipush (v := 192) dX7_readOrder_35 (by decide) ?_
                refine V_iload_n (i := 3) dX7_readOrder_38 rfl rfl ?_
                refine V_iadd dX7_readOrder_39 ?_
                refine V_iload (i := 4) dX7_readOrder_40 rfl ?_
                refine V_iadd dX7_readOrder_42 ?_
                refine V_iconst (v := 1) dX7_readOrder_43 rfl ?_
                refine V_iast (q := 0) rfl (by omega) rfl dX7_readOrder_44 ?_
                dsimp only [List.set_cons_zero, List.set_cons_succ]
                refine V_iinc (v := 6) dX7_readOrder_45 rfl (by decide) rfl rfl ?_
                dsimp only [List.set_cons_zero, List.set_cons_succ]
                refine V_goto (tgt := 27) dX7_readOrder_48 rfl ?_
                refine V_iload (i := 4) dX7_readOrder_27 rfl ?_
                refine V_bipush (v := 6) dX7_readOrder_29 (by decide) ?_
                refine V_icmp_ge (tgt := 51) (by omega) (by omega) dX7_readOrder_31 rfl (fun h_31_7 => ?_) (fun h_31_7 => ?_)
                · refine V_aload_n (i := 0) dX7_readOrder_51 rfl rfl ?_
                  refine V_iload_n (i := 2) dX7_readOrder_52 rfl rfl ?_
                  refine V_bipush (v := 11) dX7_readOrder_53 (by decide) ?_
                  refine V_iadd dX7_readOrder_55 ?_
                  refine V_dup2 dX7_readOrder_56 rfl rfl ?_
                  refine V_iald (q := 0) rfl (by omega) rfl dX7_readOrder_57 ?_
                  refine V_iconst (v := 1) dX7_readOrder_58 rfl ?_
                  refine V_iadd dX7_readOrder_59 ?_
                  refine V_iast (q := 0) rfl (by omega) rfl dX7_readOrder_60 ?_
                  dsimp only [List.set_cons_zero, List.set_cons_succ]
                  refine V_aload_n (i := 0) dX7_readOrder_61 rfl rfl ?_
                  refine V_iload_n (i := 3) dX7_readOrder_62 rfl rfl ?_
                  refine V_iald (q := 0) rfl (by omega) rfl dX7_readOrder_63 ?_
                  refine V_istore (i := 4) dX7_readOrder_64 rfl rfl ?_
                  dsimp only [List.set_cons_zero, List.set_cons_succ]
                  refine V_iload (i := 4) dX7_readOrder_66 rfl ?_
                  refine V_if_ne (tgt := 78) (show rG2 h g (g (384 + 13 * h + 1)) < 4294967296 by rw [rG2_lo (by omega)]; have := hv (g (384 + 13 * h + 1)) (by omega); omega) dX7_readOrder_68 rfl (fun h_68 => ?_) (fun h_68 => ?_)
                  · refine V_iload (i := 4) dX7_readOrder_78 rfl ?_
                    refine V_bipush (v := 6) dX7_readOrder_80 (by decide) ?_
                    refine V_icmp_le (tgt := 94) (show rG2 h g (g (384 + 13 * h + 1)) < 2147483648 by rw [rG2_lo (by omega)]; have := hv (g (384 + 13 * h + 1)) (by omega); omega) (by omega) dX7_readOrder_82 rfl (fun h_82 => ?_) (fun h_82 => ?_)
                    · refine V_aload_n (i := 0) dX7_readOrder_94 rfl rfl ?_
                      refine V_iload_n (i := 2) dX7_readOrder_95 rfl rfl ?_
                      refine V_iconst (v := 3) dX7_readOrder_96 rfl ?_
                      refine V_iadd dX7_readOrder_97 ?_
                      refine V_iload_n (i := 3) dX7_readOrder_98 rfl rfl ?_
                      refine V_iast (q := 0) rfl (by omega) rfl dX7_readOrder_99 ?_
                      dsimp only [List.set_cons_zero, List.set_cons_succ]
                      refine V_aload_n (i := 0) dX7_readOrder_100 rfl rfl ?_
                      refine V_iload_n (i := 2) dX7_readOrder_101 rfl rfl ?_
                      refine V_bipush (v := 10) dX7_readOrder_102 (by decide) ?_
                      refine V_iadd dX7_readOrder_104 ?_
                      refine V_iconst (v := 0) dX7_readOrder_105 rfl ?_
                      refine V_iast (q := 0) rfl (by omega) rfl dX7_readOrder_106 ?_
                      dsimp only [List.set_cons_zero, List.set_cons_succ]
                      refine V_iconst (v := 0) dX7_readOrder_107 rfl ?_
                      refine V_istore (i := 5) dX7_readOrder_108 rfl rfl ?_
                      dsimp only [List.set_cons_zero, List.set_cons_succ]
                      refine V_iload (i := 5) dX7_readOrder_110 rfl ?_
                      refine V_bipush (v := 6) dX7_readOrder_112 (by decide) ?_
                      refine V_icmp_ge (tgt := 137) (by omega) (by omega) dX7_readOrder_114 rfl (fun h_114 => ?_) (fun h_114 => ?_)
                      · exfalso; omega
                      · refine V_aload_n (i := 0) dX7_readOrder_117 rfl rfl ?_
                        refine V_iload_n (i := 2) dX7_readOrder_118 rfl rfl ?_
                        refine V_iconst (v := 4) dX7_readOrder_119 rfl ?_
                        refine V_iadd dX7_readOrder_120 ?_
                        refine V_iload (i := 5) dX7_readOrder_121 rfl ?_
                        refine V_iadd dX7_readOrder_123 ?_
                        refine V_aload_n (i := 0) dX7_readOrder_124 rfl rfl ?_
                        refine V_iload_n (i := 3) dX7_readOrder_125 rfl rfl ?_
                        refine V_iload (i := 5) dX7_readOrder_126 rfl ?_
                        refine V_iadd dX7_readOrder_128 ?_
                        refine V_iald (q := 0) rfl (by omega) rfl dX7_readOrder_129 ?_
                        refine V_iast (q := 0) rfl (by omega) rfl dX7_readOrder_130 ?_
                        dsimp only [List.set_cons_zero, List.set_cons_succ]
                        refine V_iinc (v := 1) dX7_readOrder_131 rfl (by decide) rfl rfl ?_
                        dsimp only [List.set_cons_zero, List.set_cons_succ]
                        refine V_goto (tgt := 110) dX7_readOrder_134 rfl ?_
                        refine V_iload (i := 5) dX7_readOrder_110 rfl ?_
                        refine V_bipush (v := 6) dX7_readOrder_112 (by decide) ?_
                        refine V_icmp_ge (tgt := 137) (by omega) (by omega) dX7_readOrder_114 rfl (fun h_114_2 => ?_) (fun h_114_2 => ?_)
                        · exfalso; omega
                        · refine V_aload_n (i := 0) dX7_readOrder_117 rfl rfl ?_
                          refine V_iload_n (i := 2) dX7_readOrder_118 rfl rfl ?_
                          refine V_iconst (v := 4) dX7_readOrder_119 rfl ?_
                          refine V_iadd dX7_readOrder_120 ?_
                          refine V_iload (i := 5) dX7_readOrder_121 rfl ?_
                          refine V_iadd dX7_readOrder_123 ?_
                          refine V_aload_n (i := 0) dX7_readOrder_124 rfl rfl ?_
                          refine V_iload_n (i := 3) dX7_readOrder_125 rfl rfl ?_
                          refine V_iload (i := 5) dX7_readOrder_126 rfl ?_
                          refine V_iadd dX7_readOrder_128 ?_
                          refine V_iald (q := 0) rfl (by omega) rfl dX7_readOrder_129 ?_
                          refine V_iast (q := 0) rfl (by omega) rfl dX7_readOrder_130 ?_
                          dsimp only [List.set_cons_zero, List.set_cons_succ]
                          refine V_iinc (v := 2) dX7_readOrder_131 rfl (by decide) rfl rfl ?_
                          dsimp only [List.set_cons_zero, List.set_cons_succ]
                          refine V_goto (tgt := 110) dX7_readOrder_134 rfl ?_
                          refine V_iload (i := 5) dX7_readOrder_110 rfl ?_
                          refine V_bipush (v := 6) dX7_readOrder_112 (by decide) ?_
                          refine V_icmp_ge (tgt := 137) (by omega) (by omega) dX7_readOrder_114 rfl (fun h_114_3 => ?_) (fun h_114_3 => ?_)
                          · exfalso; omega
                          · refine V_aload_n (i := 0) dX7_readOrder_117 rfl rfl ?_
                            refine V_iload_n (i := 2) dX7_readOrder_118 rfl rfl ?_
                            refine V_iconst (v := 4) dX7_readOrder_119 rfl ?_
                            refine V_iadd dX7_readOrder_120 ?_
                            refine V_iload (i := 5) dX7_readOrder_121 rfl ?_
                            refine V_iadd dX7_readOrder_123 ?_
                            refine V_aload_n (i := 0) dX7_readOrder_124 rfl rfl ?_
                            refine V_iload_n (i := 3) dX7_readOrder_125 rfl rfl ?_
                            refine V_iload (i := 5) dX7_readOrder_126 rfl ?_
                            refine V_iadd dX7_readOrder_128 ?_
                            refine V_iald (q := 0) rfl (by omega) rfl dX7_readOrder_129 ?_
                            refine V_iast (q := 0) rfl (by omega) rfl dX7_readOrder_130 ?_
                            dsimp only [List.set_cons_zero, List.set_cons_succ]
                            refine V_iinc (v := 3) dX7_readOrder_131 rfl (by decide) rfl rfl ?_
                            dsimp only [List.set_cons_zero, List.set_cons_succ]
                            refine V_goto (tgt := 110) dX7_readOrder_134 rfl ?_
                            refine V_iload (i := 5) dX7_readOrder_110 rfl ?_
                            refine V_bipush (v := 6) dX7_readOrder_112 (by decide) ?_
                            refine V_icmp_ge (tgt := 137) (by omega) (by omega) dX7_readOrder_114 rfl (fun h_114_4 => ?_) (fun h_114_4 => ?_)
                            · exfalso; omega
                            · refine V_aload_n (i := 0) dX7_readOrder_117 rfl rfl ?_
                              refine V_iload_n (i := 2) dX7_readOrder_118 rfl rfl ?_
                              refine V_iconst (v := 4) dX7_readOrder_119 rfl ?_
                              refine V_iadd dX7_readOrder_120 ?_
                              refine V_iload (i := 5) dX7_readOrder_121 rfl ?_
                              refine V_iadd dX7_readOrder_123 ?_
                              refine V_aload_n (i := 0) dX7_readOrder_124 rfl rfl ?_
                              refine V_iload_n (i := 3) dX7_readOrder_125 rfl rfl ?_
                              refine V_iload (i := 5) dX7_readOrder_126 rfl ?_
                              refine V_iadd dX7_readOrder_128 ?_
                              refine V_iald (q := 0) rfl (by omega) rfl dX7_readOrder_129 ?_
                              refine V_iast (q := 0) rfl (by omega) rfl dX7_readOrder_130 ?_
                              dsimp only [List.set_cons_zero, List.set_cons_succ]
                              refine V_iinc (v := 4) dX7_readOrder_131 rfl (by decide) rfl rfl ?_
                              dsimp only [List.set_cons_zero, List.set_cons_succ]
                              refine V_goto (tgt := 110) dX7_readOrder_134 rfl ?_
                              refine V_iload (i := 5) dX7_readOrder_110 rfl ?_
                              refine V_bipush (v := 6) dX7_readOrder_112 (by decide) ?_
                              refine V_icmp_ge (tgt := 137) (by omega) (by omega) dX7_readOrder_114 rfl (fun h_114_5 => ?_) (fun h_114_5 => ?_)
                              · exfalso; omega
                              · refine V_aload_n (i := 0) dX7_readOrder_117 rfl rfl ?_
                                refine V_iload_n (i := 2) dX7_readOrder_118 rfl rfl ?_
                                refine V_iconst (v := 4) dX7_readOrder_119 rfl ?_
                                refine V_iadd dX7_readOrder_120 ?_
                                refine V_iload (i := 5) dX7_readOrder_121 rfl ?_
                                refine V_iadd dX7_readOrder_123 ?_
                                refine V_aload_n (i := 0) dX7_readOrder_124 rfl rfl ?_
                                refine V_iload_n (i := 3) dX7_readOrder_125 rfl rfl ?_
                                refine V_iload (i := 5) dX7_readOrder_126 rfl ?_
                                refine V_iadd dX7_readOrder_128 ?_
                                refine V_iald (q := 0) rfl (by omega) rfl dX7_readOrder_129 ?_
                                refine V_iast (q := 0) rfl (by omega) rfl dX7_readOrder_130 ?_
                                dsimp only [List.set_cons_zero, List.set_cons_succ]
                                refine V_iinc (v := 5) dX7_readOrder_131 rfl (by decide) rfl rfl ?_
                                dsimp only [List.set_cons_zero, List.set_cons_succ]
                                refine V_goto (tgt := 110) dX7_readOrder_134 rfl ?_
                                refine V_iload (i := 5) dX7_readOrder_110 rfl ?_
                                refine V_bipush (v := 6) dX7_readOrder_112 (by decide) ?_
                                refine V_icmp_ge (tgt := 137) (by omega) (by omega) dX7_readOrder_114 rfl (fun h_114_6 => ?_) (fun h_114_6 => ?_)
                                · exfalso; omega
                                · refine V_aload_n (i := 0) dX7_readOrder_117 rfl rfl ?_
                                  refine V_iload_n (i := 2) dX7_readOrder_118 rfl rfl ?_
                                  refine V_iconst (v := 4) dX7_readOrder_119 rfl ?_
                                  refine V_iadd dX7_readOrder_120 ?_
                                  refine V_iload (i := 5) dX7_readOrder_121 rfl ?_
                                  refine V_iadd dX7_readOrder_123 ?_
                                  refine V_aload_n (i := 0) dX7_readOrder_124 rfl rfl ?_
                                  refine V_iload_n (i := 3) dX7_readOrder_125 rfl rfl ?_
                                  refine V_iload (i := 5) dX7_readOrder_126 rfl ?_
                                  refine V_iadd dX7_readOrder_128 ?_
                                  refine V_iald (q := 0) rfl (by omega) rfl dX7_readOrder_129 ?_
                                  refine V_iast (q := 0) rfl (by omega) rfl dX7_readOrder_130 ?_
                                  dsimp only [List.set_cons_zero, List.set_cons_succ]
                                  refine V_iinc (v := 6) dX7_readOrder_131 rfl (by decide) rfl rfl ?_
                                  dsimp only [List.set_cons_zero, List.set_cons_succ]
                                  refine V_goto (tgt := 110) dX7_readOrder_134 rfl ?_
                                  refine V_iload (i := 5) dX7_readOrder_110 rfl ?_
                                  refine V_bipush (v := 6) dX7_readOrder_112 (by decide) ?_
                                  refine V_icmp_ge (tgt := 137) (by omega) (by omega) dX7_readOrder_114 rfl (fun h_114_7 => ?_) (fun h_114_7 => ?_)
                                  · refine V_iload (i := 4) dX7_readOrder_137 rfl ?_
                                    refine V_bipush (v := 6) dX7_readOrder_139 (by decide) ?_
                                    refine V_icmp_ge (tgt := 164) (show rG2 h g (g (384 + 13 * h + 1)) < 2147483648 by rw [rG2_lo (by omega)]; have := hv (g (384 + 13 * h + 1)) (by omega); omega) (by omega) dX7_readOrder_141 rfl (fun h_141 => ?_) (fun h_141 => ?_)
                                    · refine V_vret hR dX7_readOrder_164 hkc hks ?_
                                      refine ⟨rfl, ?_⟩
                                      first | exact congrArg (fun w => [iA G a 427 w]) (rRd_a (h := h) (g := g) (by omega)).symm | exact congrArg (fun w => [iA G a 427 w]) (rRd_b (h := h) (g := g) (by omega) h_68).symm | exact congrArg (fun w => [iA G a 427 w]) (rRd_c (h := h) (g := g) (by omega) h_68 (Nat.lt_of_not_le h_82)).symm | exact congrArg (fun w => [iA G a 427 w]) (rRd_d (h := h) (g := g) (by omega) h_68 (Nat.not_lt.mpr h_82) ⟨Nat.lt_of_not_le h_141, h_150⟩).symm | exact congrArg (fun w => [iA G a 427 w]) (rRd_e (h := h) (g := g) (by omega) h_68 (Nat.not_lt.mpr h_82) (fun z => h_150 z.2)).symm | exact congrArg (fun w => [iA G a 427 w]) (rRd_e (h := h) (g := g) (by omega) h_68 (Nat.not_lt.mpr h_82) (fun z => absurd z.1 (Nat.not_lt.mpr h_141))).symm
                                    · refine V_aload_n (i := 0) dX7_readOrder_144 rfl rfl ?_
                                      refine V_iload_n (i := 2) dX7_readOrder_145 rfl rfl ?_
                                      refine V_bipush (v := 7) dX7_readOrder_146 (by decide) ?_
                                      refine V_iadd dX7_readOrder_148 ?_
                                      refine V_iald (q := 0) rfl (by omega) rfl dX7_readOrder_149 ?_
                                      refine V_if_ne (tgt := 164) (show rG4 h g (384 + 13 * h + 7) < 4294967296 by rw [show 384 + 13 * h + 7 = 384 + 13 * h + 4 + 3 by omega, rG4_at (by omega) (by decide)]; have := hv (g (384 + 13 * h + 1) + 3) (by omega); omega) dX7_readOrder_150 rfl (fun h_150 => ?_) (fun h_150 => ?_)
                                      · refine V_vret hR dX7_readOrder_164 hkc hks ?_
                                        refine ⟨rfl, ?_⟩
                                        first | exact congrArg (fun w => [iA G a 427 w]) (rRd_a (h := h) (g := g) (by omega)).symm | exact congrArg (fun w => [iA G a 427 w]) (rRd_b (h := h) (g := g) (by omega) h_68).symm | exact congrArg (fun w => [iA G a 427 w]) (rRd_c (h := h) (g := g) (by omega) h_68 (Nat.lt_of_not_le h_82)).symm | exact congrArg (fun w => [iA G a 427 w]) (rRd_d (h := h) (g := g) (by omega) h_68 (Nat.not_lt.mpr h_82) ⟨Nat.lt_of_not_le h_141, h_150⟩).symm | exact congrArg (fun w => [iA G a 427 w]) (rRd_e (h := h) (g := g) (by omega) h_68 (Nat.not_lt.mpr h_82) (fun z => h_150 z.2)).symm | exact congrArg (fun w => [iA G a 427 w]) (rRd_e (h := h) (g := g) (by omega) h_68 (Nat.not_lt.mpr h_82) (fun z => absurd z.1 (Nat.not_lt.mpr h_141))).symm
                                      · refine V_aload_n (i := 0) dX7_readOrder_153 rfl rfl ?_
                                        refine V_iload_n (i := 1) dX7_readOrder_154 rfl rfl ?_
                                        refine V_aload_n (i := 0) dX7_readOrder_155 rfl rfl ?_
                                        refine V_iload_n (i := 2) dX7_readOrder_156 rfl rfl ?_
                                        refine V_bipush (v := 9) dX7_readOrder_157 (by decide) ?_
                                        refine V_iadd dX7_readOrder_159 ?_
                                        refine V_iald (q := 0) rfl (by omega) rfl dX7_readOrder_160 ?_
                                        refine V_callS (As := _) (rest := []) [0] (c_X7_end l G a (rG4 h g) h (rG4 h g (384 + 13 * h + 9)) hh) vy_X7_end gX7_readOrder_X7_end rfl rfl rfl rfl ⟨rfl, rfl⟩ ⟨rfl, rfl⟩ ⟨Nat.zero_le _, Nat.zero_le _⟩ rfl dX7_readOrder_161 (fun v Y hE => ?_)
                                        obtain ⟨rfl, rfl⟩ := hE
                                        refine ⟨rfl, ?_⟩
                                        dsimp only [vfill, List.set_cons_zero, List.set_cons_succ, Option.toList, List.cons_append, List.nil_append, Nat.add_zero]
                                        refine V_vret hR dX7_readOrder_164 hkc hks ?_
                                        refine ⟨rfl, ?_⟩
                                        first | exact congrArg (fun w => [iA G a 427 w]) (rRd_a (h := h) (g := g) (by omega)).symm | exact congrArg (fun w => [iA G a 427 w]) (rRd_b (h := h) (g := g) (by omega) h_68).symm | exact congrArg (fun w => [iA G a 427 w]) (rRd_c (h := h) (g := g) (by omega) h_68 (Nat.lt_of_not_le h_82)).symm | exact congrArg (fun w => [iA G a 427 w]) (rRd_d (h := h) (g := g) (by omega) h_68 (Nat.not_lt.mpr h_82) ⟨Nat.lt_of_not_le h_141, h_150⟩).symm | exact congrArg (fun w => [iA G a 427 w]) (rRd_e (h := h) (g := g) (by omega) h_68 (Nat.not_lt.mpr h_82) (fun z => h_150 z.2)).symm | exact congrArg (fun w => [iA G a 427 w]) (rRd_e (h := h) (g := g) (by omega) h_68 (Nat.not_lt.mpr h_82) (fun z => absurd z.1 (Nat.not_lt.mpr h_141))).symm
                                  · exfalso; omega
                    · refine V_aload_n (i := 0) dX7_readOrder_85 rfl rfl ?_
                      refine V_iload_n (i := 1) dX7_readOrder_86 rfl rfl ?_
                      refine V_iconst (v := 2) dX7_readOrder_87 rfl ?_
                      refine V_callS (As := _) (rest := []) [0] (c_X7_fail l G a (rG2 h g) h 2 hh) vy_X7_fail gX7_readOrder_X7_fail rfl rfl rfl rfl ⟨rfl, rfl⟩ ⟨rfl, rfl⟩ ⟨Nat.zero_le _, Nat.zero_le _⟩ rfl dX7_readOrder_88 (fun v Y hE => ?_)
                      obtain ⟨rfl, rfl⟩ := hE
                      refine ⟨rfl, ?_⟩
                      dsimp only [vfill, List.set_cons_zero, List.set_cons_succ, Option.toList, List.cons_append, List.nil_append, Nat.add_zero]
                      refine V_goto (tgt := 164) dX7_readOrder_91 rfl ?_
                      refine V_vret hR dX7_readOrder_164 hkc hks ?_
                      refine ⟨rfl, ?_⟩
                      first | exact congrArg (fun w => [iA G a 427 w]) (rRd_a (h := h) (g := g) (by omega)).symm | exact congrArg (fun w => [iA G a 427 w]) (rRd_b (h := h) (g := g) (by omega) h_68).symm | exact congrArg (fun w => [iA G a 427 w]) (rRd_c (h := h) (g := g) (by omega) h_68 (Nat.lt_of_not_le h_82)).symm | exact congrArg (fun w => [iA G a 427 w]) (rRd_d (h := h) (g := g) (by omega) h_68 (Nat.not_lt.mpr h_82) ⟨Nat.lt_of_not_le h_141, h_150⟩).symm | exact congrArg (fun w => [iA G a 427 w]) (rRd_e (h := h) (g := g) (by omega) h_68 (Nat.not_lt.mpr h_82) (fun z => h_150 z.2)).symm | exact congrArg (fun w => [iA G a 427 w]) (rRd_e (h := h) (g := g) (by omega) h_68 (Nat.not_lt.mpr h_82) (fun z => absurd z.1 (Nat.not_lt.mpr h_141))).symm
                  · refine V_aload_n (i := 0) dX7_readOrder_71 rfl rfl ?_
                    refine V_iload_n (i := 2) dX7_readOrder_72 rfl rfl ?_
                    refine V_iconst (v := 2) dX7_readOrder_73 rfl ?_
                    refine V_iast (q := 0) rfl (by omega) rfl dX7_readOrder_74 ?_
                    dsimp only [List.set_cons_zero, List.set_cons_succ]
                    refine V_goto (tgt := 164) dX7_readOrder_75 rfl ?_
                    refine V_vret hR dX7_readOrder_164 hkc hks ?_
                    refine ⟨rfl, ?_⟩
                    first | exact congrArg (fun w => [iA G a 427 w]) (rRd_a (h := h) (g := g) (by omega)).symm | exact congrArg (fun w => [iA G a 427 w]) (rRd_b (h := h) (g := g) (by omega) h_68).symm | exact congrArg (fun w => [iA G a 427 w]) (rRd_c (h := h) (g := g) (by omega) h_68 (Nat.lt_of_not_le h_82)).symm | exact congrArg (fun w => [iA G a 427 w]) (rRd_d (h := h) (g := g) (by omega) h_68 (Nat.not_lt.mpr h_82) ⟨Nat.lt_of_not_le h_141, h_150⟩).symm | exact congrArg (fun w => [iA G a 427 w]) (rRd_e (h := h) (g := g) (by omega) h_68 (Nat.not_lt.mpr h_82) (fun z => h_150 z.2)).symm | exact congrArg (fun w => [iA G a 427 w]) (rRd_e (h := h) (g := g) (by omega) h_68 (Nat.not_lt.mpr h_82) (fun z => absurd z.1 (Nat.not_lt.mpr h_141))).symm
                · exfalso; omega
  · refine V_aload_n (i := 0) dX7_readOrder_17 rfl rfl ?_
    refine V_iload_n (i := 1) dX7_readOrder_18 rfl rfl ?_
    refine V_iconst (v := 1) dX7_readOrder_19 rfl ?_
    refine V_callS (As := _) (rest := []) [0] (c_X7_fail l G a g h 1 hh) vy_X7_fail gX7_readOrder_X7_fail rfl rfl rfl rfl ⟨rfl, rfl⟩ ⟨rfl, rfl⟩ ⟨Nat.zero_le _, Nat.zero_le _⟩ rfl dX7_readOrder_20 (fun v Y hE => ?_)
    obtain ⟨rfl, rfl⟩ := hE
    refine ⟨rfl, ?_⟩
    dsimp only [vfill, List.set_cons_zero, List.set_cons_succ, Option.toList, List.cons_append, List.nil_append, Nat.add_zero]
    refine V_vret hR dX7_readOrder_23 hkc hks ?_
    refine ⟨rfl, ?_⟩
    first | exact congrArg (fun w => [iA G a 427 w]) (rRd_a (h := h) (g := g) (by omega)).symm | exact congrArg (fun w => [iA G a 427 w]) (rRd_b (h := h) (g := g) (by omega) h_68).symm | exact congrArg (fun w => [iA G a 427 w]) (rRd_c (h := h) (g := g) (by omega) h_68 (Nat.lt_of_not_le h_82)).symm | exact congrArg (fun w => [iA G a 427 w]) (rRd_d (h := h) (g := g) (by omega) h_68 (Nat.not_lt.mpr h_82) ⟨Nat.lt_of_not_le h_141, h_150⟩).symm | exact congrArg (fun w => [iA G a 427 w]) (rRd_e (h := h) (g := g) (by omega) h_68 (Nat.not_lt.mpr h_82) (fun z => h_150 z.2)).symm | exact congrArg (fun w => [iA G a 427 w]) (rRd_e (h := h) (g := g) (by omega) h_68 (Nat.not_lt.mpr h_82) (fun z => absurd z.1 (Nat.not_lt.mpr h_141))).symm

abbrev rX7_isOwn : Room := { frames := 0, cells := 0, slots := 0, locals := 0 }
theorem vy_X7_isOwn : vY yX7_isOwn wsX7_isOwn cX7_isOwn 3 (some .boolean) 3 := ⟨⟨_, rfl⟩, by decide +kernel, by decide +kernel, by decide +kernel⟩
set_option maxHeartbeats 4000000 in
set_option maxRecDepth 100000 in
/-- isOwn -/
theorem c_X7_isOwn (l : Launch) (G : vG) (a : Nat) (g : Nat → Nat) (h c : Nat) (hh : h < 3) (hc : c < 96) (ho : g (96 + c) < 4) : Kc l G yX7_isOwn wsX7_isOwn rX7_isOwn [.ref a, .int (nI h), .int (nI c)] [iA G a 427 g] (fun v Y => v = some (.int (nI (rOw h c g))) ∧ Y = [iA G a 427 g]) 0 0 := by
  refine V_enter (own := RX7) [some (.ref a), some (.int (nI h)), some (.int (nI c))] (by decide +kernel) rfl rfl (Nat.le_of_ble_eq_true rfl) rfl (fun Γ hR hin => ?_)
  have hkc : 0 ≤ 0 := Nat.le_refl 0
  have hks : 0 ≤ 0 := Nat.le_refl 0
  refine V_aload_n (i := 0) dX7_isOwn_0 rfl rfl ?_
  refine V_bipush (v := 96) dX7_isOwn_1 (by decide) ?_
  refine V_iload_n (i := 2) dX7_isOwn_3 rfl rfl ?_
  refine V_iadd dX7_isOwn_4 ?_
  refine V_iald (q := 0) rfl (by omega) rfl dX7_isOwn_5 ?_
  refine V_if_eq (tgt := 21) (by omega) dX7_isOwn_6 rfl (fun h_6 => ?_) (fun h_6 => ?_)
  · refine V_iconst (v := 1) dX7_isOwn_21 rfl ?_
    refine V_goto (tgt := 26) dX7_isOwn_22 rfl ?_
    refine V_zret hR dX7_isOwn_26 (by first | exact Or.inl rfl | exact Or.inr rfl | omega) hkc hks ?_
    refine ⟨?_, rfl⟩
    unfold rOw
    first | (rw [if_pos (by omega)]; done) | (rw [if_neg (by omega)]; done)
  · refine V_aload_n (i := 0) dX7_isOwn_9 rfl rfl ?_
    refine V_bipush (v := 96) dX7_isOwn_10 (by decide) ?_
    refine V_iload_n (i := 2) dX7_isOwn_12 rfl rfl ?_
    refine V_iadd dX7_isOwn_13 ?_
    refine V_iald (q := 0) rfl (by omega) rfl dX7_isOwn_14 ?_
    refine V_iload_n (i := 1) dX7_isOwn_15 rfl rfl ?_
    refine V_iconst (v := 1) dX7_isOwn_16 rfl ?_
    refine V_iadd dX7_isOwn_17 ?_
    refine V_icmp_ne (tgt := 25) (by omega) (by omega) dX7_isOwn_18 rfl (fun h_18 => ?_) (fun h_18 => ?_)
    · refine V_iconst (v := 0) dX7_isOwn_25 rfl ?_
      refine V_zret hR dX7_isOwn_26 (by first | exact Or.inl rfl | exact Or.inr rfl | omega) hkc hks ?_
      refine ⟨?_, rfl⟩
      unfold rOw
      first | (rw [if_pos (by omega)]; done) | (rw [if_neg (by omega)]; done)
    · refine V_iconst (v := 1) dX7_isOwn_21 rfl ?_
      refine V_goto (tgt := 26) dX7_isOwn_22 rfl ?_
      refine V_zret hR dX7_isOwn_26 (by first | exact Or.inl rfl | exact Or.inr rfl | omega) hkc hks ?_
      refine ⟨?_, rfl⟩
      unfold rOw
      first | (rw [if_pos (by omega)]; done) | (rw [if_neg (by omega)]; done)

abbrev rX7_choose : Room := { frames := 2, cells := 0, slots := 0, locals := 42 }
theorem vy_X7_choose : vY yX7_choose wsX7_choose cX7_choose 3 none 2 := ⟨⟨_, rfl⟩, by decide +kernel, by decide +kernel, by decide +kernel⟩
set_option maxHeartbeats 4000000 in
set_option maxRecDepth 100000 in
/-- choose -/
theorem c_X7_choose (l : Launch) (G : vG) (a : Nat) (g : Nat → Nat) (h : Nat) (hh : h < 3) (h5 : g (384 + 13 * h + 5) < 100) (h6 : g (384 + 13 * h + 6) < 100) (hv : ∀ k, k < 96 → g k < 100) : Kc l G yX7_choose wsX7_choose rX7_choose [.ref a, .int (nI h)] [iA G a 427 g] (fun v Y => v = none ∧ Y = [iA G a 427 (rCh h g)]) 0 0 := by
  refine V_enter (own := RX7) [some (.ref a), some (.int (nI h)), none] (by decide +kernel) rfl rfl (Nat.le_of_ble_eq_true rfl) rfl (fun Γ hR hin => ?_)
  have hkc : 0 ≤ 0 := Nat.le_refl 0
  have hks : 0 ≤ 0 := Nat.le_refl 0
  refine V_iload_n (i := 1) dX7_choose_0 rfl rfl ?_
  refine V_callS (As := _) (rest := []) [] (c_X7_at l G (h)) vy_X7_at gX7_choose_X7_at rfl rfl rfl rfl ⟨rfl, rfl⟩ ⟨rfl, rfl⟩ ⟨Nat.zero_le _, Nat.zero_le _⟩ rfl dX7_choose_1 (fun v Y hE => ?_)
  obtain ⟨rfl, rfl⟩ := hE
  refine ⟨rfl, ?_⟩
  dsimp only [vfill, List.set_cons_zero, List.set_cons_succ, Option.toList, List.cons_append, List.nil_append, Nat.add_zero]
  refine V_istore_n (i := 2) dX7_choose_4 rfl rfl rfl ?_
  dsimp only [List.set_cons_zero, List.set_cons_succ]
  refine V_aload_n (i := 0) dX7_choose_5 rfl rfl ?_
  refine V_iload_n (i := 2) dX7_choose_6 rfl rfl ?_
  refine V_iconst (v := 5) dX7_choose_7 rfl ?_
  refine V_iadd dX7_choose_8 ?_
  refine V_iald (q := 0) rfl (by omega) rfl dX7_choose_9 ?_
  refine V_bipush (v := 96) dX7_choose_10 (by decide) ?_
  refine V_icmp_lt (tgt := 24) (by omega) (by omega) dX7_choose_12 rfl (fun h_12 => ?_) (fun h_12 => ?_)
  · refine V_aload_n (i := 0) dX7_choose_24 rfl rfl ?_
    refine V_iload_n (i := 1) dX7_choose_25 rfl rfl ?_
    refine V_aload_n (i := 0) dX7_choose_26 rfl rfl ?_
    refine V_aload_n (i := 0) dX7_choose_27 rfl rfl ?_
    refine V_iload_n (i := 2) dX7_choose_28 rfl rfl ?_
    refine V_iconst (v := 5) dX7_choose_29 rfl ?_
    refine V_iadd dX7_choose_30 ?_
    refine V_iald (q := 0) rfl (by omega) rfl dX7_choose_31 ?_
    refine V_iald (q := 0) rfl (by omega) rfl dX7_choose_32 ?_
    refine V_aload_n (i := 0) dX7_choose_33 rfl rfl ?_
    refine V_iload_n (i := 2) dX7_choose_34 rfl rfl ?_
    refine V_bipush (v := 6) dX7_choose_35 (by decide) ?_
    refine V_iadd dX7_choose_37 ?_
    refine V_iald (q := 0) rfl (by omega) rfl dX7_choose_38 ?_
    refine V_icmp_ne (tgt := 51) (by have := hv (g (384 + 13 * h + 5)) (by omega); omega) (by have := hv (g (384 + 13 * h + 5)) (by omega); omega) dX7_choose_39 rfl (fun h_39 => ?_) (fun h_39 => ?_)
    · refine V_aload_n (i := 0) dX7_choose_51 rfl rfl ?_
      refine V_iload_n (i := 2) dX7_choose_52 rfl rfl ?_
      refine V_iconst (v := 3) dX7_choose_53 rfl ?_
      refine V_iadd dX7_choose_54 ?_
      refine V_iald (q := 0) rfl (by omega) rfl dX7_choose_55 ?_
      refine V_bipush (v := 6) dX7_choose_56 (by decide) ?_
      refine V_iadd dX7_choose_58 ?_
      refine V_callS (As := _) (rest := []) [0] (c_X7_end l G a g h _ hh) vy_X7_end gX7_choose_X7_end rfl rfl rfl rfl ⟨rfl, rfl⟩ ⟨rfl, rfl⟩ ⟨Nat.zero_le _, Nat.zero_le _⟩ rfl dX7_choose_59 (fun v Y hE => ?_)
      obtain ⟨rfl, rfl⟩ := hE
      refine ⟨rfl, ?_⟩
      dsimp only [vfill, List.set_cons_zero, List.set_cons_succ, Option.toList, List.cons_append, List.nil_append, Nat.add_zero]
      refine V_vret hR dX7_choose_62 hkc hks ?_
      refine ⟨rfl, ?_⟩
      unfold rCh
      first | (rw [if_neg h_12]; done) | (rw [if_pos h_12, if_neg h_39]; done) | (rw [if_pos h_12, if_pos h_39]; done)
    · refine V_aload_n (i := 0) dX7_choose_42 rfl rfl ?_
      refine V_iload_n (i := 2) dX7_choose_43 rfl rfl ?_
      refine V_bipush (v := 9) dX7_choose_44 (by decide) ?_
      refine V_iadd dX7_choose_46 ?_
      refine V_iald (q := 0) rfl (by omega) rfl dX7_choose_47 ?_
      refine V_goto (tgt := 59) dX7_choose_48 rfl ?_
      refine V_callS (As := _) (rest := []) [0] (c_X7_end l G a g h _ hh) vy_X7_end gX7_choose_X7_end rfl rfl rfl rfl ⟨rfl, rfl⟩ ⟨rfl, rfl⟩ ⟨Nat.zero_le _, Nat.zero_le _⟩ rfl dX7_choose_59 (fun v Y hE => ?_)
      obtain ⟨rfl, rfl⟩ := hE
      refine ⟨rfl, ?_⟩
      dsimp only [vfill, List.set_cons_zero, List.set_cons_succ, Option.toList, List.cons_append, List.nil_append, Nat.add_zero]
      refine V_vret hR dX7_choose_62 hkc hks ?_
      refine ⟨rfl, ?_⟩
      unfold rCh
      first | (rw [if_neg h_12]; done) | (rw [if_pos h_12, if_neg h_39]; done) | (rw [if_pos h_12, if_pos h_39]; done)
  · refine V_aload_n (i := 0) dX7_choose_15 rfl rfl ?_
    refine V_iload_n (i := 1) dX7_choose_16 rfl rfl ?_
    refine V_iconst (v := 3) dX7_choose_17 rfl ?_
    refine V_callS (As := _) (rest := []) [0] (c_X7_fail l G a g h 3 hh) vy_X7_fail gX7_choose_X7_fail rfl rfl rfl rfl ⟨rfl, rfl⟩ ⟨rfl, rfl⟩ ⟨Nat.zero_le _, Nat.zero_le _⟩ rfl dX7_choose_18 (fun v Y hE => ?_)
    obtain ⟨rfl, rfl⟩ := hE
    refine ⟨rfl, ?_⟩
    dsimp only [vfill, List.set_cons_zero, List.set_cons_succ, Option.toList, List.cons_append, List.nil_append, Nat.add_zero]
    refine V_goto (tgt := 62) dX7_choose_21 rfl ?_
    refine V_vret hR dX7_choose_62 hkc hks ?_
    refine ⟨rfl, ?_⟩
    unfold rCh
    first | (rw [if_neg h_12]; done) | (rw [if_pos h_12, if_neg h_39]; done) | (rw [if_pos h_12, if_pos h_39]; done)

abbrev rX7_write : Room := { frames := 1, cells := 0, slots := 0, locals := 20 }
theorem vy_X7_write : vY yX7_write wsX7_write cX7_write 5 none 4 := ⟨⟨_, rfl⟩, by decide +kernel, by decide +kernel, by decide +kernel⟩
theorem fl_X7_write_32 : Cond.fieldLink RX7 32 "OrderChainsModel" "by" "[I" ∈ wsX7_write := List.mem_of_getElem? (i := 3) rfl
theorem il_X7_write_X7 : ∀ w ∈ wsX70, w ∈ wsX7_write := fun _ h => List.mem_cons_of_mem _ (List.mem_append_right _ h)
theorem fl_X7_write_56 : Cond.fieldLink RX7 56 "OrderChainsModel" "firstCell" "I" ∈ wsX7_write := List.mem_of_getElem? (i := 1) rfl
theorem fl_X7_write_53 : Cond.fieldLink RX7 53 "OrderChainsModel" "firstChannel" "I" ∈ wsX7_write := List.mem_of_getElem? (i := 2) rfl
set_option maxHeartbeats 4000000 in
set_option maxRecDepth 100000 in
/-- write -/
theorem c_X7_write (l : Launch) (G : vG) (B z b : Nat → Nat) (a : Nat) (g : Nat → Nat) (h c v : Nat) (hh : h < 3) (hc : c < 96) (hm : g (192 + c) < 2) (hz : z 5 < 4294967296) : Kc l G yX7_write wsX7_write rX7_write [.ref (B 0), .ref a, .int (nI h), .int (nI c), .int (nI v)] [mO B z, iA G a 427 g, iA G (B 8) 96 b] (fun r Y => r = none ∧ Y = w3 G B a (rWr h c v (z, g, b))) 0 0 := by
  refine V_enter (own := RX7) [some (.ref (B 0)), some (.ref a), some (.int (nI h)), some (.int (nI c)), some (.int (nI v))] (by decide +kernel) rfl rfl (Nat.le_of_ble_eq_true rfl) rfl (fun Γ hR hin => ?_)
  have hkc : 0 ≤ 0 := Nat.le_refl 0
  have hks : 0 ≤ 0 := Nat.le_refl 0
  refine V_aload_n (i := 1) dX7_write_0 rfl rfl ?_
  refine V_iload_n (i := 3) dX7_write_1 rfl rfl ?_
  refine V_iload (i := 4) dX7_write_2 rfl ?_
  refine V_iast (q := 1) rfl (by omega) rfl dX7_write_4 ?_
  dsimp only [List.set_cons_zero, List.set_cons_succ]
  refine V_aload_n (i := 1) dX7_write_5 rfl rfl ?_
  refine V_sipush (v := 192) dX7_write_6 (by decide) ?_
  refine V_iload_n (i := 3) dX7_write_9 rfl rfl ?_
  refine V_iadd dX7_write_10 ?_
  refine V_iald (q := 1) rfl (by omega) rfl dX7_write_11 ?_
  refine V_iconst (v := 1) dX7_write_12 rfl ?_
  refine V_icmp_ne (tgt := 67) (by rw [up_n (by omega)]; omega) (by omega) dX7_write_13 rfl (fun h_13 => ?_) (fun h_13 => ?_)
  · refine V_aload_n (i := 1) dX7_write_67 rfl rfl ?_
    refine V_sipush (v := 288) dX7_write_68 (by decide) ?_
    refine V_iload_n (i := 3) dX7_write_71 rfl rfl ?_
    refine V_iadd dX7_write_72 ?_
    refine V_iload_n (i := 2) dX7_write_73 rfl rfl ?_
    refine V_iconst (v := 1) dX7_write_74 rfl ?_
    refine V_iadd dX7_write_75 ?_
    refine V_iast (q := 1) rfl (by omega) rfl dX7_write_76 ?_
    dsimp only [List.set_cons_zero, List.set_cons_succ]
    refine V_aload_n (i := 1) dX7_write_77 rfl rfl ?_
    refine V_sipush (v := 425) dX7_write_78 (by decide) ?_
    refine V_dup2 dX7_write_81 rfl rfl ?_
    refine V_iald (q := 1) rfl (by omega) rfl dX7_write_82 ?_
    refine V_iconst (v := 1) dX7_write_83 rfl ?_
    refine V_iadd dX7_write_84 ?_
    refine V_iast (q := 1) rfl (by omega) rfl dX7_write_85 ?_
    dsimp only [List.set_cons_zero, List.set_cons_succ]
    refine V_aload_n (i := 1) dX7_write_86 rfl rfl ?_
    refine V_iload_n (i := 2) dX7_write_87 rfl rfl ?_
    refine V_callS (As := _) (rest := _) [] (c_X7_at l G (h)) vy_X7_at gX7_write_X7_at rfl rfl rfl rfl ⟨rfl, rfl⟩ ⟨rfl, rfl⟩ ⟨Nat.zero_le _, Nat.zero_le _⟩ rfl dX7_write_88 (fun v Y hE => ?_)
    obtain ⟨rfl, rfl⟩ := hE
    refine ⟨rfl, ?_⟩
    dsimp only [vfill, List.set_cons_zero, List.set_cons_succ, Option.toList, List.cons_append, List.nil_append, Nat.add_zero]
    refine V_bipush (v := 12) dX7_write_91 (by decide) ?_
    refine V_iadd dX7_write_93 ?_
    refine V_dup2 dX7_write_94 rfl rfl ?_
    refine V_iald (q := 1) rfl (by omega) rfl dX7_write_95 ?_
    refine V_iconst (v := 1) dX7_write_96 rfl ?_
    refine V_iadd dX7_write_97 ?_
    refine V_iast (q := 1) rfl (by omega) rfl dX7_write_98 ?_
    dsimp only [List.set_cons_zero, List.set_cons_succ]
    refine V_aload_n (i := 0) dX7_write_99 rfl rfl ?_
    refine V_get (C := RX7) (T := TX7) (N := 17) (ci := 6) (q := 0) (ref := "OrderChainsModel") 11 rfl il_X7_write_X7 rfl rfl fl_X7_write_32 rfl rfl dX7_write_100 ?_
    refine V_iload_n (i := 3) dX7_write_103 rfl rfl ?_
    refine V_dup2 dX7_write_104 rfl rfl ?_
    refine V_iald (q := 2) rfl (by omega) rfl dX7_write_105 ?_
    refine V_iconst (v := 1) dX7_write_106 rfl ?_
    refine V_iload_n (i := 2) dX7_write_107 rfl rfl ?_
    refine V_ishlG dX7_write_108 (nI_sh1 hh) ?_
    refine V_iorG dX7_write_109 (nI_or _ _) ?_
    refine V_iast (q := 2) rfl (by omega) rfl dX7_write_110 ?_
    dsimp only [List.set_cons_zero, List.set_cons_succ]
    refine V_vret hR dX7_write_111 hkc hks ?_
    refine ⟨rfl, ?_⟩
    first | exact congrArg (w3 G B a) (rWr_n (h := h) (c := c) (v := v) (z := z) (g := g) (b := b) h_13).symm | exact absurd h_53 h_32 | exact absurd h_32 h_53 | exact congrArg (w3 G B a) (rWr_a (h := h) (c := c) (v := v) (z := z) (g := g) (b := b) h_13 h_32).symm | exact congrArg (w3 G B a) (rWr_b (h := h) (c := c) (v := v) (z := z) (g := g) (b := b) h_13 h_32).symm
  · refine V_aload_n (i := 1) dX7_write_16 rfl rfl ?_
    refine V_sipush (v := 424) dX7_write_17 (by decide) ?_
    refine V_dup2 dX7_write_20 rfl rfl ?_
    refine V_iald (q := 1) rfl (by omega) rfl dX7_write_21 ?_
    refine V_iconst (v := 1) dX7_write_22 rfl ?_
    refine V_iadd dX7_write_23 ?_
    refine V_iast (q := 1) rfl (by omega) rfl dX7_write_24 ?_
    dsimp only [List.set_cons_zero, List.set_cons_succ]
    refine V_aload_n (i := 0) dX7_write_25 rfl rfl ?_
    refine V_aload_n (i := 0) dX7_write_26 rfl rfl ?_
    refine V_get (C := RX7) (T := TX7) (N := 17) (ci := 6) (q := 0) (ref := "OrderChainsModel") 13 rfl il_X7_write_X7 rfl rfl fl_X7_write_56 rfl rfl dX7_write_27 ?_
    refine V_bipush (v := 4294967287) dX7_write_30 (by decide) ?_
    refine V_icmp_ne (tgt := 39) (by omega) (by omega) dX7_write_32 rfl (fun h_32 => ?_) (fun h_32 => ?_)
    · refine V_aload_n (i := 0) dX7_write_39 rfl rfl ?_
      refine V_get (C := RX7) (T := TX7) (N := 17) (ci := 6) (q := 0) (ref := "OrderChainsModel") 12 rfl il_X7_write_X7 rfl rfl fl_X7_write_53 rfl rfl dX7_write_40 ?_
      refine V_put (C := RX7) (T := TX7) (N := 17) (ci := 6) (q := 0) (ref := "OrderChainsModel") (ty := .int) (ty0 := tyX7) 12 rfl il_X7_write_X7 tyX7_ok nmX7 rfl rfl fl_X7_write_53 rfl rfl rfl rfl rfl rfl dX7_write_43 ?_
      dsimp only [List.set_cons_zero, List.set_cons_succ]
      refine V_aload_n (i := 0) dX7_write_46 rfl rfl ?_
      refine V_aload_n (i := 0) dX7_write_47 rfl rfl ?_
      refine V_get (C := RX7) (T := TX7) (N := 17) (ci := 6) (q := 0) (ref := "OrderChainsModel") 13 rfl il_X7_write_X7 rfl rfl fl_X7_write_56 rfl rfl dX7_write_48 ?_
      refine V_bipush (v := 4294967287) dX7_write_51 (by decide) ?_
      refine V_icmp_ne (tgt := 60) (by omega) (by omega) dX7_write_53 rfl (fun h_53 => ?_) (fun h_53 => ?_)
      · refine V_aload_n (i := 0) dX7_write_60 rfl rfl ?_
        refine V_get (C := RX7) (T := TX7) (N := 17) (ci := 6) (q := 0) (ref := "OrderChainsModel") 13 rfl il_X7_write_X7 rfl rfl fl_X7_write_56 rfl rfl dX7_write_61 ?_
        refine V_put (C := RX7) (T := TX7) (N := 17) (ci := 6) (q := 0) (ref := "OrderChainsModel") (ty := .int) (ty0 := tyX7) 13 rfl il_X7_write_X7 tyX7_ok nmX7 rfl rfl fl_X7_write_56 rfl rfl rfl rfl rfl rfl dX7_write_64 ?_
        dsimp only [List.set_cons_zero, List.set_cons_succ]
        refine V_aload_n (i := 1) dX7_write_67 rfl rfl ?_
        refine V_sipush (v := 288) dX7_write_68 (by decide) ?_
        refine V_iload_n (i := 3) dX7_write_71 rfl rfl ?_
        refine V_iadd dX7_write_72 ?_
        refine V_iload_n (i := 2) dX7_write_73 rfl rfl ?_
        refine V_iconst (v := 1) dX7_write_74 rfl ?_
        refine V_iadd dX7_write_75 ?_
        refine V_iast (q := 1) rfl (by omega) rfl dX7_write_76 ?_
        dsimp only [List.set_cons_zero, List.set_cons_succ]
        refine V_aload_n (i := 1) dX7_write_77 rfl rfl ?_
        refine V_sipush (v := 425) dX7_write_78 (by decide) ?_
        refine V_dup2 dX7_write_81 rfl rfl ?_
        refine V_iald (q := 1) rfl (by omega) rfl dX7_write_82 ?_
        refine V_iconst (v := 1) dX7_write_83 rfl ?_
        refine V_iadd dX7_write_84 ?_
        refine V_iast (q := 1) rfl (by omega) rfl dX7_write_85 ?_
        dsimp only [List.set_cons_zero, List.set_cons_succ]
        refine V_aload_n (i := 1) dX7_write_86 rfl rfl ?_
        refine V_iload_n (i := 2) dX7_write_87 rfl rfl ?_
        refine V_callS (As := _) (rest := _) [] (c_X7_at l G (h)) vy_X7_at gX7_write_X7_at rfl rfl rfl rfl ⟨rfl, rfl⟩ ⟨rfl, rfl⟩ ⟨Nat.zero_le _, Nat.zero_le _⟩ rfl dX7_write_88 (fun v Y hE => ?_)
        obtain ⟨rfl, rfl⟩ := hE
        refine ⟨rfl, ?_⟩
        dsimp only [vfill, List.set_cons_zero, List.set_cons_succ, Option.toList, List.cons_append, List.nil_append, Nat.add_zero]
        refine V_bipush (v := 12) dX7_write_91 (by decide) ?_
        refine V_iadd dX7_write_93 ?_
        refine V_dup2 dX7_write_94 rfl rfl ?_
        refine V_iald (q := 1) rfl (by omega) rfl dX7_write_95 ?_
        refine V_iconst (v := 1) dX7_write_96 rfl ?_
        refine V_iadd dX7_write_97 ?_
        refine V_iast (q := 1) rfl (by omega) rfl dX7_write_98 ?_
        dsimp only [List.set_cons_zero, List.set_cons_succ]
        refine V_aload_n (i := 0) dX7_write_99 rfl rfl ?_
        refine V_get (C := RX7) (T := TX7) (N := 17) (ci := 6) (q := 0) (ref := "OrderChainsModel") 11 rfl il_X7_write_X7 rfl rfl fl_X7_write_32 rfl rfl dX7_write_100 ?_
        refine V_iload_n (i := 3) dX7_write_103 rfl rfl ?_
        refine V_dup2 dX7_write_104 rfl rfl ?_
        refine V_iald (q := 2) rfl (by omega) rfl dX7_write_105 ?_
        refine V_iconst (v := 1) dX7_write_106 rfl ?_
        refine V_iload_n (i := 2) dX7_write_107 rfl rfl ?_
        refine V_ishlG dX7_write_108 (nI_sh1 hh) ?_
        refine V_iorG dX7_write_109 (nI_or _ _) ?_
        refine V_iast (q := 2) rfl (by omega) rfl dX7_write_110 ?_
        dsimp only [List.set_cons_zero, List.set_cons_succ]
        refine V_vret hR dX7_write_111 hkc hks ?_
        refine ⟨rfl, ?_⟩
        first | exact congrArg (w3 G B a) (rWr_n (h := h) (c := c) (v := v) (z := z) (g := g) (b := b) h_13).symm | exact absurd h_53 h_32 | exact absurd h_32 h_53 | exact congrArg (w3 G B a) (rWr_a (h := h) (c := c) (v := v) (z := z) (g := g) (b := b) h_13 h_32).symm | exact congrArg (w3 G B a) (rWr_b (h := h) (c := c) (v := v) (z := z) (g := g) (b := b) h_13 h_32).symm
      · refine V_iload_n (i := 3) dX7_write_56 rfl rfl ?_
        refine V_goto (tgt := 64) dX7_write_57 rfl ?_
        refine V_put (C := RX7) (T := TX7) (N := 17) (ci := 6) (q := 0) (ref := "OrderChainsModel") (ty := .int) (ty0 := tyX7) 13 rfl il_X7_write_X7 tyX7_ok nmX7 rfl rfl fl_X7_write_56 rfl rfl rfl rfl rfl rfl dX7_write_64 ?_
        dsimp only [List.set_cons_zero, List.set_cons_succ]
        refine V_aload_n (i := 1) dX7_write_67 rfl rfl ?_
        refine V_sipush (v := 288) dX7_write_68 (by decide) ?_
        refine V_iload_n (i := 3) dX7_write_71 rfl rfl ?_
        refine V_iadd dX7_write_72 ?_
        refine V_iload_n (i := 2) dX7_write_73 rfl rfl ?_
        refine V_iconst (v := 1) dX7_write_74 rfl ?_
        refine V_iadd dX7_write_75 ?_
        refine V_iast (q := 1) rfl (by omega) rfl dX7_write_76 ?_
        dsimp only [List.set_cons_zero, List.set_cons_succ]
        refine V_aload_n (i := 1) dX7_write_77 rfl rfl ?_
        refine V_sipush (v := 425) dX7_write_78 (by decide) ?_
        refine V_dup2 dX7_write_81 rfl rfl ?_
        refine V_iald (q := 1) rfl (by omega) rfl dX7_write_82 ?_
        refine V_iconst (v := 1) dX7_write_83 rfl ?_
        refine V_iadd dX7_write_84 ?_
        refine V_iast (q := 1) rfl (by omega) rfl dX7_write_85 ?_
        dsimp only [List.set_cons_zero, List.set_cons_succ]
        refine V_aload_n (i := 1) dX7_write_86 rfl rfl ?_
        refine V_iload_n (i := 2) dX7_write_87 rfl rfl ?_
        refine V_callS (As := _) (rest := _) [] (c_X7_at l G (h)) vy_X7_at gX7_write_X7_at rfl rfl rfl rfl ⟨rfl, rfl⟩ ⟨rfl, rfl⟩ ⟨Nat.zero_le _, Nat.zero_le _⟩ rfl dX7_write_88 (fun v Y hE => ?_)
        obtain ⟨rfl, rfl⟩ := hE
        refine ⟨rfl, ?_⟩
        dsimp only [vfill, List.set_cons_zero, List.set_cons_succ, Option.toList, List.cons_append, List.nil_append, Nat.add_zero]
        refine V_bipush (v := 12) dX7_write_91 (by decide) ?_
        refine V_iadd dX7_write_93 ?_
        refine V_dup2 dX7_write_94 rfl rfl ?_
        refine V_iald (q := 1) rfl (by omega) rfl dX7_write_95 ?_
        refine V_iconst (v := 1) dX7_write_96 rfl ?_
        refine V_iadd dX7_write_97 ?_
        refine V_iast (q := 1) rfl (by omega) rfl dX7_write_98 ?_
        dsimp only [List.set_cons_zero, List.set_cons_succ]
        refine V_aload_n (i := 0) dX7_write_99 rfl rfl ?_
        refine V_get (C := RX7) (T := TX7) (N := 17) (ci := 6) (q := 0) (ref := "OrderChainsModel") 11 rfl il_X7_write_X7 rfl rfl fl_X7_write_32 rfl rfl dX7_write_100 ?_
        refine V_iload_n (i := 3) dX7_write_103 rfl rfl ?_
        refine V_dup2 dX7_write_104 rfl rfl ?_
        refine V_iald (q := 2) rfl (by omega) rfl dX7_write_105 ?_
        refine V_iconst (v := 1) dX7_write_106 rfl ?_
        refine V_iload_n (i := 2) dX7_write_107 rfl rfl ?_
        refine V_ishlG dX7_write_108 (nI_sh1 hh) ?_
        refine V_iorG dX7_write_109 (nI_or _ _) ?_
        refine V_iast (q := 2) rfl (by omega) rfl dX7_write_110 ?_
        dsimp only [List.set_cons_zero, List.set_cons_succ]
        refine V_vret hR dX7_write_111 hkc hks ?_
        refine ⟨rfl, ?_⟩
        first | exact congrArg (w3 G B a) (rWr_n (h := h) (c := c) (v := v) (z := z) (g := g) (b := b) h_13).symm | exact absurd h_53 h_32 | exact absurd h_32 h_53 | exact congrArg (w3 G B a) (rWr_a (h := h) (c := c) (v := v) (z := z) (g := g) (b := b) h_13 h_32).symm | exact congrArg (w3 G B a) (rWr_b (h := h) (c := c) (v := v) (z := z) (g := g) (b := b) h_13 h_32).symm
    · refine V_iload_n (i := 2) dX7_write_35 rfl rfl ?_
      refine V_goto (tgt := 43) dX7_write_36 rfl ?_
      refine V_put (C := RX7) (T := TX7) (N := 17) (ci := 6) (q := 0) (ref := "OrderChainsModel") (ty := .int) (ty0 := tyX7) 12 rfl il_X7_write_X7 tyX7_ok nmX7 rfl rfl fl_X7_write_53 rfl rfl rfl rfl rfl rfl dX7_write_43 ?_
      dsimp only [List.set_cons_zero, List.set_cons_succ]
      refine V_aload_n (i := 0) dX7_write_46 rfl rfl ?_
      refine V_aload_n (i := 0) dX7_write_47 rfl rfl ?_
      refine V_get (C := RX7) (T := TX7) (N := 17) (ci := 6) (q := 0) (ref := "OrderChainsModel") 13 rfl il_X7_write_X7 rfl rfl fl_X7_write_56 rfl rfl dX7_write_48 ?_
      refine V_bipush (v := 4294967287) dX7_write_51 (by decide) ?_
      refine V_icmp_ne (tgt := 60) (by omega) (by omega) dX7_write_53 rfl (fun h_53 => ?_) (fun h_53 => ?_)
      · refine V_aload_n (i := 0) dX7_write_60 rfl rfl ?_
        refine V_get (C := RX7) (T := TX7) (N := 17) (ci := 6) (q := 0) (ref := "OrderChainsModel") 13 rfl il_X7_write_X7 rfl rfl fl_X7_write_56 rfl rfl dX7_write_61 ?_
        refine V_put (C := RX7) (T := TX7) (N := 17) (ci := 6) (q := 0) (ref := "OrderChainsModel") (ty := .int) (ty0 := tyX7) 13 rfl il_X7_write_X7 tyX7_ok nmX7 rfl rfl fl_X7_write_56 rfl rfl rfl rfl rfl rfl dX7_write_64 ?_
        dsimp only [List.set_cons_zero, List.set_cons_succ]
        refine V_aload_n (i := 1) dX7_write_67 rfl rfl ?_
        refine V_sipush (v := 288) dX7_write_68 (by decide) ?_
        refine V_iload_n (i := 3) dX7_write_71 rfl rfl ?_
        refine V_iadd dX7_write_72 ?_
        refine V_iload_n (i := 2) dX7_write_73 rfl rfl ?_
        refine V_iconst (v := 1) dX7_write_74 rfl ?_
        refine V_iadd dX7_write_75 ?_
        refine V_iast (q := 1) rfl (by omega) rfl dX7_write_76 ?_
        dsimp only [List.set_cons_zero, List.set_cons_succ]
        refine V_aload_n (i := 1) dX7_write_77 rfl rfl ?_
        refine V_sipush (v := 425) dX7_write_78 (by decide) ?_
        refine V_dup2 dX7_write_81 rfl rfl ?_
        refine V_iald (q := 1) rfl (by omega) rfl dX7_write_82 ?_
        refine V_iconst (v := 1) dX7_write_83 rfl ?_
        refine V_iadd dX7_write_84 ?_
        refine V_iast (q := 1) rfl (by omega) rfl dX7_write_85 ?_
        dsimp only [List.set_cons_zero, List.set_cons_succ]
        refine V_aload_n (i := 1) dX7_write_86 rfl rfl ?_
        refine V_iload_n (i := 2) dX7_write_87 rfl rfl ?_
        refine V_callS (As := _) (rest := _) [] (c_X7_at l G (h)) vy_X7_at gX7_write_X7_at rfl rfl rfl rfl ⟨rfl, rfl⟩ ⟨rfl, rfl⟩ ⟨Nat.zero_le _, Nat.zero_le _⟩ rfl dX7_write_88 (fun v Y hE => ?_)
        obtain ⟨rfl, rfl⟩ := hE
        refine ⟨rfl, ?_⟩
        dsimp only [vfill, List.set_cons_zero, List.set_cons_succ, Option.toList, List.cons_append, List.nil_append, Nat.add_zero]
        refine V_bipush (v := 12) dX7_write_91 (by decide) ?_
        refine V_iadd dX7_write_93 ?_
        refine V_dup2 dX7_write_94 rfl rfl ?_
        refine V_iald (q := 1) rfl (by omega) rfl dX7_write_95 ?_
        refine V_iconst (v := 1) dX7_write_96 rfl ?_
        refine V_iadd dX7_write_97 ?_
        refine V_iast (q := 1) rfl (by omega) rfl dX7_write_98 ?_
        dsimp only [List.set_cons_zero, List.set_cons_succ]
        refine V_aload_n (i := 0) dX7_write_99 rfl rfl ?_
        refine V_get (C := RX7) (T := TX7) (N := 17) (ci := 6) (q := 0) (ref := "OrderChainsModel") 11 rfl il_X7_write_X7 rfl rfl fl_X7_write_32 rfl rfl dX7_write_100 ?_
        refine V_iload_n (i := 3) dX7_write_103 rfl rfl ?_
        refine V_dup2 dX7_write_104 rfl rfl ?_
        refine V_iald (q := 2) rfl (by omega) rfl dX7_write_105 ?_
        refine V_iconst (v := 1) dX7_write_106 rfl ?_
        refine V_iload_n (i := 2) dX7_write_107 rfl rfl ?_
        refine V_ishlG dX7_write_108 (nI_sh1 hh) ?_
        refine V_iorG dX7_write_109 (nI_or _ _) ?_
        refine V_iast (q := 2) rfl (by omega) rfl dX7_write_110 ?_
        dsimp only [List.set_cons_zero, List.set_cons_succ]
        refine V_vret hR dX7_write_111 hkc hks ?_
        refine ⟨rfl, ?_⟩
        first | exact congrArg (w3 G B a) (rWr_n (h := h) (c := c) (v := v) (z := z) (g := g) (b := b) h_13).symm | exact absurd h_53 h_32 | exact absurd h_32 h_53 | exact congrArg (w3 G B a) (rWr_a (h := h) (c := c) (v := v) (z := z) (g := g) (b := b) h_13 h_32).symm | exact congrArg (w3 G B a) (rWr_b (h := h) (c := c) (v := v) (z := z) (g := g) (b := b) h_13 h_32).symm
      · refine V_iload_n (i := 3) dX7_write_56 rfl rfl ?_
        refine V_goto (tgt := 64) dX7_write_57 rfl ?_
        refine V_put (C := RX7) (T := TX7) (N := 17) (ci := 6) (q := 0) (ref := "OrderChainsModel") (ty := .int) (ty0 := tyX7) 13 rfl il_X7_write_X7 tyX7_ok nmX7 rfl rfl fl_X7_write_56 rfl rfl rfl rfl rfl rfl dX7_write_64 ?_
        dsimp only [List.set_cons_zero, List.set_cons_succ]
        refine V_aload_n (i := 1) dX7_write_67 rfl rfl ?_
        refine V_sipush (v := 288) dX7_write_68 (by decide) ?_
        refine V_iload_n (i := 3) dX7_write_71 rfl rfl ?_
        refine V_iadd dX7_write_72 ?_
        refine V_iload_n (i := 2) dX7_write_73 rfl rfl ?_
        refine V_iconst (v := 1) dX7_write_74 rfl ?_
        refine V_iadd dX7_write_75 ?_
        refine V_iast (q := 1) rfl (by omega) rfl dX7_write_76 ?_
        dsimp only [List.set_cons_zero, List.set_cons_succ]
        refine V_aload_n (i := 1) dX7_write_77 rfl rfl ?_
        refine V_sipush (v := 425) dX7_write_78 (by decide) ?_
        refine V_dup2 dX7_write_81 rfl rfl ?_
        refine V_iald (q := 1) rfl (by omega) rfl dX7_write_82 ?_
        refine V_iconst (v := 1) dX7_write_83 rfl ?_
        refine V_iadd dX7_write_84 ?_
        refine V_iast (q := 1) rfl (by omega) rfl dX7_write_85 ?_
        dsimp only [List.set_cons_zero, List.set_cons_succ]
        refine V_aload_n (i := 1) dX7_write_86 rfl rfl ?_
        refine V_iload_n (i := 2) dX7_write_87 rfl rfl ?_
        refine V_callS (As := _) (rest := _) [] (c_X7_at l G (h)) vy_X7_at gX7_write_X7_at rfl rfl rfl rfl ⟨rfl, rfl⟩ ⟨rfl, rfl⟩ ⟨Nat.zero_le _, Nat.zero_le _⟩ rfl dX7_write_88 (fun v Y hE => ?_)
        obtain ⟨rfl, rfl⟩ := hE
        refine ⟨rfl, ?_⟩
        dsimp only [vfill, List.set_cons_zero, List.set_cons_succ, Option.toList, List.cons_append, List.nil_append, Nat.add_zero]
        refine V_bipush (v := 12) dX7_write_91 (by decide) ?_
        refine V_iadd dX7_write_93 ?_
        refine V_dup2 dX7_write_94 rfl rfl ?_
        refine V_iald (q := 1) rfl (by omega) rfl dX7_write_95 ?_
        refine V_iconst (v := 1) dX7_write_96 rfl ?_
        refine V_iadd dX7_write_97 ?_
        refine V_iast (q := 1) rfl (by omega) rfl dX7_write_98 ?_
        dsimp only [List.set_cons_zero, List.set_cons_succ]
        refine V_aload_n (i := 0) dX7_write_99 rfl rfl ?_
        refine V_get (C := RX7) (T := TX7) (N := 17) (ci := 6) (q := 0) (ref := "OrderChainsModel") 11 rfl il_X7_write_X7 rfl rfl fl_X7_write_32 rfl rfl dX7_write_100 ?_
        refine V_iload_n (i := 3) dX7_write_103 rfl rfl ?_
        refine V_dup2 dX7_write_104 rfl rfl ?_
        refine V_iald (q := 2) rfl (by omega) rfl dX7_write_105 ?_
        refine V_iconst (v := 1) dX7_write_106 rfl ?_
        refine V_iload_n (i := 2) dX7_write_107 rfl rfl ?_
        refine V_ishlG dX7_write_108 (nI_sh1 hh) ?_
        refine V_iorG dX7_write_109 (nI_or _ _) ?_
        refine V_iast (q := 2) rfl (by omega) rfl dX7_write_110 ?_
        dsimp only [List.set_cons_zero, List.set_cons_succ]
        refine V_vret hR dX7_write_111 hkc hks ?_
        refine ⟨rfl, ?_⟩
        first | exact congrArg (w3 G B a) (rWr_n (h := h) (c := c) (v := v) (z := z) (g := g) (b := b) h_13).symm | exact absurd h_53 h_32 | exact absurd h_32 h_53 | exact congrArg (w3 G B a) (rWr_a (h := h) (c := c) (v := v) (z := z) (g := g) (b := b) h_13 h_32).symm | exact congrArg (w3 G B a) (rWr_b (h := h) (c := c) (v := v) (z := z) (g := g) (b := b) h_13 h_32).symm

end REF2
