section REF4
theorem rT_lt {g : Nat → Nat} (h : rT g ≠ 4294967287) : rT g < 3 := by
  unfold rT at h ⊢
  split at h <;> rename_i c1
  · rw [if_pos c1]; omega
  · rw [if_neg c1]
    split at h <;> rename_i c2
    · rw [if_pos c2]; omega
    · rw [if_neg c2]
      split at h <;> rename_i c3
      · rw [if_pos c3]; omega
      · exact absurd rfl h
theorem rT_l32 (g : Nat → Nat) : rT g < 4294967296 := by
  unfold rT
  repeat' split
  all_goals omega
def rG1 (h : Nat) (g : Nat → Nat) : Nat → Nat := va_up (va_up g 426 ((h + 1) % 3)) 423 (va_up g 426 ((h + 1) % 3) 423 + 1)
theorem rG1_at {h k : Nat} {g : Nat → Nat} (h1 : k ≠ 423) (h2 : k ≠ 426) : rG1 h g k = g k := by
  unfold rG1
  rw [up_n h1, up_n h2]
theorem cB_1 {i h : Nat} {g : Nat → Nat} (hh : h < 3) (hc : cB h g) : cB h (rG1 i g) := by
  obtain ⟨c0, c1, c3, c4, c5, c6, c7, c8, c9, c10, cu⟩ := hc
  unfold cB
  rw [rG1_at (by omega) (by omega), rG1_at (by omega) (by omega), rG1_at (by omega) (by omega), rG1_at (by omega) (by omega), rG1_at (by omega) (by omega), rG1_at (by omega) (by omega), rG1_at (by omega) (by omega), rG1_at (by omega) (by omega), rG1_at (by omega) (by omega), rG1_at (by omega) (by omega)]
  exact ⟨c0, c1, c3, c4, c5, c6, c7, c8, c9, c10, cu⟩
theorem gB_1 {h : Nat} {g : Nat → Nat} (hg : gB g) : gB (rG1 h g) := by
  obtain ⟨hv, ho, hm, ht, hc⟩ := hg
  refine ⟨fun k hk => ?_, fun k hk => ?_, fun k hk => ?_, ?_, fun k hk => cB_1 hk (hc k hk)⟩
  · rw [rG1_at (by omega) (by omega)]; exact hv k hk
  · rw [rG1_at (by omega) (by omega)]; exact ho k hk
  · rw [rG1_at (by omega) (by omega)]; exact hm k hk
  · show va_up (va_up g 426 ((h + 1) % 3)) 423 _ 426 < 3
    rw [up_n (by omega), up_s]
    omega
def rFin (h : Nat) (g : Nat → Nat) : Nat → Nat := if va_up g (384 + 13 * h + 10) (g (384 + 13 * h + 10) + 1) (384 + 13 * h + 10) = va_up g (384 + 13 * h + 10) (g (384 + 13 * h + 10) + 1) (384 + 13 * h + 7) then rEnd h (va_up g (384 + 13 * h + 10) (g (384 + 13 * h + 10) + 1) (384 + 13 * h + 9)) (va_up g (384 + 13 * h + 10) (g (384 + 13 * h + 10) + 1)) else va_up g (384 + 13 * h + 10) (g (384 + 13 * h + 10) + 1)
def rSt (h : Nat) (t : vR3) : vR3 :=
  if rG1 h t.2.1 (384 + 13 * h + 4) = 0 then (t.1, rRd h (rG1 h t.2.1), t.2.2)
  else if rG1 h t.2.1 (384 + 13 * h + 4) = 6 then (t.1, rCh h (rG1 h t.2.1), t.2.2)
  else if (rUn h (t.1, rG1 h t.2.1, t.2.2)).1 = 0 then (rUn h (t.1, rG1 h t.2.1, t.2.2)).2
  else sR (rFin h) (rUn h (t.1, rG1 h t.2.1, t.2.2)).2
def rTk (t : vR3) : vR3 := if rT t.2.1 = 4294967287 then t else rSt (rT t.2.1) t
theorem rWr_hi {h c v k : Nat} {t : vR3} (hc : c < 96) (h1 : 384 ≤ k) (h2 : k ≠ 424) (h3 : k ≠ 425) (h4 : k ≠ 384 + 13 * h + 12) : (rWr h c v t).2.1 k = t.2.1 k := by
  unfold rWr
  split
  · show rW2 h c (va_up (va_up t.2.1 c v) 424 _) k = _
    rw [rW2_at (by omega) (by omega) (by omega), up_n (by omega), up_n (by omega)]
  · show rW2 h c (va_up t.2.1 c v) k = _
    rw [rW2_at (by omega) (by omega) (by omega), up_n (by omega)]
theorem rWK_hi {K h a b k : Nat} {t : vR3} (ha : a < 96) (hb : b < 96) (h1 : 384 ≤ k) (h2 : k ≠ 424) (h3 : k ≠ 425) (h4 : k ≠ 384 + 13 * h + 12) : (rWK K h a b t).2.1 k = t.2.1 k := by
  unfold rWK
  repeat' split
  all_goals first | rfl | rw [rWr_hi hb h1 h2 h3 h4] | skip
  rw [rWr_hi ha h1 h2 h3 h4]
theorem rUn_hi {h k : Nat} {t : vR3} (q : ¬ (rUn h t).1 = 0) (h1 : 384 ≤ k) (h2 : k ≠ 424) (h3 : k ≠ 425) (h4 : k ≠ 384 + 13 * h + 12) : (rUn h t).2.2.1 k = t.2.1 k := by
  unfold rUn rUnK at q ⊢
  split at q <;> rename_i c1
  · exact absurd rfl q
  · rw [if_neg c1]
    split at q <;> rename_i c2
    · exact absurd rfl q
    · rw [if_neg c2]
      exact rWK_hi (by omega) (by omega) h1 h2 h3 h4
theorem rUn_01 (h : Nat) (t : vR3) : (rUn h t).1 < 2 := by
  unfold rUn rUnK
  repeat' split
  all_goals (dsimp only; omega)
/-- up to n ticks of the reference -/
def rRun : Nat → vR3 → Nat × vR3
  | 0, t => (0, t)
  | n + 1, t => if rT t.2.1 = 4294967287 then (0, t) else ((rRun n (rTk t)).1 + 1, (rRun n (rTk t)).2)

abbrev rX7_goOn : Room := { frames := 3, cells := 0, slots := 0, locals := 74 }
theorem vy_X7_goOn : vY yX7_goOn wsX7_goOn cX7_goOn 4 (some .boolean) 1 := ⟨⟨_, rfl⟩, by decide +kernel, by decide +kernel, by decide +kernel⟩
set_option maxHeartbeats 4000000 in
set_option maxRecDepth 100000 in
/-- goOn -/
theorem c_X7_goOn (l : Launch) (G : vG) (B z b : Nat → Nat) (a : Nat) (g : Nat → Nat) (hg : gB g) (hz : z 5 < 4294967296) : Kc l G yX7_goOn wsX7_goOn rX7_goOn [.ref (B 0), .ref a] [mO B z, iA G a 427 g, iA G (B 8) 96 b] (fun v Y => v = some (.int (nI (if rT g = 4294967287 then 0 else 1))) ∧ Y = w3 G B a (rTk (z, g, b))) 0 0 := by
  refine V_enter (own := RX7) [some (.ref (B 0)), some (.ref a), none, none] (by decide +kernel) rfl rfl (Nat.le_of_ble_eq_true rfl) rfl (fun Γ hR hin => ?_)
  have hkc : 0 ≤ 0 := Nat.le_refl 0
  have hks : 0 ≤ 0 := Nat.le_refl 0
  refine V_aload_n (i := 1) dX7_goOn_0 rfl rfl ?_
  refine V_callS (As := _) (rest := []) [1] (c_X7_turnOf l G a g hg.2.2.2.1 (fun h hh => (hg.2.2.2.2 h hh).1)) vy_X7_turnOf gX7_goOn_X7_turnOf rfl rfl rfl rfl ⟨rfl, rfl⟩ ⟨rfl, rfl⟩ ⟨Nat.zero_le _, Nat.zero_le _⟩ rfl dX7_goOn_1 (fun v Y hE => ?_)
  obtain ⟨rfl, rfl⟩ := hE
  refine ⟨rfl, ?_⟩
  dsimp only [vfill, List.set_cons_zero, List.set_cons_succ, Option.toList, List.cons_append, List.nil_append, Nat.add_zero]
  refine V_istore_n (i := 2) dX7_goOn_4 rfl rfl rfl ?_
  dsimp only [List.set_cons_zero, List.set_cons_succ]
  refine V_iload_n (i := 2) dX7_goOn_5 rfl rfl ?_
  refine V_bipush (v := 4294967287) dX7_goOn_6 (by decide) ?_
  refine V_icmp_ne (tgt := 13) (rT_l32 g) (by omega) dX7_goOn_8 rfl (fun h_8 => ?_) (fun h_8 => ?_)
  · have hh := rT_lt h_8
    obtain ⟨h, hTg⟩ : ∃ h, h = rT g := ⟨_, rfl⟩
    rw [← hTg] at hh h_8 ⊢
    have hg1 : gB (rG1 h g) := gB_1 hg
    have hc4 := (hg1.2.2.2.2 h hh).2.2.2.1
    have hS : rTk (z, g, b) = rSt h (z, g, b) := by
      show (if rT g = 4294967287 then _ else _) = _
      rw [if_neg (by rw [← hTg]; exact h_8), ← hTg]
    refine V_iload_n (i := 2) dX7_goOn_13 rfl rfl ?_
    refine V_callS (As := _) (rest := []) [] (c_X7_at l G (h)) vy_X7_at gX7_goOn_X7_at rfl rfl rfl rfl ⟨rfl, rfl⟩ ⟨rfl, rfl⟩ ⟨Nat.zero_le _, Nat.zero_le _⟩ rfl dX7_goOn_14 (fun v Y hE => ?_)
    obtain ⟨rfl, rfl⟩ := hE
    refine ⟨rfl, ?_⟩
    dsimp only [vfill, List.set_cons_zero, List.set_cons_succ, Option.toList, List.cons_append, List.nil_append, Nat.add_zero]
    refine V_istore_n (i := 3) dX7_goOn_17 rfl rfl rfl ?_
    dsimp only [List.set_cons_zero, List.set_cons_succ]
    refine V_aload_n (i := 1) dX7_goOn_18 rfl rfl ?_
    refine V_sipush (v := 426) dX7_goOn_19 (by decide) ?_
    refine V_iload_n (i := 2) dX7_goOn_22 rfl rfl ?_
    refine V_iconst (v := 1) dX7_goOn_23 rfl ?_
    refine V_iadd dX7_goOn_24 ?_
    refine V_iconst (v := 3) dX7_goOn_25 rfl ?_
    refine V_irem dX7_goOn_26 (by omega) (by omega) (by omega) ?_
    refine V_iast (q := 1) rfl (by omega) rfl dX7_goOn_27 ?_
    dsimp only [List.set_cons_zero, List.set_cons_succ]
    refine V_aload_n (i := 1) dX7_goOn_28 rfl rfl ?_
    refine V_sipush (v := 423) dX7_goOn_29 (by decide) ?_
    refine V_dup2 dX7_goOn_32 rfl rfl ?_
    refine V_iald (q := 1) rfl (by omega) rfl dX7_goOn_33 ?_
    refine V_iconst (v := 1) dX7_goOn_34 rfl ?_
    refine V_iadd dX7_goOn_35 ?_
    refine V_iast (q := 1) rfl (by omega) rfl dX7_goOn_36 ?_
    dsimp only [List.set_cons_zero, List.set_cons_succ]
    refine V_aload_n (i := 1) dX7_goOn_37 rfl rfl ?_
    refine V_iload_n (i := 3) dX7_goOn_38 rfl rfl ?_
    refine V_iconst (v := 4) dX7_goOn_39 rfl ?_
    refine V_iadd dX7_goOn_40 ?_
    refine V_iald (q := 1) rfl (by omega) rfl dX7_goOn_41 ?_
    refine V_if_ne (tgt := 53) (show rG1 h g (384 + 13 * h + 4) < 4294967296 by omega) dX7_goOn_42 rfl (fun h_42 => ?_) (fun h_42 => ?_)
    · refine V_aload_n (i := 1) dX7_goOn_53 rfl rfl ?_
      refine V_iload_n (i := 3) dX7_goOn_54 rfl rfl ?_
      refine V_iconst (v := 4) dX7_goOn_55 rfl ?_
      refine V_iadd dX7_goOn_56 ?_
      refine V_iald (q := 1) rfl (by omega) rfl dX7_goOn_57 ?_
      refine V_bipush (v := 6) dX7_goOn_58 (by decide) ?_
      refine V_icmp_ne (tgt := 71) (show rG1 h g (384 + 13 * h + 4) < 4294967296 by omega) (by omega) dX7_goOn_60 rfl (fun h_60 => ?_) (fun h_60 => ?_)
      · refine V_aload_n (i := 0) dX7_goOn_71 rfl rfl ?_
        refine V_aload_n (i := 1) dX7_goOn_72 rfl rfl ?_
        refine V_iload_n (i := 2) dX7_goOn_73 rfl rfl ?_
        refine V_callV (C := RX7) (q := 0) (ci := 6) (As := _) (rest := []) [0, 1, 2] (c_X7_unit l G B z b a (rG1 h g) h hh hg1 (Nat.one_le_iff_ne_zero.mpr h_42) (by have q9 : ¬ rG1 h g (384 + 13 * h + 4) = 6 := h_60; omega) hz) vy_X7_unit gX7_goOn_X7_unit rfl rfl rfl rfl rfl rfl rfl ⟨rfl, rfl⟩ ⟨rfl, rfl⟩ ⟨Nat.zero_le _, Nat.zero_le _⟩ rfl dX7_goOn_74 (fun v Y hE => ?_)
        obtain ⟨rfl, rfl⟩ := hE
        refine ⟨rfl, ?_⟩
        dsimp only [vfill, w3, List.set_cons_zero, List.set_cons_succ, Option.toList, List.cons_append, List.nil_append, Nat.add_zero]
        refine V_if_eq (tgt := 116) (by have := rUn_01 h (z, rG1 h g, b); omega) dX7_goOn_77 rfl (fun h_77 => ?_) (fun h_77 => ?_)
        · refine V_iconst (v := 1) dX7_goOn_116 rfl ?_
          refine V_zret hR dX7_goOn_117 (by first | exact Or.inl rfl | exact Or.inr rfl | omega) hkc hks ?_
          rw [if_neg (by rw [← hTg]; exact h_8), hS]
          refine ⟨rfl, ?_⟩
          first | exact congrArg (w3 G B a) (show (z, rRd h (rG1 h g), b) = rSt h (z, g, b) from (if_pos h_42).symm) | exact congrArg (w3 G B a) (show (z, rCh h (rG1 h g), b) = rSt h (z, g, b) from ((if_neg h_42).trans (if_pos h_60)).symm) | exact congrArg (w3 G B a) (show (rUn h (z, rG1 h g, b)).2 = rSt h (z, g, b) from ((if_neg h_42).trans ((if_neg h_60).trans (if_pos h_77))).symm) | (have e9 : rSt h (z, g, b) = sR (rFin h) (rUn h (z, rG1 h g, b)).2 := (if_neg h_42).trans ((if_neg h_60).trans (if_neg h_77)); rw [e9]; first | (have f9 : rFin h (rUn h (z, rG1 h g, b)).2.2.1 = _ := if_pos h_102; exact congrArg (fun w => w3 G B a ((rUn h (z, rG1 h g, b)).2.1, w, (rUn h (z, rG1 h g, b)).2.2.2)) f9.symm) | (have f9 : rFin h (rUn h (z, rG1 h g, b)).2.2.1 = _ := if_neg h_102; exact congrArg (fun w => w3 G B a ((rUn h (z, rG1 h g, b)).2.1, w, (rUn h (z, rG1 h g, b)).2.2.2)) f9.symm))
        · have u10 := rUn_hi (k := 384 + 13 * h + 10) h_77 (by omega) (by omega) (by omega) (by omega)
          have u7 := rUn_hi (k := 384 + 13 * h + 7) h_77 (by omega) (by omega) (by omega) (by omega)
          have v10 := (hg1.2.2.2.2 h hh).2.2.2.2.2.2.2.2.2.1
          have v7 := (hg1.2.2.2.2 h hh).2.2.2.2.2.2.1
          dsimp only at u10 u7
          refine V_aload_n (i := 1) dX7_goOn_80 rfl rfl ?_
          refine V_iload_n (i := 3) dX7_goOn_81 rfl rfl ?_
          refine V_bipush (v := 10) dX7_goOn_82 (by decide) ?_
          refine V_iadd dX7_goOn_84 ?_
          refine V_dup2 dX7_goOn_85 rfl rfl ?_
          refine V_iald (q := 1) rfl (by omega) rfl dX7_goOn_86 ?_
          refine V_iconst (v := 1) dX7_goOn_87 rfl ?_
          refine V_iadd dX7_goOn_88 ?_
          refine V_iast (q := 1) rfl (by omega) rfl dX7_goOn_89 ?_
          dsimp only [List.set_cons_zero, List.set_cons_succ]
          refine V_aload_n (i := 1) dX7_goOn_90 rfl rfl ?_
          refine V_iload_n (i := 3) dX7_goOn_91 rfl rfl ?_
          refine V_bipush (v := 10) dX7_goOn_92 (by decide) ?_
          refine V_iadd dX7_goOn_94 ?_
          refine V_iald (q := 1) rfl (by omega) rfl dX7_goOn_95 ?_
          refine V_aload_n (i := 1) dX7_goOn_96 rfl rfl ?_
          refine V_iload_n (i := 3) dX7_goOn_97 rfl rfl ?_
          refine V_bipush (v := 7) dX7_goOn_98 (by decide) ?_
          refine V_iadd dX7_goOn_100 ?_
          refine V_iald (q := 1) rfl (by omega) rfl dX7_goOn_101 ?_
          refine V_icmp_ne (tgt := 116) (by rw [up_s]; omega) (by rw [up_n (by omega)]; omega) dX7_goOn_102 rfl (fun h_102 => ?_) (fun h_102 => ?_)
          · refine V_iconst (v := 1) dX7_goOn_116 rfl ?_
            refine V_zret hR dX7_goOn_117 (by first | exact Or.inl rfl | exact Or.inr rfl | omega) hkc hks ?_
            rw [if_neg (by rw [← hTg]; exact h_8), hS]
            refine ⟨rfl, ?_⟩
            first | exact congrArg (w3 G B a) (show (z, rRd h (rG1 h g), b) = rSt h (z, g, b) from (if_pos h_42).symm) | exact congrArg (w3 G B a) (show (z, rCh h (rG1 h g), b) = rSt h (z, g, b) from ((if_neg h_42).trans (if_pos h_60)).symm) | exact congrArg (w3 G B a) (show (rUn h (z, rG1 h g, b)).2 = rSt h (z, g, b) from ((if_neg h_42).trans ((if_neg h_60).trans (if_pos h_77))).symm) | (have e9 : rSt h (z, g, b) = sR (rFin h) (rUn h (z, rG1 h g, b)).2 := (if_neg h_42).trans ((if_neg h_60).trans (if_neg h_77)); rw [e9]; first | (have f9 : rFin h (rUn h (z, rG1 h g, b)).2.2.1 = _ := if_pos h_102; exact congrArg (fun w => w3 G B a ((rUn h (z, rG1 h g, b)).2.1, w, (rUn h (z, rG1 h g, b)).2.2.2)) f9.symm) | (have f9 : rFin h (rUn h (z, rG1 h g, b)).2.2.1 = _ := if_neg h_102; exact congrArg (fun w => w3 G B a ((rUn h (z, rG1 h g, b)).2.1, w, (rUn h (z, rG1 h g, b)).2.2.2)) f9.symm))
          · refine V_aload_n (i := 1) dX7_goOn_105 rfl rfl ?_
            refine V_iload_n (i := 2) dX7_goOn_106 rfl rfl ?_
            refine V_aload_n (i := 1) dX7_goOn_107 rfl rfl ?_
            refine V_iload_n (i := 3) dX7_goOn_108 rfl rfl ?_
            refine V_bipush (v := 9) dX7_goOn_109 (by decide) ?_
            refine V_iadd dX7_goOn_111 ?_
            refine V_iald (q := 1) rfl (by omega) rfl dX7_goOn_112 ?_
            refine V_callS (As := _) (rest := []) [1] (c_X7_end l G a (va_up (rUn h (z, rG1 h g, b)).2.2.1 (384 + 13 * h + 10) ((rUn h (z, rG1 h g, b)).2.2.1 (384 + 13 * h + 10) + 1)) h (va_up (rUn h (z, rG1 h g, b)).2.2.1 (384 + 13 * h + 10) ((rUn h (z, rG1 h g, b)).2.2.1 (384 + 13 * h + 10) + 1) (384 + 13 * h + 9)) hh) vy_X7_end gX7_goOn_X7_end rfl rfl rfl rfl ⟨rfl, rfl⟩ ⟨rfl, rfl⟩ ⟨Nat.zero_le _, Nat.zero_le _⟩ rfl dX7_goOn_113 (fun v Y hE => ?_)
            obtain ⟨rfl, rfl⟩ := hE
            refine ⟨rfl, ?_⟩
            dsimp only [vfill, List.set_cons_zero, List.set_cons_succ, Option.toList, List.cons_append, List.nil_append, Nat.add_zero]
            refine V_iconst (v := 1) dX7_goOn_116 rfl ?_
            refine V_zret hR dX7_goOn_117 (by first | exact Or.inl rfl | exact Or.inr rfl | omega) hkc hks ?_
            rw [if_neg (by rw [← hTg]; exact h_8), hS]
            refine ⟨rfl, ?_⟩
            first | exact congrArg (w3 G B a) (show (z, rRd h (rG1 h g), b) = rSt h (z, g, b) from (if_pos h_42).symm) | exact congrArg (w3 G B a) (show (z, rCh h (rG1 h g), b) = rSt h (z, g, b) from ((if_neg h_42).trans (if_pos h_60)).symm) | exact congrArg (w3 G B a) (show (rUn h (z, rG1 h g, b)).2 = rSt h (z, g, b) from ((if_neg h_42).trans ((if_neg h_60).trans (if_pos h_77))).symm) | (have e9 : rSt h (z, g, b) = sR (rFin h) (rUn h (z, rG1 h g, b)).2 := (if_neg h_42).trans ((if_neg h_60).trans (if_neg h_77)); rw [e9]; first | (have f9 : rFin h (rUn h (z, rG1 h g, b)).2.2.1 = _ := if_pos h_102; exact congrArg (fun w => w3 G B a ((rUn h (z, rG1 h g, b)).2.1, w, (rUn h (z, rG1 h g, b)).2.2.2)) f9.symm) | (have f9 : rFin h (rUn h (z, rG1 h g, b)).2.2.1 = _ := if_neg h_102; exact congrArg (fun w => w3 G B a ((rUn h (z, rG1 h g, b)).2.1, w, (rUn h (z, rG1 h g, b)).2.2.2)) f9.symm))
      · refine V_aload_n (i := 1) dX7_goOn_63 rfl rfl ?_
        refine V_iload_n (i := 2) dX7_goOn_64 rfl rfl ?_
        refine V_callS (As := _) (rest := []) [1] (c_X7_choose l G a (rG1 h g) h hh (hg1.2.2.2.2 h hh).2.2.2.2.1 (hg1.2.2.2.2 h hh).2.2.2.2.2.1 hg1.1) vy_X7_choose gX7_goOn_X7_choose rfl rfl rfl rfl ⟨rfl, rfl⟩ ⟨rfl, rfl⟩ ⟨Nat.zero_le _, Nat.zero_le _⟩ rfl dX7_goOn_65 (fun v Y hE => ?_)
        obtain ⟨rfl, rfl⟩ := hE
        refine ⟨rfl, ?_⟩
        dsimp only [vfill, List.set_cons_zero, List.set_cons_succ, Option.toList, List.cons_append, List.nil_append, Nat.add_zero]
        refine V_goto (tgt := 116) dX7_goOn_68 rfl ?_
        refine V_iconst (v := 1) dX7_goOn_116 rfl ?_
        refine V_zret hR dX7_goOn_117 (by first | exact Or.inl rfl | exact Or.inr rfl | omega) hkc hks ?_
        rw [if_neg (by rw [← hTg]; exact h_8), hS]
        refine ⟨rfl, ?_⟩
        first | exact congrArg (w3 G B a) (show (z, rRd h (rG1 h g), b) = rSt h (z, g, b) from (if_pos h_42).symm) | exact congrArg (w3 G B a) (show (z, rCh h (rG1 h g), b) = rSt h (z, g, b) from ((if_neg h_42).trans (if_pos h_60)).symm) | exact congrArg (w3 G B a) (show (rUn h (z, rG1 h g, b)).2 = rSt h (z, g, b) from ((if_neg h_42).trans ((if_neg h_60).trans (if_pos h_77))).symm) | (have e9 : rSt h (z, g, b) = sR (rFin h) (rUn h (z, rG1 h g, b)).2 := (if_neg h_42).trans ((if_neg h_60).trans (if_neg h_77)); rw [e9]; first | (have f9 : rFin h (rUn h (z, rG1 h g, b)).2.2.1 = _ := if_pos h_102; exact congrArg (fun w => w3 G B a ((rUn h (z, rG1 h g, b)).2.1, w, (rUn h (z, rG1 h g, b)).2.2.2)) f9.symm) | (have f9 : rFin h (rUn h (z, rG1 h g, b)).2.2.1 = _ := if_neg h_102; exact congrArg (fun w => w3 G B a ((rUn h (z, rG1 h g, b)).2.1, w, (rUn h (z, rG1 h g, b)).2.2.2)) f9.symm))
    · refine V_aload_n (i := 1) dX7_goOn_45 rfl rfl ?_
      refine V_iload_n (i := 2) dX7_goOn_46 rfl rfl ?_
      refine V_callS (As := _) (rest := []) [1] (c_X7_readOrder l G a (rG1 h g) h hh (hg1.2.2.2.2 h hh).2.1 hg1.1) vy_X7_readOrder gX7_goOn_X7_readOrder rfl rfl rfl rfl ⟨rfl, rfl⟩ ⟨rfl, rfl⟩ ⟨Nat.zero_le _, Nat.zero_le _⟩ rfl dX7_goOn_47 (fun v Y hE => ?_)
      obtain ⟨rfl, rfl⟩ := hE
      refine ⟨rfl, ?_⟩
      dsimp only [vfill, List.set_cons_zero, List.set_cons_succ, Option.toList, List.cons_append, List.nil_append, Nat.add_zero]
      refine V_goto (tgt := 116) dX7_goOn_50 rfl ?_
      refine V_iconst (v := 1) dX7_goOn_116 rfl ?_
      refine V_zret hR dX7_goOn_117 (by first | exact Or.inl rfl | exact Or.inr rfl | omega) hkc hks ?_
      rw [if_neg (by rw [← hTg]; exact h_8), hS]
      refine ⟨rfl, ?_⟩
      first | exact congrArg (w3 G B a) (show (z, rRd h (rG1 h g), b) = rSt h (z, g, b) from (if_pos h_42).symm) | exact congrArg (w3 G B a) (show (z, rCh h (rG1 h g), b) = rSt h (z, g, b) from ((if_neg h_42).trans (if_pos h_60)).symm) | exact congrArg (w3 G B a) (show (rUn h (z, rG1 h g, b)).2 = rSt h (z, g, b) from ((if_neg h_42).trans ((if_neg h_60).trans (if_pos h_77))).symm) | (have e9 : rSt h (z, g, b) = sR (rFin h) (rUn h (z, rG1 h g, b)).2 := (if_neg h_42).trans ((if_neg h_60).trans (if_neg h_77)); rw [e9]; first | (have f9 : rFin h (rUn h (z, rG1 h g, b)).2.2.1 = _ := if_pos h_102; exact congrArg (fun w => w3 G B a ((rUn h (z, rG1 h g, b)).2.1, w, (rUn h (z, rG1 h g, b)).2.2.2)) f9.symm) | (have f9 : rFin h (rUn h (z, rG1 h g, b)).2.2.1 = _ := if_neg h_102; exact congrArg (fun w => w3 G B a ((rUn h (z, rG1 h g, b)).2.1, w, (rUn h (z, rG1 h g, b)).2.2.2)) f9.symm))
  · refine V_iconst (v := 0) dX7_goOn_11 rfl ?_
    refine V_zret hR dX7_goOn_12 (by first | exact Or.inl rfl | exact Or.inr rfl | omega) hkc hks ?_
    rw [if_pos h_8]
    exact ⟨rfl, congrArg (w3 G B a) (show (z, g, b) = rTk (z, g, b) from (if_pos h_8).symm)⟩

theorem rRun_idle {n : Nat} {t : vR3} (h : rT t.2.1 = 4294967287) : rRun n t = (0, t) := by
  cases n with
  | zero => rfl
  | succ n => show (if _ then _ else _) = _; rw [if_pos h]
abbrev rX7_goOnFor : Room := { frames := 4, cells := 0, slots := 0, locals := 97 }
theorem vy_X7_goOnFor : vY yX7_goOnFor wsX7_goOnFor cX7_goOnFor 4 (some .int) 2 := ⟨⟨_, rfl⟩, by decide +kernel, by decide +kernel, by decide +kernel⟩
set_option maxHeartbeats 4000000 in
set_option maxRecDepth 100000 in
/-- goOnFor -/
theorem c_X7_goOnFor (l : Launch) (G : vG) (B z b : Nat → Nat) (a : Nat) (g : Nat → Nat) (n : Nat) (hn : n < 2147483648) (Q : vR3 → Prop) (hQ1 : ∀ t, Q t → gB t.2.1 ∧ t.1 5 < 4294967296) (hQ2 : ∀ t, Q t → Q (rTk t)) (hq : Q (z, g, b)) : Kc l G yX7_goOnFor wsX7_goOnFor rX7_goOnFor [.ref (B 0), .ref a, .int (nI n)] [mO B z, iA G a 427 g, iA G (B 8) 96 b] (fun v Y => v = some (.int (nI (rRun n (z, g, b)).1)) ∧ Y = w3 G B a (rRun n (z, g, b)).2) 0 0 := by
  refine V_enter (own := RX7) [some (.ref (B 0)), some (.ref a), some (.int (nI n)), none] (by decide +kernel) rfl rfl (Nat.le_of_ble_eq_true rfl) rfl (fun Γ hR hin => ?_)
  have hkc : 0 ≤ 0 := Nat.le_refl 0
  have hks : 0 ≤ 0 := Nat.le_refl 0
  have LP2 : ∀ (fuel : Nat) (k : Nat) (t : vR3), n + 1 ≤ k + fuel → k ≤ n → Q t → rRun n (z, g, b) = (k + (rRun (n - k) t).1, (rRun (n - k) t).2) → V l G (cX7_goOnFor, 4, wsX7_goOnFor, RX7, rX7_goOnFor) Γ 0 0 2 [some (.ref (B 0)), some (.ref a), some (.int (nI n)), some (.int (nI k))] [] [mO B t.1, iA G a 427 t.2.1, iA G (B 8) 96 t.2.2] := by
    intro fuel
    induction fuel with
    | zero => intro k t hf hk hqt hfl; exact absurd hf (by omega)
    | succ fuel ih =>
      intro k t hf hk hqt hfl
      refine V_iload_n (i := 3) dX7_goOnFor_2 rfl rfl ?_
      refine V_iload_n (i := 2) dX7_goOnFor_3 rfl rfl ?_
      refine V_icmp_ge (tgt := 21) (by omega) (by omega) dX7_goOnFor_4 rfl (fun h_4 => ?_) (fun h_4 => ?_)
      · refine V_iload_n (i := 3) dX7_goOnFor_21 rfl rfl ?_
        refine V_iret hR dX7_goOnFor_22 hkc hks ?_
        have hk9 : k = n := by omega
        rw [hfl, hk9, Nat.sub_self]
        exact ⟨rfl, rfl⟩
      · refine V_aload_n (i := 0) dX7_goOnFor_7 rfl rfl ?_
        refine V_aload_n (i := 1) dX7_goOnFor_8 rfl rfl ?_
        refine V_callV (C := RX7) (q := 0) (ci := 6) (As := _) (rest := []) [0, 1, 2] (c_X7_goOn l G B t.1 t.2.2 a t.2.1 (hQ1 t hqt).1 (hQ1 t hqt).2) vy_X7_goOn gX7_goOnFor_X7_goOn rfl rfl rfl rfl rfl rfl rfl ⟨rfl, rfl⟩ ⟨rfl, rfl⟩ ⟨Nat.zero_le _, Nat.zero_le _⟩ rfl dX7_goOnFor_9 (fun v Y hE => ?_)
        obtain ⟨rfl, rfl⟩ := hE
        refine ⟨rfl, ?_⟩
        dsimp only [vfill, w3, List.set_cons_zero, List.set_cons_succ, Option.toList, List.cons_append, List.nil_append, Nat.add_zero]
        refine V_if_eq (tgt := 21) (by split <;> decide) dX7_goOnFor_12 rfl (fun h_12 => ?_) (fun h_12 => ?_)
        · refine V_iload_n (i := 3) dX7_goOnFor_21 rfl rfl ?_
          refine V_iret hR dX7_goOnFor_22 hkc hks ?_
          have e9 : rRun (n - k) t = (0, t) := rRun_idle (b20 h_12)
          have f9 : rTk t = t := if_pos (b20 h_12)
          rw [hfl, e9]
          exact ⟨rfl, congrArg (w3 G B a) f9⟩
        · refine V_iinc dX7_goOnFor_15 rfl (nI_1 _) rfl rfl ?_
          dsimp only [List.set_cons_zero, List.set_cons_succ]
          refine V_goto (tgt := 2) dX7_goOnFor_18 rfl ?_
          exact ih (k + 1) (rTk t) (by omega) (by omega) (hQ2 t hqt) (by
            rw [hfl, show n - k = (n - (k + 1)) + 1 by omega]
            have e9 : rRun (n - (k + 1) + 1) t = ((rRun (n - (k + 1)) (rTk t)).1 + 1, (rRun (n - (k + 1)) (rTk t)).2) := if_neg (b21 h_12)
            rw [e9]
            exact Prod.ext (by show k + (_ + 1) = k + 1 + _; omega) rfl)
  refine V_iconst (v := 0) dX7_goOnFor_0 rfl ?_
  refine V_istore_n (i := 3) dX7_goOnFor_1 rfl rfl rfl ?_
  dsimp only [List.set_cons_zero, List.set_cons_succ]
  exact LP2 (n + 1) 0 (z, g, b) (by omega) (Nat.zero_le n) hq (by rw [Nat.sub_zero, Nat.zero_add])

end REF4
