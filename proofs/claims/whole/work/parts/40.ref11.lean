section REF11
theorem rRun_le : ∀ (n : Nat) (t : vR3), (rRun n t).1 ≤ n
  | 0, _ => Nat.le_refl 0
  | n + 1, t => by
    show (if _ then _ else _ : Nat × vR3).1 ≤ n + 1
    split
    · exact Nat.zero_le _
    · exact Nat.succ_le_succ (rRun_le n _)
def cmR (how a b c d : Nat) (t : vR3) : Nat × vR3 :=
  if how = 1 then (if 10 * a + b < 96 then (1, (t.1, va_up t.2.1 (10 * a + b) (10 * c + d), t.2.2)) else (0, t))
  else if how = 2 then (if 10 * a + b = 0 ∧ 0 < 10 * c + d ∧ ¬ rT t.2.1 = 4294967287 then (if (rRun (10 * c + d) t).1 = 0 then 0 else 1, (rRun (10 * c + d) t).2) else (0, t))
  else if how = 3 then (if d = 0 ∧ a < 3 ∧ 10 * b + c < 96 then (1, (t.1, rBegin a (10 * b + c) 1 t.2.1, t.2.2)) else (0, t))
  else if how = 4 then (if 10 * b + c + d = 0 ∧ a < 3 ∧ t.2.1 (384 + 13 * a) = 1 then (1, (t.1, rBegin a (t.2.1 (384 + 13 * a + 1)) 0 t.2.1, t.2.2)) else (0, t))
  else if how = 5 then (if 10 * a + b < 96 ∧ c < 4 ∧ 0 < d then (1, (t.1, rOwF (10 * a + b) (sm (10 * a + b) d) c t.2.1, t.2.2)) else (0, t))
  else if how = 6 then (if 10 * a + b < 96 ∧ t.2.1 (10 * a + b) = 10 * c + d then (1, t) else (0, t))
  else if how = 7 then (if 10 * b + c = 0 ∧ a < 3 ∧ t.2.1 (384 + 13 * a) = d then (1, t) else (0, t))
  else if how = 8 then (if b = 0 ∧ a < 3 ∧ ¬ nI (t.2.1 (384 + 13 * a + 12)) < nI (10 * c + d) then (1, t) else (0, t))
  else if how = 9 then (if 10 * a + b = 0 ∧ ¬ nI (10 * c + d) < nI (t.2.1 424) then (1, t) else (0, t))
  else (0, t)

abbrev rX7_command : Room := { frames := 5, cells := 0, slots := 0, locals := 120 }
theorem vy_X7_command : vY yX7_command wsX7_command cX7_command 9 (some .boolean) 5 := ⟨⟨_, rfl⟩, by decide +kernel, by decide +kernel, by decide +kernel⟩
theorem fl_X7_command_19 : Cond.fieldLink RX7 19 "OrderChainsModel" "trial" "[I" ∈ wsX7_command := List.mem_of_getElem? (i := 1) rfl
theorem il_X7_command_X7 : ∀ w ∈ wsX70, w ∈ wsX7_command := fun _ h => List.mem_cons_of_mem _ (List.mem_append_right _ h)
set_option maxHeartbeats 4000000 in
set_option maxRecDepth 100000 in
/-- command -/
theorem c_X7_command (l : Launch) (G : vG) (B z g t y : Nat → Nat) (how a b c d : Nat) (Q : vR3 → Prop) (hQ1 : ∀ t, Q t → gB t.2.1 ∧ t.1 5 < 4294967296) (hQ2 : ∀ t, Q t → Q (rTk t)) (hq : Q (z, t, y)) (h0 : how < 10) (ha : a < 10) (hb : b < 10) (hc : c < 10) (hd : d < 10) : Kc l G yX7_command wsX7_command rX7_command [.ref (B 0), .int (nI how), .int (nI a), .int (nI b), .int (nI c), .int (nI d)] [mO B z, iA G (B 3) 427 g, iA G (B 4) 427 t, iA G (B 8) 96 y] (fun v Y => v = some (.int (nI (cmR how a b c d (z, t, y)).1)) ∧ Y = [mO B (cmR how a b c d (z, t, y)).2.1, iA G (B 3) 427 g, iA G (B 4) 427 (cmR how a b c d (z, t, y)).2.2.1, iA G (B 8) 96 (cmR how a b c d (z, t, y)).2.2.2]) 0 0 := by
  refine V_enter (own := RX7) [some (.ref (B 0)), some (.int (nI how)), some (.int (nI a)), some (.int (nI b)), some (.int (nI c)), some (.int (nI d)), none, none, none] (by decide +kernel) rfl rfl (Nat.le_of_ble_eq_true rfl) rfl (fun Γ hR hin => ?_)
  have hkc : 0 ≤ 0 := Nat.le_refl 0
  have hks : 0 ≤ 0 := Nat.le_refl 0
  have hg := (hQ1 _ hq).1
  dsimp only at hg
  refine V_bipush (v := 10) dX7_command_0 (by decide) ?_
  refine V_iload_n (i := 2) dX7_command_2 rfl rfl ?_
  refine V_imul dX7_command_3 ?_
  refine V_iload_n (i := 3) dX7_command_4 rfl rfl ?_
  refine V_iadd dX7_command_5 ?_
  refine V_istore (i := 6) dX7_command_6 rfl rfl ?_
  dsimp only [List.set_cons_zero, List.set_cons_succ]
  refine V_bipush (v := 10) dX7_command_8 (by decide) ?_
  refine V_iload (i := 4) dX7_command_10 rfl ?_
  refine V_imul dX7_command_12 ?_
  refine V_iload (i := 5) dX7_command_13 rfl ?_
  refine V_iadd dX7_command_15 ?_
  refine V_istore (i := 7) dX7_command_16 rfl rfl ?_
  dsimp only [List.set_cons_zero, List.set_cons_succ]
  refine V_bipush (v := 10) dX7_command_18 (by decide) ?_
  refine V_iload_n (i := 3) dX7_command_20 rfl rfl ?_
  refine V_imul dX7_command_21 ?_
  refine V_iload (i := 4) dX7_command_22 rfl ?_
  refine V_iadd dX7_command_24 ?_
  refine V_istore (i := 8) dX7_command_25 rfl rfl ?_
  dsimp only [List.set_cons_zero, List.set_cons_succ]
  refine V_iload_n (i := 1) dX7_command_27 rfl rfl ?_
  rcases (show how = 1 ∨ how = 2 ∨ how = 3 ∨ how = 4 ∨ how = 5 ∨ how = 6 ∨ how = 7 ∨ how = 8 ∨ how = 9 ∨ how = 0 by omega) with e0 | e0 | e0 | e0 | e0 | e0 | e0 | e0 | e0 | e0
  · refine V_top (b := 1) e0 ?_
    refine V_tableIn (tgt := 80) dX7_command_28 (by omega) (by omega) (by omega) rfl rfl ?_
    refine V_iload (i := 6) dX7_command_80 rfl ?_
    refine V_callS (As := _) (rest := []) [] (c_X7_isCell l G (10 * a + b) (by omega)) vy_X7_isCell gX7_command_X7_isCell rfl rfl rfl rfl ⟨rfl, rfl⟩ ⟨rfl, rfl⟩ ⟨Nat.zero_le _, Nat.zero_le _⟩ rfl dX7_command_82 (fun v Y hE => ?_)
    obtain ⟨rfl, rfl⟩ := hE
    refine ⟨rfl, ?_⟩
    dsimp only [vfill, List.set_cons_zero, List.set_cons_succ, Option.toList, List.cons_append, List.nil_append, Nat.add_zero]
    refine V_if_ne (tgt := 90) (by split <;> decide) dX7_command_85 rfl (fun h_85 => ?_) (fun h_85 => ?_)
    · refine V_aload_n (i := 0) dX7_command_90 rfl rfl ?_
      refine V_get (C := RX7) (T := TX7) (N := 17) (ci := 6) (q := 0) (ref := "OrderChainsModel") 6 rfl il_X7_command_X7 rfl rfl fl_X7_command_19 rfl rfl dX7_command_91 ?_
      refine V_iload (i := 6) dX7_command_94 rfl ?_
      refine V_iload (i := 7) dX7_command_96 rfl ?_
      refine V_iast (q := 2) rfl (by omega) rfl dX7_command_98 ?_
      dsimp only [List.set_cons_zero, List.set_cons_succ]
      refine V_iconst (v := 1) dX7_command_99 rfl ?_
      refine V_zret hR dX7_command_100 (by first | exact Or.inl rfl | exact Or.inr rfl | omega) hkc hks ?_
      subst e0
      have e8 : cmR 1 a b c d (z, t, y) = (if 10 * a + b < 96 then (1, (z, va_up t (10 * a + b) (10 * c + d), y)) else (0, (z, t, y))) := rfl
      rw [e8]
      first | (rw [if_pos (show (10 * a + b < 96) from (b01 h_85))]; exact ⟨rfl, rfl⟩)
    · refine V_iconst (v := 0) dX7_command_88 rfl ?_
      refine V_zret hR dX7_command_89 (by first | exact Or.inl rfl | exact Or.inr rfl | omega) hkc hks ?_
      subst e0
      have e8 : cmR 1 a b c d (z, t, y) = (if 10 * a + b < 96 then (1, (z, va_up t (10 * a + b) (10 * c + d), y)) else (0, (z, t, y))) := rfl
      rw [e8]
      first | (rw [if_neg (show ¬ (10 * a + b < 96) from fun q9 => b00 h_85 q9)]; exact ⟨rfl, rfl⟩)
  · refine V_top (b := 2) e0 ?_
    refine V_tableIn (tgt := 101) dX7_command_28 (by omega) (by omega) (by omega) rfl rfl ?_
    refine V_iload (i := 6) dX7_command_101 rfl ?_
    refine V_if_ne (tgt := 140) (by omega) dX7_command_103 rfl (fun h_103 => ?_) (fun h_103 => ?_)
    · refine V_iconst (v := 0) dX7_command_140 rfl ?_
      refine V_zret hR dX7_command_141 (by first | exact Or.inl rfl | exact Or.inr rfl | omega) hkc hks ?_
      subst e0
      have e8 : cmR 2 a b c d (z, t, y) = (if 10 * a + b = 0 ∧ 0 < 10 * c + d ∧ ¬ rT t = 4294967287 then (if (rRun (10 * c + d) (z, t, y)).1 = 0 then 0 else 1, (rRun (10 * c + d) (z, t, y)).2) else (0, (z, t, y))) := rfl
      rw [e8]
      have r9 := rRun_le (10 * c + d) (z, t, y)
      first | (rw [if_pos (show 10 * a + b = 0 ∧ 0 < 10 * c + d ∧ ¬ rT t = 4294967287 from ⟨by omega, by omega, h_120⟩), if_neg (show ¬ (rRun (10 * c + d) (z, t, y)).1 = 0 by omega)]; exact ⟨rfl, rfl⟩) | (rw [if_pos (show 10 * a + b = 0 ∧ 0 < 10 * c + d ∧ ¬ rT t = 4294967287 from ⟨by omega, by omega, h_120⟩), if_pos (show (rRun (10 * c + d) (z, t, y)).1 = 0 by omega)]; exact ⟨rfl, rfl⟩) | (rw [if_neg (show ¬ (10 * a + b = 0 ∧ 0 < 10 * c + d ∧ ¬ rT t = 4294967287) from fun q9 => q9.2.2 h_120)]; exact ⟨rfl, rfl⟩) | (rw [if_neg (show ¬ (10 * a + b = 0 ∧ 0 < 10 * c + d ∧ ¬ rT t = 4294967287) from fun q9 => by omega)]; exact ⟨rfl, rfl⟩)
    · refine V_iload (i := 7) dX7_command_106 rfl ?_
      refine V_if_le (tgt := 140) (by omega) dX7_command_108 rfl (fun h_108 => ?_) (fun h_108 => ?_)
      · refine V_iconst (v := 0) dX7_command_140 rfl ?_
        refine V_zret hR dX7_command_141 (by first | exact Or.inl rfl | exact Or.inr rfl | omega) hkc hks ?_
        subst e0
        have e8 : cmR 2 a b c d (z, t, y) = (if 10 * a + b = 0 ∧ 0 < 10 * c + d ∧ ¬ rT t = 4294967287 then (if (rRun (10 * c + d) (z, t, y)).1 = 0 then 0 else 1, (rRun (10 * c + d) (z, t, y)).2) else (0, (z, t, y))) := rfl
        rw [e8]
        have r9 := rRun_le (10 * c + d) (z, t, y)
        first | (rw [if_pos (show 10 * a + b = 0 ∧ 0 < 10 * c + d ∧ ¬ rT t = 4294967287 from ⟨by omega, by omega, h_120⟩), if_neg (show ¬ (rRun (10 * c + d) (z, t, y)).1 = 0 by omega)]; exact ⟨rfl, rfl⟩) | (rw [if_pos (show 10 * a + b = 0 ∧ 0 < 10 * c + d ∧ ¬ rT t = 4294967287 from ⟨by omega, by omega, h_120⟩), if_pos (show (rRun (10 * c + d) (z, t, y)).1 = 0 by omega)]; exact ⟨rfl, rfl⟩) | (rw [if_neg (show ¬ (10 * a + b = 0 ∧ 0 < 10 * c + d ∧ ¬ rT t = 4294967287) from fun q9 => q9.2.2 h_120)]; exact ⟨rfl, rfl⟩) | (rw [if_neg (show ¬ (10 * a + b = 0 ∧ 0 < 10 * c + d ∧ ¬ rT t = 4294967287) from fun q9 => by omega)]; exact ⟨rfl, rfl⟩)
      · refine V_aload_n (i := 0) dX7_command_111 rfl rfl ?_
        refine V_get (C := RX7) (T := TX7) (N := 17) (ci := 6) (q := 0) (ref := "OrderChainsModel") 6 rfl il_X7_command_X7 rfl rfl fl_X7_command_19 rfl rfl dX7_command_112 ?_
        refine V_callS (As := _) (rest := []) [2] (c_X7_turnOf l G (B 4) t hg.2.2.2.1 (fun h hh => (hg.2.2.2.2 h hh).1)) vy_X7_turnOf gX7_command_X7_turnOf rfl rfl rfl rfl ⟨rfl, rfl⟩ ⟨rfl, rfl⟩ ⟨Nat.zero_le _, Nat.zero_le _⟩ rfl dX7_command_115 (fun v Y hE => ?_)
        obtain ⟨rfl, rfl⟩ := hE
        refine ⟨rfl, ?_⟩
        dsimp only [vfill, List.set_cons_zero, List.set_cons_succ, Option.toList, List.cons_append, List.nil_append, Nat.add_zero]
        refine V_bipush (v := 4294967287) dX7_command_118 (by decide) ?_
        refine V_icmp_eq (tgt := 140) (rT_l32 t) (by omega) dX7_command_120 rfl (fun h_120 => ?_) (fun h_120 => ?_)
        · refine V_iconst (v := 0) dX7_command_140 rfl ?_
          refine V_zret hR dX7_command_141 (by first | exact Or.inl rfl | exact Or.inr rfl | omega) hkc hks ?_
          subst e0
          have e8 : cmR 2 a b c d (z, t, y) = (if 10 * a + b = 0 ∧ 0 < 10 * c + d ∧ ¬ rT t = 4294967287 then (if (rRun (10 * c + d) (z, t, y)).1 = 0 then 0 else 1, (rRun (10 * c + d) (z, t, y)).2) else (0, (z, t, y))) := rfl
          rw [e8]
          have r9 := rRun_le (10 * c + d) (z, t, y)
          first | (rw [if_pos (show 10 * a + b = 0 ∧ 0 < 10 * c + d ∧ ¬ rT t = 4294967287 from ⟨by omega, by omega, h_120⟩), if_neg (show ¬ (rRun (10 * c + d) (z, t, y)).1 = 0 by omega)]; exact ⟨rfl, rfl⟩) | (rw [if_pos (show 10 * a + b = 0 ∧ 0 < 10 * c + d ∧ ¬ rT t = 4294967287 from ⟨by omega, by omega, h_120⟩), if_pos (show (rRun (10 * c + d) (z, t, y)).1 = 0 by omega)]; exact ⟨rfl, rfl⟩) | (rw [if_neg (show ¬ (10 * a + b = 0 ∧ 0 < 10 * c + d ∧ ¬ rT t = 4294967287) from fun q9 => q9.2.2 h_120)]; exact ⟨rfl, rfl⟩) | (rw [if_neg (show ¬ (10 * a + b = 0 ∧ 0 < 10 * c + d ∧ ¬ rT t = 4294967287) from fun q9 => by omega)]; exact ⟨rfl, rfl⟩)
        · refine V_aload_n (i := 0) dX7_command_123 rfl rfl ?_
          refine V_aload_n (i := 0) dX7_command_124 rfl rfl ?_
          refine V_get (C := RX7) (T := TX7) (N := 17) (ci := 6) (q := 0) (ref := "OrderChainsModel") 6 rfl il_X7_command_X7 rfl rfl fl_X7_command_19 rfl rfl dX7_command_125 ?_
          refine V_iload (i := 7) dX7_command_128 rfl ?_
          refine V_callV (C := RX7) (q := 0) (ci := 6) (As := _) (rest := []) [0, 2, 3] (c_X7_goOnFor l G B z y (B 4) t (10 * c + d) (by omega) Q hQ1 hQ2 hq) vy_X7_goOnFor gX7_command_X7_goOnFor rfl rfl rfl rfl rfl rfl rfl ⟨rfl, rfl⟩ ⟨rfl, rfl⟩ ⟨Nat.zero_le _, Nat.zero_le _⟩ rfl dX7_command_130 (fun v Y hE => ?_)
          obtain ⟨rfl, rfl⟩ := hE
          refine ⟨rfl, ?_⟩
          dsimp only [vfill, w3, List.set_cons_zero, List.set_cons_succ, Option.toList, List.cons_append, List.nil_append, Nat.add_zero]
          refine V_if_le (tgt := 140) (by have := rRun_le (10 * c + d) (z, t, y); omega) dX7_command_133 rfl (fun h_133 => ?_) (fun h_133 => ?_)
          · refine V_iconst (v := 0) dX7_command_140 rfl ?_
            refine V_zret hR dX7_command_141 (by first | exact Or.inl rfl | exact Or.inr rfl | omega) hkc hks ?_
            subst e0
            have e8 : cmR 2 a b c d (z, t, y) = (if 10 * a + b = 0 ∧ 0 < 10 * c + d ∧ ¬ rT t = 4294967287 then (if (rRun (10 * c + d) (z, t, y)).1 = 0 then 0 else 1, (rRun (10 * c + d) (z, t, y)).2) else (0, (z, t, y))) := rfl
            rw [e8]
            have r9 := rRun_le (10 * c + d) (z, t, y)
            first | (rw [if_pos (show 10 * a + b = 0 ∧ 0 < 10 * c + d ∧ ¬ rT t = 4294967287 from ⟨by omega, by omega, h_120⟩), if_neg (show ¬ (rRun (10 * c + d) (z, t, y)).1 = 0 by omega)]; exact ⟨rfl, rfl⟩) | (rw [if_pos (show 10 * a + b = 0 ∧ 0 < 10 * c + d ∧ ¬ rT t = 4294967287 from ⟨by omega, by omega, h_120⟩), if_pos (show (rRun (10 * c + d) (z, t, y)).1 = 0 by omega)]; exact ⟨rfl, rfl⟩) | (rw [if_neg (show ¬ (10 * a + b = 0 ∧ 0 < 10 * c + d ∧ ¬ rT t = 4294967287) from fun q9 => q9.2.2 h_120)]; exact ⟨rfl, rfl⟩) | (rw [if_neg (show ¬ (10 * a + b = 0 ∧ 0 < 10 * c + d ∧ ¬ rT t = 4294967287) from fun q9 => by omega)]; exact ⟨rfl, rfl⟩)
          · refine V_iconst (v := 1) dX7_command_136 rfl ?_
            refine V_goto (tgt := 141) dX7_command_137 rfl ?_
            refine V_zret hR dX7_command_141 (by first | exact Or.inl rfl | exact Or.inr rfl | omega) hkc hks ?_
            subst e0
            have e8 : cmR 2 a b c d (z, t, y) = (if 10 * a + b = 0 ∧ 0 < 10 * c + d ∧ ¬ rT t = 4294967287 then (if (rRun (10 * c + d) (z, t, y)).1 = 0 then 0 else 1, (rRun (10 * c + d) (z, t, y)).2) else (0, (z, t, y))) := rfl
            rw [e8]
            have r9 := rRun_le (10 * c + d) (z, t, y)
            first | (rw [if_pos (show 10 * a + b = 0 ∧ 0 < 10 * c + d ∧ ¬ rT t = 4294967287 from ⟨by omega, by omega, h_120⟩), if_neg (show ¬ (rRun (10 * c + d) (z, t, y)).1 = 0 by omega)]; exact ⟨rfl, rfl⟩) | (rw [if_pos (show 10 * a + b = 0 ∧ 0 < 10 * c + d ∧ ¬ rT t = 4294967287 from ⟨by omega, by omega, h_120⟩), if_pos (show (rRun (10 * c + d) (z, t, y)).1 = 0 by omega)]; exact ⟨rfl, rfl⟩) | (rw [if_neg (show ¬ (10 * a + b = 0 ∧ 0 < 10 * c + d ∧ ¬ rT t = 4294967287) from fun q9 => q9.2.2 h_120)]; exact ⟨rfl, rfl⟩) | (rw [if_neg (show ¬ (10 * a + b = 0 ∧ 0 < 10 * c + d ∧ ¬ rT t = 4294967287) from fun q9 => by omega)]; exact ⟨rfl, rfl⟩)
  · refine V_top (b := 3) e0 ?_
    refine V_tableIn (tgt := 142) dX7_command_28 (by omega) (by omega) (by omega) rfl rfl ?_
    refine V_iload (i := 5) dX7_command_142 rfl ?_
    refine V_if_gt (tgt := 162) (by omega) dX7_command_144 rfl (fun h_144 => ?_) (fun h_144 => ?_)
    · refine V_iconst (v := 0) dX7_command_162 rfl ?_
      refine V_zret hR dX7_command_163 (by first | exact Or.inl rfl | exact Or.inr rfl | omega) hkc hks ?_
      subst e0
      have e8 : cmR 3 a b c d (z, t, y) = (if d = 0 ∧ a < 3 ∧ 10 * b + c < 96 then (1, (z, rBegin a (10 * b + c) 1 t, y)) else (0, (z, t, y))) := rfl
      rw [e8]
      first | (rw [if_neg (show ¬ (d = 0 ∧ a < 3 ∧ 10 * b + c < 96) from fun q9 => b00 h_151 q9.2.1)]; exact ⟨rfl, rfl⟩) | (rw [if_neg (show ¬ (d = 0 ∧ a < 3 ∧ 10 * b + c < 96) from fun q9 => b00 h_159 q9.2.2)]; exact ⟨rfl, rfl⟩) | (rw [if_neg (show ¬ (d = 0 ∧ a < 3 ∧ 10 * b + c < 96) from fun q9 => by omega)]; exact ⟨rfl, rfl⟩)
    · refine V_iload_n (i := 2) dX7_command_147 rfl rfl ?_
      refine V_callS (As := _) (rest := []) [] (c_X7_isChannel l G (a) (by omega)) vy_X7_isChannel gX7_command_X7_isChannel rfl rfl rfl rfl ⟨rfl, rfl⟩ ⟨rfl, rfl⟩ ⟨Nat.zero_le _, Nat.zero_le _⟩ rfl dX7_command_148 (fun v Y hE => ?_)
      obtain ⟨rfl, rfl⟩ := hE
      refine ⟨rfl, ?_⟩
      dsimp only [vfill, List.set_cons_zero, List.set_cons_succ, Option.toList, List.cons_append, List.nil_append, Nat.add_zero]
      refine V_if_eq (tgt := 162) (by split <;> decide) dX7_command_151 rfl (fun h_151 => ?_) (fun h_151 => ?_)
      · refine V_iconst (v := 0) dX7_command_162 rfl ?_
        refine V_zret hR dX7_command_163 (by first | exact Or.inl rfl | exact Or.inr rfl | omega) hkc hks ?_
        subst e0
        have e8 : cmR 3 a b c d (z, t, y) = (if d = 0 ∧ a < 3 ∧ 10 * b + c < 96 then (1, (z, rBegin a (10 * b + c) 1 t, y)) else (0, (z, t, y))) := rfl
        rw [e8]
        first | (rw [if_neg (show ¬ (d = 0 ∧ a < 3 ∧ 10 * b + c < 96) from fun q9 => b00 h_151 q9.2.1)]; exact ⟨rfl, rfl⟩) | (rw [if_neg (show ¬ (d = 0 ∧ a < 3 ∧ 10 * b + c < 96) from fun q9 => b00 h_159 q9.2.2)]; exact ⟨rfl, rfl⟩) | (rw [if_neg (show ¬ (d = 0 ∧ a < 3 ∧ 10 * b + c < 96) from fun q9 => by omega)]; exact ⟨rfl, rfl⟩)
      · refine V_iload (i := 8) dX7_command_154 rfl ?_
        refine V_callS (As := _) (rest := []) [] (c_X7_isCell l G (10 * b + c) (by omega)) vy_X7_isCell gX7_command_X7_isCell rfl rfl rfl rfl ⟨rfl, rfl⟩ ⟨rfl, rfl⟩ ⟨Nat.zero_le _, Nat.zero_le _⟩ rfl dX7_command_156 (fun v Y hE => ?_)
        obtain ⟨rfl, rfl⟩ := hE
        refine ⟨rfl, ?_⟩
        dsimp only [vfill, List.set_cons_zero, List.set_cons_succ, Option.toList, List.cons_append, List.nil_append, Nat.add_zero]
        refine V_if_ne (tgt := 164) (by split <;> decide) dX7_command_159 rfl (fun h_159 => ?_) (fun h_159 => ?_)
        · refine V_aload_n (i := 0) dX7_command_164 rfl rfl ?_
          refine V_get (C := RX7) (T := TX7) (N := 17) (ci := 6) (q := 0) (ref := "OrderChainsModel") 6 rfl il_X7_command_X7 rfl rfl fl_X7_command_19 rfl rfl dX7_command_165 ?_
          refine V_iload_n (i := 2) dX7_command_168 rfl rfl ?_
          refine V_iload (i := 8) dX7_command_169 rfl ?_
          refine V_iconst (v := 1) dX7_command_171 rfl ?_
          refine V_callS (As := _) (rest := []) [2] (c_X7_begin l G (B 4) t a (10 * b + c) 1 (b01 h_151)) vy_X7_begin gX7_command_X7_begin rfl rfl rfl rfl ⟨rfl, rfl⟩ ⟨rfl, rfl⟩ ⟨Nat.zero_le _, Nat.zero_le _⟩ rfl dX7_command_172 (fun v Y hE => ?_)
          obtain ⟨rfl, rfl⟩ := hE
          refine ⟨rfl, ?_⟩
          dsimp only [vfill, List.set_cons_zero, List.set_cons_succ, Option.toList, List.cons_append, List.nil_append, Nat.add_zero]
          refine V_iconst (v := 1) dX7_command_175 rfl ?_
          refine V_zret hR dX7_command_176 (by first | exact Or.inl rfl | exact Or.inr rfl | omega) hkc hks ?_
          subst e0
          have e8 : cmR 3 a b c d (z, t, y) = (if d = 0 ∧ a < 3 ∧ 10 * b + c < 96 then (1, (z, rBegin a (10 * b + c) 1 t, y)) else (0, (z, t, y))) := rfl
          rw [e8]
          first | (rw [if_pos (show (d = 0 ∧ a < 3 ∧ 10 * b + c < 96) from ⟨by omega, b01 h_151, b01 h_159⟩)]; exact ⟨rfl, rfl⟩)
        · refine V_iconst (v := 0) dX7_command_162 rfl ?_
          refine V_zret hR dX7_command_163 (by first | exact Or.inl rfl | exact Or.inr rfl | omega) hkc hks ?_
          subst e0
          have e8 : cmR 3 a b c d (z, t, y) = (if d = 0 ∧ a < 3 ∧ 10 * b + c < 96 then (1, (z, rBegin a (10 * b + c) 1 t, y)) else (0, (z, t, y))) := rfl
          rw [e8]
          first | (rw [if_neg (show ¬ (d = 0 ∧ a < 3 ∧ 10 * b + c < 96) from fun q9 => b00 h_151 q9.2.1)]; exact ⟨rfl, rfl⟩) | (rw [if_neg (show ¬ (d = 0 ∧ a < 3 ∧ 10 * b + c < 96) from fun q9 => b00 h_159 q9.2.2)]; exact ⟨rfl, rfl⟩) | (rw [if_neg (show ¬ (d = 0 ∧ a < 3 ∧ 10 * b + c < 96) from fun q9 => by omega)]; exact ⟨rfl, rfl⟩)
  · refine V_top (b := 4) e0 ?_
    refine V_tableIn (tgt := 177) dX7_command_28 (by omega) (by omega) (by omega) rfl rfl ?_
    refine V_iload (i := 8) dX7_command_177 rfl ?_
    refine V_iload (i := 5) dX7_command_179 rfl ?_
    refine V_iadd dX7_command_181 ?_
    refine V_if_ne (tgt := 220) (by omega) dX7_command_182 rfl (fun h_182 => ?_) (fun h_182 => ?_)
    · refine V_iconst (v := 0) dX7_command_220 rfl ?_
      refine V_zret hR dX7_command_221 (by first | exact Or.inl rfl | exact Or.inr rfl | omega) hkc hks ?_
      subst e0
      have e8 : cmR 4 a b c d (z, t, y) = (if 10 * b + c + d = 0 ∧ a < 3 ∧ t (384 + 13 * a) = 1 then (1, (z, rBegin a (t (384 + 13 * a + 1)) 0 t, y)) else (0, (z, t, y))) := rfl
      rw [e8]
      first | (rw [if_pos (show (10 * b + c + d = 0 ∧ a < 3 ∧ t (384 + 13 * a) = 1) from ⟨by omega, b01 h_189, h_202⟩)]; exact ⟨rfl, rfl⟩) | (rw [if_neg (show ¬ (10 * b + c + d = 0 ∧ a < 3 ∧ t (384 + 13 * a) = 1) from fun q9 => h_202 q9.2.2)]; exact ⟨rfl, rfl⟩) | (rw [if_neg (show ¬ (10 * b + c + d = 0 ∧ a < 3 ∧ t (384 + 13 * a) = 1) from fun q9 => b00 h_189 q9.2.1)]; exact ⟨rfl, rfl⟩) | (rw [if_neg (show ¬ (10 * b + c + d = 0 ∧ a < 3 ∧ t (384 + 13 * a) = 1) from fun q9 => by omega)]; exact ⟨rfl, rfl⟩)
    · refine V_iload_n (i := 2) dX7_command_185 rfl rfl ?_
      refine V_callS (As := _) (rest := []) [] (c_X7_isChannel l G (a) (by omega)) vy_X7_isChannel gX7_command_X7_isChannel rfl rfl rfl rfl ⟨rfl, rfl⟩ ⟨rfl, rfl⟩ ⟨Nat.zero_le _, Nat.zero_le _⟩ rfl dX7_command_186 (fun v Y hE => ?_)
      obtain ⟨rfl, rfl⟩ := hE
      refine ⟨rfl, ?_⟩
      dsimp only [vfill, List.set_cons_zero, List.set_cons_succ, Option.toList, List.cons_append, List.nil_append, Nat.add_zero]
      refine V_if_eq (tgt := 220) (by split <;> decide) dX7_command_189 rfl (fun h_189 => ?_) (fun h_189 => ?_)
      · refine V_iconst (v := 0) dX7_command_220 rfl ?_
        refine V_zret hR dX7_command_221 (by first | exact Or.inl rfl | exact Or.inr rfl | omega) hkc hks ?_
        subst e0
        have e8 : cmR 4 a b c d (z, t, y) = (if 10 * b + c + d = 0 ∧ a < 3 ∧ t (384 + 13 * a) = 1 then (1, (z, rBegin a (t (384 + 13 * a + 1)) 0 t, y)) else (0, (z, t, y))) := rfl
        rw [e8]
        first | (rw [if_pos (show (10 * b + c + d = 0 ∧ a < 3 ∧ t (384 + 13 * a) = 1) from ⟨by omega, b01 h_189, h_202⟩)]; exact ⟨rfl, rfl⟩) | (rw [if_neg (show ¬ (10 * b + c + d = 0 ∧ a < 3 ∧ t (384 + 13 * a) = 1) from fun q9 => h_202 q9.2.2)]; exact ⟨rfl, rfl⟩) | (rw [if_neg (show ¬ (10 * b + c + d = 0 ∧ a < 3 ∧ t (384 + 13 * a) = 1) from fun q9 => b00 h_189 q9.2.1)]; exact ⟨rfl, rfl⟩) | (rw [if_neg (show ¬ (10 * b + c + d = 0 ∧ a < 3 ∧ t (384 + 13 * a) = 1) from fun q9 => by omega)]; exact ⟨rfl, rfl⟩)
      · have hx9 := b01 h_189
        refine V_aload_n (i := 0) dX7_command_192 rfl rfl ?_
        refine V_get (C := RX7) (T := TX7) (N := 17) (ci := 6) (q := 0) (ref := "OrderChainsModel") 6 rfl il_X7_command_X7 rfl rfl fl_X7_command_19 rfl rfl dX7_command_193 ?_
        refine V_iload_n (i := 2) dX7_command_196 rfl rfl ?_
        refine V_callS (As := _) (rest := _) [] (c_X7_at l G (a)) vy_X7_at gX7_command_X7_at rfl rfl rfl rfl ⟨rfl, rfl⟩ ⟨rfl, rfl⟩ ⟨Nat.zero_le _, Nat.zero_le _⟩ rfl dX7_command_197 (fun v Y hE => ?_)
        obtain ⟨rfl, rfl⟩ := hE
        refine ⟨rfl, ?_⟩
        dsimp only [vfill, List.set_cons_zero, List.set_cons_succ, Option.toList, List.cons_append, List.nil_append, Nat.add_zero]
        refine V_iald (q := 2) rfl (by omega) rfl dX7_command_200 ?_
        refine V_iconst (v := 1) dX7_command_201 rfl ?_
        refine V_icmp_ne (tgt := 220) (by have := (hg.2.2.2.2 a (b01 h_189)).1; omega) (by omega) dX7_command_202 rfl (fun h_202 => ?_) (fun h_202 => ?_)
        · refine V_iconst (v := 0) dX7_command_220 rfl ?_
          refine V_zret hR dX7_command_221 (by first | exact Or.inl rfl | exact Or.inr rfl | omega) hkc hks ?_
          subst e0
          have e8 : cmR 4 a b c d (z, t, y) = (if 10 * b + c + d = 0 ∧ a < 3 ∧ t (384 + 13 * a) = 1 then (1, (z, rBegin a (t (384 + 13 * a + 1)) 0 t, y)) else (0, (z, t, y))) := rfl
          rw [e8]
          first | (rw [if_pos (show (10 * b + c + d = 0 ∧ a < 3 ∧ t (384 + 13 * a) = 1) from ⟨by omega, b01 h_189, h_202⟩)]; exact ⟨rfl, rfl⟩) | (rw [if_neg (show ¬ (10 * b + c + d = 0 ∧ a < 3 ∧ t (384 + 13 * a) = 1) from fun q9 => h_202 q9.2.2)]; exact ⟨rfl, rfl⟩) | (rw [if_neg (show ¬ (10 * b + c + d = 0 ∧ a < 3 ∧ t (384 + 13 * a) = 1) from fun q9 => b00 h_189 q9.2.1)]; exact ⟨rfl, rfl⟩) | (rw [if_neg (show ¬ (10 * b + c + d = 0 ∧ a < 3 ∧ t (384 + 13 * a) = 1) from fun q9 => by omega)]; exact ⟨rfl, rfl⟩)
        · refine V_aload_n (i := 0) dX7_command_205 rfl rfl ?_
          refine V_get (C := RX7) (T := TX7) (N := 17) (ci := 6) (q := 0) (ref := "OrderChainsModel") 6 rfl il_X7_command_X7 rfl rfl fl_X7_command_19 rfl rfl dX7_command_206 ?_
          refine V_iload_n (i := 2) dX7_command_209 rfl rfl ?_
          refine V_callS (As := _) (rest := []) [2] (c_X7_stopOn l G (B 4) t a (b01 h_189) (hg.2.2.2.2 a (b01 h_189))) vy_X7_stopOn gX7_command_X7_stopOn rfl rfl rfl rfl ⟨rfl, rfl⟩ ⟨rfl, rfl⟩ ⟨Nat.zero_le _, Nat.zero_le _⟩ rfl dX7_command_210 (fun v Y hE => ?_)
          obtain ⟨rfl, rfl⟩ := hE
          refine ⟨rfl, ?_⟩
          dsimp only [vfill, List.set_cons_zero, List.set_cons_succ, Option.toList, List.cons_append, List.nil_append, Nat.add_zero]
          refine V_if_lt (tgt := 220) (by have q := (hg.2.2.2.2 a (b01 h_189)).2.2.2.2.2.2.1; unfold rSo; split <;> omega) dX7_command_213 rfl (fun h_213 => ?_) (fun h_213 => ?_)
          · exfalso; (have q := (hg.2.2.2.2 a (b01 h_189)).2.2.2.2.2.2.1; unfold rSo at h_213; split at h_213 <;> omega)
          · refine V_iconst (v := 1) dX7_command_216 rfl ?_
            refine V_goto (tgt := 221) dX7_command_217 rfl ?_
            refine V_zret hR dX7_command_221 (by first | exact Or.inl rfl | exact Or.inr rfl | omega) hkc hks ?_
            subst e0
            have e8 : cmR 4 a b c d (z, t, y) = (if 10 * b + c + d = 0 ∧ a < 3 ∧ t (384 + 13 * a) = 1 then (1, (z, rBegin a (t (384 + 13 * a + 1)) 0 t, y)) else (0, (z, t, y))) := rfl
            rw [e8]
            first | (rw [if_pos (show (10 * b + c + d = 0 ∧ a < 3 ∧ t (384 + 13 * a) = 1) from ⟨by omega, b01 h_189, h_202⟩)]; exact ⟨rfl, rfl⟩) | (rw [if_neg (show ¬ (10 * b + c + d = 0 ∧ a < 3 ∧ t (384 + 13 * a) = 1) from fun q9 => h_202 q9.2.2)]; exact ⟨rfl, rfl⟩) | (rw [if_neg (show ¬ (10 * b + c + d = 0 ∧ a < 3 ∧ t (384 + 13 * a) = 1) from fun q9 => b00 h_189 q9.2.1)]; exact ⟨rfl, rfl⟩) | (rw [if_neg (show ¬ (10 * b + c + d = 0 ∧ a < 3 ∧ t (384 + 13 * a) = 1) from fun q9 => by omega)]; exact ⟨rfl, rfl⟩)
  · refine V_top (b := 5) e0 ?_
    refine V_tableIn (tgt := 222) dX7_command_28 (by omega) (by omega) (by omega) rfl rfl ?_
    refine V_iload (i := 6) dX7_command_222 rfl ?_
    refine V_callS (As := _) (rest := []) [] (c_X7_isCell l G (10 * a + b) (by omega)) vy_X7_isCell gX7_command_X7_isCell rfl rfl rfl rfl ⟨rfl, rfl⟩ ⟨rfl, rfl⟩ ⟨Nat.zero_le _, Nat.zero_le _⟩ rfl dX7_command_224 (fun v Y hE => ?_)
    obtain ⟨rfl, rfl⟩ := hE
    refine ⟨rfl, ?_⟩
    dsimp only [vfill, List.set_cons_zero, List.set_cons_succ, Option.toList, List.cons_append, List.nil_append, Nat.add_zero]
    refine V_if_eq (tgt := 261) (by split <;> decide) dX7_command_227 rfl (fun h_227 => ?_) (fun h_227 => ?_)
    · refine V_iconst (v := 0) dX7_command_261 rfl ?_
      refine V_zret hR dX7_command_262 (by first | exact Or.inl rfl | exact Or.inr rfl | omega) hkc hks ?_
      subst e0
      have e8 : cmR 5 a b c d (z, t, y) = (if 10 * a + b < 96 ∧ c < 4 ∧ 0 < d then (1, (z, rOwF (10 * a + b) (sm (10 * a + b) d) c t, y)) else (0, (z, t, y))) := rfl
      rw [e8]
      first | (rw [if_pos (show (10 * a + b < 96 ∧ c < 4 ∧ 0 < d) from ⟨b01 h_227, by omega, by omega⟩)]; exact ⟨rfl, rfl⟩) | (rw [if_neg (show ¬ (10 * a + b < 96 ∧ c < 4 ∧ 0 < d) from fun q9 => b00 h_227 q9.1)]; exact ⟨rfl, rfl⟩) | (rw [if_neg (show ¬ (10 * a + b < 96 ∧ c < 4 ∧ 0 < d) from fun q9 => by omega)]; exact ⟨rfl, rfl⟩)
    · have hx9 := b01 h_227
      refine V_iload (i := 4) dX7_command_230 rfl ?_
      refine V_iconst (v := 3) dX7_command_232 rfl ?_
      refine V_icmp_gt (tgt := 261) (by omega) (by omega) dX7_command_233 rfl (fun h_233 => ?_) (fun h_233 => ?_)
      · refine V_iconst (v := 0) dX7_command_261 rfl ?_
        refine V_zret hR dX7_command_262 (by first | exact Or.inl rfl | exact Or.inr rfl | omega) hkc hks ?_
        subst e0
        have e8 : cmR 5 a b c d (z, t, y) = (if 10 * a + b < 96 ∧ c < 4 ∧ 0 < d then (1, (z, rOwF (10 * a + b) (sm (10 * a + b) d) c t, y)) else (0, (z, t, y))) := rfl
        rw [e8]
        first | (rw [if_pos (show (10 * a + b < 96 ∧ c < 4 ∧ 0 < d) from ⟨b01 h_227, by omega, by omega⟩)]; exact ⟨rfl, rfl⟩) | (rw [if_neg (show ¬ (10 * a + b < 96 ∧ c < 4 ∧ 0 < d) from fun q9 => b00 h_227 q9.1)]; exact ⟨rfl, rfl⟩) | (rw [if_neg (show ¬ (10 * a + b < 96 ∧ c < 4 ∧ 0 < d) from fun q9 => by omega)]; exact ⟨rfl, rfl⟩)
      · refine V_iload (i := 5) dX7_command_236 rfl ?_
        refine V_if_le (tgt := 261) (by omega) dX7_command_238 rfl (fun h_238 => ?_) (fun h_238 => ?_)
        · refine V_iconst (v := 0) dX7_command_261 rfl ?_
          refine V_zret hR dX7_command_262 (by first | exact Or.inl rfl | exact Or.inr rfl | omega) hkc hks ?_
          subst e0
          have e8 : cmR 5 a b c d (z, t, y) = (if 10 * a + b < 96 ∧ c < 4 ∧ 0 < d then (1, (z, rOwF (10 * a + b) (sm (10 * a + b) d) c t, y)) else (0, (z, t, y))) := rfl
          rw [e8]
          first | (rw [if_pos (show (10 * a + b < 96 ∧ c < 4 ∧ 0 < d) from ⟨b01 h_227, by omega, by omega⟩)]; exact ⟨rfl, rfl⟩) | (rw [if_neg (show ¬ (10 * a + b < 96 ∧ c < 4 ∧ 0 < d) from fun q9 => b00 h_227 q9.1)]; exact ⟨rfl, rfl⟩) | (rw [if_neg (show ¬ (10 * a + b < 96 ∧ c < 4 ∧ 0 < d) from fun q9 => by omega)]; exact ⟨rfl, rfl⟩)
        · refine V_aload_n (i := 0) dX7_command_241 rfl rfl ?_
          refine V_get (C := RX7) (T := TX7) (N := 17) (ci := 6) (q := 0) (ref := "OrderChainsModel") 6 rfl il_X7_command_X7 rfl rfl fl_X7_command_19 rfl rfl dX7_command_242 ?_
          refine V_iload (i := 6) dX7_command_245 rfl ?_
          refine V_iload (i := 5) dX7_command_247 rfl ?_
          refine V_iload (i := 4) dX7_command_249 rfl ?_
          refine V_callS (As := _) (rest := []) [2] (c_X7_ownOn l G (B 4) t (10 * a + b) d c (b01 h_227) (by omega) (by omega) hg.2.1) vy_X7_ownOn gX7_command_X7_ownOn rfl rfl rfl rfl ⟨rfl, rfl⟩ ⟨rfl, rfl⟩ ⟨Nat.zero_le _, Nat.zero_le _⟩ rfl dX7_command_251 (fun v Y hE => ?_)
          obtain ⟨rfl, rfl⟩ := hE
          refine ⟨rfl, ?_⟩
          dsimp only [vfill, List.set_cons_zero, List.set_cons_succ, Option.toList, List.cons_append, List.nil_append, Nat.add_zero]
          refine V_if_lt (tgt := 261) (by have := gvN_le (10 * a + b) (sm (10 * a + b) d) c (fun k => t (96 + k)); have : sm (10 * a + b) d ≤ 96 := (by unfold sm; split <;> omega); show rOwN _ _ _ _ < _; unfold rOwN; omega) dX7_command_254 rfl (fun h_254 => ?_) (fun h_254 => ?_)
          · exfalso; (have q := gvN_le (10 * a + b) (sm (10 * a + b) d) c (fun k => t (96 + k)); have q2 : sm (10 * a + b) d ≤ 96 := (by unfold sm; split <;> omega); unfold rOwN at h_254; omega)
          · refine V_iconst (v := 1) dX7_command_257 rfl ?_
            refine V_goto (tgt := 262) dX7_command_258 rfl ?_
            refine V_zret hR dX7_command_262 (by first | exact Or.inl rfl | exact Or.inr rfl | omega) hkc hks ?_
            subst e0
            have e8 : cmR 5 a b c d (z, t, y) = (if 10 * a + b < 96 ∧ c < 4 ∧ 0 < d then (1, (z, rOwF (10 * a + b) (sm (10 * a + b) d) c t, y)) else (0, (z, t, y))) := rfl
            rw [e8]
            first | (rw [if_pos (show (10 * a + b < 96 ∧ c < 4 ∧ 0 < d) from ⟨b01 h_227, by omega, by omega⟩)]; exact ⟨rfl, rfl⟩) | (rw [if_neg (show ¬ (10 * a + b < 96 ∧ c < 4 ∧ 0 < d) from fun q9 => b00 h_227 q9.1)]; exact ⟨rfl, rfl⟩) | (rw [if_neg (show ¬ (10 * a + b < 96 ∧ c < 4 ∧ 0 < d) from fun q9 => by omega)]; exact ⟨rfl, rfl⟩)
  · refine V_top (b := 6) e0 ?_
    refine V_tableIn (tgt := 263) dX7_command_28 (by omega) (by omega) (by omega) rfl rfl ?_
    refine V_iload (i := 6) dX7_command_263 rfl ?_
    refine V_callS (As := _) (rest := []) [] (c_X7_isCell l G (10 * a + b) (by omega)) vy_X7_isCell gX7_command_X7_isCell rfl rfl rfl rfl ⟨rfl, rfl⟩ ⟨rfl, rfl⟩ ⟨Nat.zero_le _, Nat.zero_le _⟩ rfl dX7_command_265 (fun v Y hE => ?_)
    obtain ⟨rfl, rfl⟩ := hE
    refine ⟨rfl, ?_⟩
    dsimp only [vfill, List.set_cons_zero, List.set_cons_succ, Option.toList, List.cons_append, List.nil_append, Nat.add_zero]
    refine V_if_eq (tgt := 287) (by split <;> decide) dX7_command_268 rfl (fun h_268 => ?_) (fun h_268 => ?_)
    · refine V_iconst (v := 0) dX7_command_287 rfl ?_
      refine V_zret hR dX7_command_288 (by first | exact Or.inl rfl | exact Or.inr rfl | omega) hkc hks ?_
      subst e0
      have e8 : cmR 6 a b c d (z, t, y) = (if 10 * a + b < 96 ∧ t (10 * a + b) = 10 * c + d then (1, (z, t, y)) else (0, (z, t, y))) := rfl
      rw [e8]
      first | (rw [if_pos (show (10 * a + b < 96 ∧ t (10 * a + b) = 10 * c + d) from ⟨b01 h_268, h_280⟩)]; exact ⟨rfl, rfl⟩) | (rw [if_neg (show ¬ (10 * a + b < 96 ∧ t (10 * a + b) = 10 * c + d) from fun q9 => h_280 q9.2)]; exact ⟨rfl, rfl⟩) | (rw [if_neg (show ¬ (10 * a + b < 96 ∧ t (10 * a + b) = 10 * c + d) from fun q9 => b00 h_268 q9.1)]; exact ⟨rfl, rfl⟩)
    · have hx9 := b01 h_268
      refine V_aload_n (i := 0) dX7_command_271 rfl rfl ?_
      refine V_get (C := RX7) (T := TX7) (N := 17) (ci := 6) (q := 0) (ref := "OrderChainsModel") 6 rfl il_X7_command_X7 rfl rfl fl_X7_command_19 rfl rfl dX7_command_272 ?_
      refine V_iload (i := 6) dX7_command_275 rfl ?_
      refine V_iald (q := 2) rfl (by omega) rfl dX7_command_277 ?_
      refine V_iload (i := 7) dX7_command_278 rfl ?_
      refine V_icmp_ne (tgt := 287) (by have := hg.1 (10 * a + b) (b01 h_268); omega) (by omega) dX7_command_280 rfl (fun h_280 => ?_) (fun h_280 => ?_)
      · refine V_iconst (v := 0) dX7_command_287 rfl ?_
        refine V_zret hR dX7_command_288 (by first | exact Or.inl rfl | exact Or.inr rfl | omega) hkc hks ?_
        subst e0
        have e8 : cmR 6 a b c d (z, t, y) = (if 10 * a + b < 96 ∧ t (10 * a + b) = 10 * c + d then (1, (z, t, y)) else (0, (z, t, y))) := rfl
        rw [e8]
        first | (rw [if_pos (show (10 * a + b < 96 ∧ t (10 * a + b) = 10 * c + d) from ⟨b01 h_268, h_280⟩)]; exact ⟨rfl, rfl⟩) | (rw [if_neg (show ¬ (10 * a + b < 96 ∧ t (10 * a + b) = 10 * c + d) from fun q9 => h_280 q9.2)]; exact ⟨rfl, rfl⟩) | (rw [if_neg (show ¬ (10 * a + b < 96 ∧ t (10 * a + b) = 10 * c + d) from fun q9 => b00 h_268 q9.1)]; exact ⟨rfl, rfl⟩)
      · refine V_iconst (v := 1) dX7_command_283 rfl ?_
        refine V_goto (tgt := 288) dX7_command_284 rfl ?_
        refine V_zret hR dX7_command_288 (by first | exact Or.inl rfl | exact Or.inr rfl | omega) hkc hks ?_
        subst e0
        have e8 : cmR 6 a b c d (z, t, y) = (if 10 * a + b < 96 ∧ t (10 * a + b) = 10 * c + d then (1, (z, t, y)) else (0, (z, t, y))) := rfl
        rw [e8]
        first | (rw [if_pos (show (10 * a + b < 96 ∧ t (10 * a + b) = 10 * c + d) from ⟨b01 h_268, h_280⟩)]; exact ⟨rfl, rfl⟩) | (rw [if_neg (show ¬ (10 * a + b < 96 ∧ t (10 * a + b) = 10 * c + d) from fun q9 => h_280 q9.2)]; exact ⟨rfl, rfl⟩) | (rw [if_neg (show ¬ (10 * a + b < 96 ∧ t (10 * a + b) = 10 * c + d) from fun q9 => b00 h_268 q9.1)]; exact ⟨rfl, rfl⟩)
  · refine V_top (b := 7) e0 ?_
    refine V_tableIn (tgt := 289) dX7_command_28 (by omega) (by omega) (by omega) rfl rfl ?_
    refine V_iload (i := 8) dX7_command_289 rfl ?_
    refine V_if_ne (tgt := 319) (by omega) dX7_command_291 rfl (fun h_291 => ?_) (fun h_291 => ?_)
    · refine V_iconst (v := 0) dX7_command_319 rfl ?_
      refine V_zret hR dX7_command_320 (by first | exact Or.inl rfl | exact Or.inr rfl | omega) hkc hks ?_
      subst e0
      have e8 : cmR 7 a b c d (z, t, y) = (if 10 * b + c = 0 ∧ a < 3 ∧ t (384 + 13 * a) = d then (1, (z, t, y)) else (0, (z, t, y))) := rfl
      rw [e8]
      first | (rw [if_pos (show (10 * b + c = 0 ∧ a < 3 ∧ t (384 + 13 * a) = d) from ⟨by omega, b01 h_298, h_312⟩)]; exact ⟨rfl, rfl⟩) | (rw [if_neg (show ¬ (10 * b + c = 0 ∧ a < 3 ∧ t (384 + 13 * a) = d) from fun q9 => h_312 q9.2.2)]; exact ⟨rfl, rfl⟩) | (rw [if_neg (show ¬ (10 * b + c = 0 ∧ a < 3 ∧ t (384 + 13 * a) = d) from fun q9 => b00 h_298 q9.2.1)]; exact ⟨rfl, rfl⟩) | (rw [if_neg (show ¬ (10 * b + c = 0 ∧ a < 3 ∧ t (384 + 13 * a) = d) from fun q9 => by omega)]; exact ⟨rfl, rfl⟩)
    · refine V_iload_n (i := 2) dX7_command_294 rfl rfl ?_
      refine V_callS (As := _) (rest := []) [] (c_X7_isChannel l G (a) (by omega)) vy_X7_isChannel gX7_command_X7_isChannel rfl rfl rfl rfl ⟨rfl, rfl⟩ ⟨rfl, rfl⟩ ⟨Nat.zero_le _, Nat.zero_le _⟩ rfl dX7_command_295 (fun v Y hE => ?_)
      obtain ⟨rfl, rfl⟩ := hE
      refine ⟨rfl, ?_⟩
      dsimp only [vfill, List.set_cons_zero, List.set_cons_succ, Option.toList, List.cons_append, List.nil_append, Nat.add_zero]
      refine V_if_eq (tgt := 319) (by split <;> decide) dX7_command_298 rfl (fun h_298 => ?_) (fun h_298 => ?_)
      · refine V_iconst (v := 0) dX7_command_319 rfl ?_
        refine V_zret hR dX7_command_320 (by first | exact Or.inl rfl | exact Or.inr rfl | omega) hkc hks ?_
        subst e0
        have e8 : cmR 7 a b c d (z, t, y) = (if 10 * b + c = 0 ∧ a < 3 ∧ t (384 + 13 * a) = d then (1, (z, t, y)) else (0, (z, t, y))) := rfl
        rw [e8]
        first | (rw [if_pos (show (10 * b + c = 0 ∧ a < 3 ∧ t (384 + 13 * a) = d) from ⟨by omega, b01 h_298, h_312⟩)]; exact ⟨rfl, rfl⟩) | (rw [if_neg (show ¬ (10 * b + c = 0 ∧ a < 3 ∧ t (384 + 13 * a) = d) from fun q9 => h_312 q9.2.2)]; exact ⟨rfl, rfl⟩) | (rw [if_neg (show ¬ (10 * b + c = 0 ∧ a < 3 ∧ t (384 + 13 * a) = d) from fun q9 => b00 h_298 q9.2.1)]; exact ⟨rfl, rfl⟩) | (rw [if_neg (show ¬ (10 * b + c = 0 ∧ a < 3 ∧ t (384 + 13 * a) = d) from fun q9 => by omega)]; exact ⟨rfl, rfl⟩)
      · have hx9 := b01 h_298
        refine V_aload_n (i := 0) dX7_command_301 rfl rfl ?_
        refine V_get (C := RX7) (T := TX7) (N := 17) (ci := 6) (q := 0) (ref := "OrderChainsModel") 6 rfl il_X7_command_X7 rfl rfl fl_X7_command_19 rfl rfl dX7_command_302 ?_
        refine V_iload_n (i := 2) dX7_command_305 rfl rfl ?_
        refine V_callS (As := _) (rest := _) [] (c_X7_at l G (a)) vy_X7_at gX7_command_X7_at rfl rfl rfl rfl ⟨rfl, rfl⟩ ⟨rfl, rfl⟩ ⟨Nat.zero_le _, Nat.zero_le _⟩ rfl dX7_command_306 (fun v Y hE => ?_)
        obtain ⟨rfl, rfl⟩ := hE
        refine ⟨rfl, ?_⟩
        dsimp only [vfill, List.set_cons_zero, List.set_cons_succ, Option.toList, List.cons_append, List.nil_append, Nat.add_zero]
        refine V_iald (q := 2) rfl (by omega) rfl dX7_command_309 ?_
        refine V_iload (i := 5) dX7_command_310 rfl ?_
        refine V_icmp_ne (tgt := 319) (by have := (hg.2.2.2.2 a (b01 h_298)).1; omega) (by omega) dX7_command_312 rfl (fun h_312 => ?_) (fun h_312 => ?_)
        · refine V_iconst (v := 0) dX7_command_319 rfl ?_
          refine V_zret hR dX7_command_320 (by first | exact Or.inl rfl | exact Or.inr rfl | omega) hkc hks ?_
          subst e0
          have e8 : cmR 7 a b c d (z, t, y) = (if 10 * b + c = 0 ∧ a < 3 ∧ t (384 + 13 * a) = d then (1, (z, t, y)) else (0, (z, t, y))) := rfl
          rw [e8]
          first | (rw [if_pos (show (10 * b + c = 0 ∧ a < 3 ∧ t (384 + 13 * a) = d) from ⟨by omega, b01 h_298, h_312⟩)]; exact ⟨rfl, rfl⟩) | (rw [if_neg (show ¬ (10 * b + c = 0 ∧ a < 3 ∧ t (384 + 13 * a) = d) from fun q9 => h_312 q9.2.2)]; exact ⟨rfl, rfl⟩) | (rw [if_neg (show ¬ (10 * b + c = 0 ∧ a < 3 ∧ t (384 + 13 * a) = d) from fun q9 => b00 h_298 q9.2.1)]; exact ⟨rfl, rfl⟩) | (rw [if_neg (show ¬ (10 * b + c = 0 ∧ a < 3 ∧ t (384 + 13 * a) = d) from fun q9 => by omega)]; exact ⟨rfl, rfl⟩)
        · refine V_iconst (v := 1) dX7_command_315 rfl ?_
          refine V_goto (tgt := 320) dX7_command_316 rfl ?_
          refine V_zret hR dX7_command_320 (by first | exact Or.inl rfl | exact Or.inr rfl | omega) hkc hks ?_
          subst e0
          have e8 : cmR 7 a b c d (z, t, y) = (if 10 * b + c = 0 ∧ a < 3 ∧ t (384 + 13 * a) = d then (1, (z, t, y)) else (0, (z, t, y))) := rfl
          rw [e8]
          first | (rw [if_pos (show (10 * b + c = 0 ∧ a < 3 ∧ t (384 + 13 * a) = d) from ⟨by omega, b01 h_298, h_312⟩)]; exact ⟨rfl, rfl⟩) | (rw [if_neg (show ¬ (10 * b + c = 0 ∧ a < 3 ∧ t (384 + 13 * a) = d) from fun q9 => h_312 q9.2.2)]; exact ⟨rfl, rfl⟩) | (rw [if_neg (show ¬ (10 * b + c = 0 ∧ a < 3 ∧ t (384 + 13 * a) = d) from fun q9 => b00 h_298 q9.2.1)]; exact ⟨rfl, rfl⟩) | (rw [if_neg (show ¬ (10 * b + c = 0 ∧ a < 3 ∧ t (384 + 13 * a) = d) from fun q9 => by omega)]; exact ⟨rfl, rfl⟩)
  · refine V_top (b := 8) e0 ?_
    refine V_tableIn (tgt := 321) dX7_command_28 (by omega) (by omega) (by omega) rfl rfl ?_
    refine V_iload_n (i := 3) dX7_command_321 rfl rfl ?_
    refine V_if_ne (tgt := 353) (by omega) dX7_command_322 rfl (fun h_322 => ?_) (fun h_322 => ?_)
    · refine V_iconst (v := 0) dX7_command_353 rfl ?_
      refine V_zret hR dX7_command_354 (by first | exact Or.inl rfl | exact Or.inr rfl | omega) hkc hks ?_
      subst e0
      have e8 : cmR 8 a b c d (z, t, y) = (if b = 0 ∧ a < 3 ∧ ¬ nI (t (384 + 13 * a + 12)) < nI (10 * c + d) then (1, (z, t, y)) else (0, (z, t, y))) := rfl
      rw [e8]
      first | (rw [if_pos (show (b = 0 ∧ a < 3 ∧ ¬ nI (t (384 + 13 * a + 12)) < nI (10 * c + d)) from ⟨by omega, b01 h_329, h_346⟩)]; exact ⟨rfl, rfl⟩) | (rw [if_neg (show ¬ (b = 0 ∧ a < 3 ∧ ¬ nI (t (384 + 13 * a + 12)) < nI (10 * c + d)) from fun q9 => q9.2.2 h_346)]; exact ⟨rfl, rfl⟩) | (rw [if_neg (show ¬ (b = 0 ∧ a < 3 ∧ ¬ nI (t (384 + 13 * a + 12)) < nI (10 * c + d)) from fun q9 => b00 h_329 q9.2.1)]; exact ⟨rfl, rfl⟩) | (rw [if_neg (show ¬ (b = 0 ∧ a < 3 ∧ ¬ nI (t (384 + 13 * a + 12)) < nI (10 * c + d)) from fun q9 => by omega)]; exact ⟨rfl, rfl⟩)
    · refine V_iload_n (i := 2) dX7_command_325 rfl rfl ?_
      refine V_callS (As := _) (rest := []) [] (c_X7_isChannel l G (a) (by omega)) vy_X7_isChannel gX7_command_X7_isChannel rfl rfl rfl rfl ⟨rfl, rfl⟩ ⟨rfl, rfl⟩ ⟨Nat.zero_le _, Nat.zero_le _⟩ rfl dX7_command_326 (fun v Y hE => ?_)
      obtain ⟨rfl, rfl⟩ := hE
      refine ⟨rfl, ?_⟩
      dsimp only [vfill, List.set_cons_zero, List.set_cons_succ, Option.toList, List.cons_append, List.nil_append, Nat.add_zero]
      refine V_if_eq (tgt := 353) (by split <;> decide) dX7_command_329 rfl (fun h_329 => ?_) (fun h_329 => ?_)
      · refine V_iconst (v := 0) dX7_command_353 rfl ?_
        refine V_zret hR dX7_command_354 (by first | exact Or.inl rfl | exact Or.inr rfl | omega) hkc hks ?_
        subst e0
        have e8 : cmR 8 a b c d (z, t, y) = (if b = 0 ∧ a < 3 ∧ ¬ nI (t (384 + 13 * a + 12)) < nI (10 * c + d) then (1, (z, t, y)) else (0, (z, t, y))) := rfl
        rw [e8]
        first | (rw [if_pos (show (b = 0 ∧ a < 3 ∧ ¬ nI (t (384 + 13 * a + 12)) < nI (10 * c + d)) from ⟨by omega, b01 h_329, h_346⟩)]; exact ⟨rfl, rfl⟩) | (rw [if_neg (show ¬ (b = 0 ∧ a < 3 ∧ ¬ nI (t (384 + 13 * a + 12)) < nI (10 * c + d)) from fun q9 => q9.2.2 h_346)]; exact ⟨rfl, rfl⟩) | (rw [if_neg (show ¬ (b = 0 ∧ a < 3 ∧ ¬ nI (t (384 + 13 * a + 12)) < nI (10 * c + d)) from fun q9 => b00 h_329 q9.2.1)]; exact ⟨rfl, rfl⟩) | (rw [if_neg (show ¬ (b = 0 ∧ a < 3 ∧ ¬ nI (t (384 + 13 * a + 12)) < nI (10 * c + d)) from fun q9 => by omega)]; exact ⟨rfl, rfl⟩)
      · have hx9 := b01 h_329
        refine V_aload_n (i := 0) dX7_command_332 rfl rfl ?_
        refine V_get (C := RX7) (T := TX7) (N := 17) (ci := 6) (q := 0) (ref := "OrderChainsModel") 6 rfl il_X7_command_X7 rfl rfl fl_X7_command_19 rfl rfl dX7_command_333 ?_
        refine V_iload_n (i := 2) dX7_command_336 rfl rfl ?_
        refine V_callS (As := _) (rest := _) [] (c_X7_at l G (a)) vy_X7_at gX7_command_X7_at rfl rfl rfl rfl ⟨rfl, rfl⟩ ⟨rfl, rfl⟩ ⟨Nat.zero_le _, Nat.zero_le _⟩ rfl dX7_command_337 (fun v Y hE => ?_)
        obtain ⟨rfl, rfl⟩ := hE
        refine ⟨rfl, ?_⟩
        dsimp only [vfill, List.set_cons_zero, List.set_cons_succ, Option.toList, List.cons_append, List.nil_append, Nat.add_zero]
        refine V_bipush (v := 12) dX7_command_340 (by decide) ?_
        refine V_iadd dX7_command_342 ?_
        refine V_iald (q := 2) rfl (by omega) rfl dX7_command_343 ?_
        refine V_iload (i := 7) dX7_command_344 rfl ?_
        refine V_icmp_ltG (tgt := 353) dX7_command_346 rfl (fun h_346 => ?_) (fun h_346 => ?_)
        · refine V_iconst (v := 0) dX7_command_353 rfl ?_
          refine V_zret hR dX7_command_354 (by first | exact Or.inl rfl | exact Or.inr rfl | omega) hkc hks ?_
          subst e0
          have e8 : cmR 8 a b c d (z, t, y) = (if b = 0 ∧ a < 3 ∧ ¬ nI (t (384 + 13 * a + 12)) < nI (10 * c + d) then (1, (z, t, y)) else (0, (z, t, y))) := rfl
          rw [e8]
          first | (rw [if_pos (show (b = 0 ∧ a < 3 ∧ ¬ nI (t (384 + 13 * a + 12)) < nI (10 * c + d)) from ⟨by omega, b01 h_329, h_346⟩)]; exact ⟨rfl, rfl⟩) | (rw [if_neg (show ¬ (b = 0 ∧ a < 3 ∧ ¬ nI (t (384 + 13 * a + 12)) < nI (10 * c + d)) from fun q9 => q9.2.2 h_346)]; exact ⟨rfl, rfl⟩) | (rw [if_neg (show ¬ (b = 0 ∧ a < 3 ∧ ¬ nI (t (384 + 13 * a + 12)) < nI (10 * c + d)) from fun q9 => b00 h_329 q9.2.1)]; exact ⟨rfl, rfl⟩) | (rw [if_neg (show ¬ (b = 0 ∧ a < 3 ∧ ¬ nI (t (384 + 13 * a + 12)) < nI (10 * c + d)) from fun q9 => by omega)]; exact ⟨rfl, rfl⟩)
        · refine V_iconst (v := 1) dX7_command_349 rfl ?_
          refine V_goto (tgt := 354) dX7_command_350 rfl ?_
          refine V_zret hR dX7_command_354 (by first | exact Or.inl rfl | exact Or.inr rfl | omega) hkc hks ?_
          subst e0
          have e8 : cmR 8 a b c d (z, t, y) = (if b = 0 ∧ a < 3 ∧ ¬ nI (t (384 + 13 * a + 12)) < nI (10 * c + d) then (1, (z, t, y)) else (0, (z, t, y))) := rfl
          rw [e8]
          first | (rw [if_pos (show (b = 0 ∧ a < 3 ∧ ¬ nI (t (384 + 13 * a + 12)) < nI (10 * c + d)) from ⟨by omega, b01 h_329, h_346⟩)]; exact ⟨rfl, rfl⟩) | (rw [if_neg (show ¬ (b = 0 ∧ a < 3 ∧ ¬ nI (t (384 + 13 * a + 12)) < nI (10 * c + d)) from fun q9 => q9.2.2 h_346)]; exact ⟨rfl, rfl⟩) | (rw [if_neg (show ¬ (b = 0 ∧ a < 3 ∧ ¬ nI (t (384 + 13 * a + 12)) < nI (10 * c + d)) from fun q9 => b00 h_329 q9.2.1)]; exact ⟨rfl, rfl⟩) | (rw [if_neg (show ¬ (b = 0 ∧ a < 3 ∧ ¬ nI (t (384 + 13 * a + 12)) < nI (10 * c + d)) from fun q9 => by omega)]; exact ⟨rfl, rfl⟩)
  · refine V_top (b := 9) e0 ?_
    refine V_tableIn (tgt := 355) dX7_command_28 (by omega) (by omega) (by omega) rfl rfl ?_
    refine V_iload (i := 6) dX7_command_355 rfl ?_
    refine V_if_ne (tgt := 377) (by omega) dX7_command_357 rfl (fun h_357 => ?_) (fun h_357 => ?_)
    · refine V_iconst (v := 0) dX7_command_377 rfl ?_
      refine V_zret hR dX7_command_378 (by first | exact Or.inl rfl | exact Or.inr rfl | omega) hkc hks ?_
      subst e0
      have e8 : cmR 9 a b c d (z, t, y) = (if 10 * a + b = 0 ∧ ¬ nI (10 * c + d) < nI (t 424) then (1, (z, t, y)) else (0, (z, t, y))) := rfl
      rw [e8]
      first | (rw [if_pos (show (10 * a + b = 0 ∧ ¬ nI (10 * c + d) < nI (t 424)) from ⟨by omega, h_370⟩)]; exact ⟨rfl, rfl⟩) | (rw [if_neg (show ¬ (10 * a + b = 0 ∧ ¬ nI (10 * c + d) < nI (t 424)) from fun q9 => q9.2 h_370)]; exact ⟨rfl, rfl⟩) | (rw [if_neg (show ¬ (10 * a + b = 0 ∧ ¬ nI (10 * c + d) < nI (t 424)) from fun q9 => by omega)]; exact ⟨rfl, rfl⟩)
    · refine V_aload_n (i := 0) dX7_command_360 rfl rfl ?_
      refine V_get (C := RX7) (T := TX7) (N := 17) (ci := 6) (q := 0) (ref := "OrderChainsModel") 6 rfl il_X7_command_X7 rfl rfl fl_X7_command_19 rfl rfl dX7_command_361 ?_
      refine V_sipush (v := 424) dX7_command_364 (by decide) ?_
      refine V_iald (q := 2) rfl (by omega) rfl dX7_command_367 ?_
      refine V_iload (i := 7) dX7_command_368 rfl ?_
      refine V_icmp_gtG (tgt := 377) dX7_command_370 rfl (fun h_370 => ?_) (fun h_370 => ?_)
      · refine V_iconst (v := 0) dX7_command_377 rfl ?_
        refine V_zret hR dX7_command_378 (by first | exact Or.inl rfl | exact Or.inr rfl | omega) hkc hks ?_
        subst e0
        have e8 : cmR 9 a b c d (z, t, y) = (if 10 * a + b = 0 ∧ ¬ nI (10 * c + d) < nI (t 424) then (1, (z, t, y)) else (0, (z, t, y))) := rfl
        rw [e8]
        first | (rw [if_pos (show (10 * a + b = 0 ∧ ¬ nI (10 * c + d) < nI (t 424)) from ⟨by omega, h_370⟩)]; exact ⟨rfl, rfl⟩) | (rw [if_neg (show ¬ (10 * a + b = 0 ∧ ¬ nI (10 * c + d) < nI (t 424)) from fun q9 => q9.2 h_370)]; exact ⟨rfl, rfl⟩) | (rw [if_neg (show ¬ (10 * a + b = 0 ∧ ¬ nI (10 * c + d) < nI (t 424)) from fun q9 => by omega)]; exact ⟨rfl, rfl⟩)
      · refine V_iconst (v := 1) dX7_command_373 rfl ?_
        refine V_goto (tgt := 378) dX7_command_374 rfl ?_
        refine V_zret hR dX7_command_378 (by first | exact Or.inl rfl | exact Or.inr rfl | omega) hkc hks ?_
        subst e0
        have e8 : cmR 9 a b c d (z, t, y) = (if 10 * a + b = 0 ∧ ¬ nI (10 * c + d) < nI (t 424) then (1, (z, t, y)) else (0, (z, t, y))) := rfl
        rw [e8]
        first | (rw [if_pos (show (10 * a + b = 0 ∧ ¬ nI (10 * c + d) < nI (t 424)) from ⟨by omega, h_370⟩)]; exact ⟨rfl, rfl⟩) | (rw [if_neg (show ¬ (10 * a + b = 0 ∧ ¬ nI (10 * c + d) < nI (t 424)) from fun q9 => q9.2 h_370)]; exact ⟨rfl, rfl⟩) | (rw [if_neg (show ¬ (10 * a + b = 0 ∧ ¬ nI (10 * c + d) < nI (t 424)) from fun q9 => by omega)]; exact ⟨rfl, rfl⟩)
  · refine V_top (b := 0) e0 ?_
    refine V_tableOut (tgt := 379) dX7_command_28 (Or.inl (by decide)) rfl ?_
    refine V_iconst (v := 0) dX7_command_379 rfl ?_
    refine V_zret hR dX7_command_380 (by first | exact Or.inl rfl | exact Or.inr rfl | omega) hkc hks ?_
    subst e0
    exact ⟨rfl, rfl⟩

end REF11
