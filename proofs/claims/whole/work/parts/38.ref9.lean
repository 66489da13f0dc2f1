section REF9
def rAbout (g : Nat → Nat) (w : Nat) : Nat := if w = 0 then g 423 else if w = 1 then rCs 1 g else if w = 2 then rCs 2 g else if w = 3 then rCs 3 g else if w = 4 then rT g else if w = 5 then vsum (fun k => g (0 + k)) 96 else if w = 6 then g 424 else if w = 7 then g 425 else if w = 8 then vsum (fun k => g (192 + k)) 96 else vsum (fun k => if g (96 + k) = 0 then 0 else 1) 96

abbrev rX7_channel : Room := { frames := 2, cells := 0, slots := 0, locals := 45 }
theorem vy_X7_channel : vY yX7_channel wsX7_channel cX7_channel 5 (some .int) 2 := ⟨⟨_, rfl⟩, by decide +kernel, by decide +kernel, by decide +kernel⟩
theorem kc_X7_channel_156 : Cond.constantLong RX7 156 (7) ∈ wsX7_channel := List.mem_of_getElem? (i := 1) rfl
theorem fl_X7_channel_16 : Cond.fieldLink RX7 16 "OrderChainsModel" "now" "[I" ∈ wsX7_channel := List.mem_of_getElem? (i := 2) rfl
theorem il_X7_channel_X7 : ∀ w ∈ wsX70, w ∈ wsX7_channel := fun _ h => List.mem_cons_of_mem _ (List.mem_append_right _ h)
set_option maxHeartbeats 4000000 in
set_option maxRecDepth 100000 in
/-- channel -/
theorem c_X7_channel (l : Launch) (G : vG) (B z g : Nat → Nat) (h w : Nat) (hp : h < 4294967296) (hw : w < 4294967296) (hg : gB g) : Kc l G yX7_channel wsX7_channel rX7_channel [.ref (B 0), .int (nI h), .int (nI w)] [mO B z, iA G (B 3) 427 g] (fun v Y => (¬ h < 3 ∧ v = some (.int (nI 0)) ∧ Y = [mO B (va_up z 0 1), iA G (B 3) 427 g]) ∨ (h < 3 ∧ ¬ w < 8 ∧ v = some (.int (nI 0)) ∧ Y = [mO B (va_up z 0 2), iA G (B 3) 427 g]) ∨ (h < 3 ∧ w < 8 ∧ v = some (.int (nI (rChan g h w))) ∧ Y = [mO B (va_up z 0 0), iA G (B 3) 427 g])) 0 0 := by
  refine V_enter (own := RX7) [some (.ref (B 0)), some (.int (nI h)), some (.int (nI w)), none, none] (by decide +kernel) rfl rfl (Nat.le_of_ble_eq_true rfl) rfl (fun Γ hR hin => ?_)
  have hkc : 0 ≤ 0 := Nat.le_refl 0
  have hks : 0 ≤ 0 := Nat.le_refl 0
  refine V_aload_n (i := 0) dX7_channel_0 rfl rfl ?_
  refine V_iload_n (i := 1) dX7_channel_1 rfl rfl ?_
  refine V_callS (As := _) (rest := _) [] (c_X7_isChannel l G (h) hp) vy_X7_isChannel gX7_channel_X7_isChannel rfl rfl rfl rfl ⟨rfl, rfl⟩ ⟨rfl, rfl⟩ ⟨Nat.zero_le _, Nat.zero_le _⟩ rfl dX7_channel_2 (fun v Y hE => ?_)
  obtain ⟨rfl, rfl⟩ := hE
  refine ⟨rfl, ?_⟩
  dsimp only [vfill, List.set_cons_zero, List.set_cons_succ, Option.toList, List.cons_append, List.nil_append, Nat.add_zero]
  refine V_if_ne (tgt := 12) (by split <;> decide) dX7_channel_5 rfl (fun h_5 => ?_) (fun h_5 => ?_)
  · have hy := b01 h_5
    refine V_iload_n (i := 2) dX7_channel_12 rfl rfl ?_
    refine V_i2l dX7_channel_13 ?_
    refine V_lconst dX7_channel_14 rfl ?_
    refine V_ldc2 (v := 7) dX7_channel_15 kc_X7_channel_156 ?_
    refine V_callS (As := _) (rest := _) [] (c_X7_inN l G (w) 0 7 _ _ (by decide) (by decide) hw (by decide)) vy_X7_in gX7_channel_X7_in rfl rfl rfl rfl ⟨rfl, rfl⟩ ⟨rfl, rfl⟩ ⟨Nat.zero_le _, Nat.zero_le _⟩ rfl dX7_channel_18 (fun v Y hE => ?_)
    obtain ⟨rfl, rfl⟩ := hE
    refine ⟨rfl, ?_⟩
    dsimp only [vfill, List.set_cons_zero, List.set_cons_succ, Option.toList, List.cons_append, List.nil_append, Nat.add_zero]
    refine V_if_eq (tgt := 28) (by split <;> decide) dX7_channel_21 rfl (fun h_21 => ?_) (fun h_21 => ?_)
    · refine V_iconst (v := 2) dX7_channel_28 rfl ?_
      refine V_callV (C := RX7) (q := 0) (ci := 6) (As := _) (rest := []) [0] (c_X7_refused l G B z 2 (by decide)) vy_X7_refused gX7_channel_X7_refused rfl rfl rfl rfl rfl rfl rfl ⟨rfl, rfl⟩ ⟨rfl, rfl⟩ ⟨Nat.zero_le _, Nat.zero_le _⟩ rfl dX7_channel_29 (fun v Y hE => ?_)
      obtain ⟨rfl, rfl⟩ := hE
      refine ⟨rfl, ?_⟩
      dsimp only [vfill, List.set_cons_zero, List.set_cons_succ, Option.toList, List.cons_append, List.nil_append, Nat.add_zero]
      refine V_top (b := 1) (by decide) ?_
      refine V_if_eq (tgt := 37) (by omega) dX7_channel_32 rfl (fun h_32 => ?_) (fun h_32 => ?_)
      · exfalso; omega
      · refine V_iconst (v := 0) dX7_channel_35 rfl ?_
        refine V_iret hR dX7_channel_36 hkc hks ?_
        first | exact Or.inl ⟨b00 h_5, rfl, rfl⟩ | exact Or.inr (Or.inl ⟨hy, fun y9 => b00 h_21 (by omega), rfl, rfl⟩)
    · have hx := b01 h_21
      obtain ⟨c0, c1, c3, c4, c5, c6, c7, c8, c9, c10, cu⟩ := id (hg.2.2.2.2 h hy)
      refine V_iconst (v := 0) dX7_channel_24 rfl ?_
      refine V_goto (tgt := 29) dX7_channel_25 rfl ?_
      refine V_callV (C := RX7) (q := 0) (ci := 6) (As := _) (rest := []) [0] (c_X7_refused l G B z 0 (by decide)) vy_X7_refused gX7_channel_X7_refused rfl rfl rfl rfl rfl rfl rfl ⟨rfl, rfl⟩ ⟨rfl, rfl⟩ ⟨Nat.zero_le _, Nat.zero_le _⟩ rfl dX7_channel_29 (fun v Y hE => ?_)
      obtain ⟨rfl, rfl⟩ := hE
      refine ⟨rfl, ?_⟩
      dsimp only [vfill, List.set_cons_zero, List.set_cons_succ, Option.toList, List.cons_append, List.nil_append, Nat.add_zero]
      refine V_top (b := 0) (by decide) ?_
      refine V_if_eq (tgt := 37) (by omega) dX7_channel_32 rfl (fun h_32 => ?_) (fun h_32 => ?_)
      · refine V_iload_n (i := 1) dX7_channel_37 rfl rfl ?_
        refine V_callS (As := _) (rest := []) [] (c_X7_at l G (h)) vy_X7_at gX7_channel_X7_at rfl rfl rfl rfl ⟨rfl, rfl⟩ ⟨rfl, rfl⟩ ⟨Nat.zero_le _, Nat.zero_le _⟩ rfl dX7_channel_38 (fun v Y hE => ?_)
        obtain ⟨rfl, rfl⟩ := hE
        refine ⟨rfl, ?_⟩
        dsimp only [vfill, List.set_cons_zero, List.set_cons_succ, Option.toList, List.cons_append, List.nil_append, Nat.add_zero]
        refine V_istore_n (i := 3) dX7_channel_41 rfl rfl rfl ?_
        dsimp only [List.set_cons_zero, List.set_cons_succ]
        refine V_aload_n (i := 0) dX7_channel_42 rfl rfl ?_
        refine V_get (C := RX7) (T := TX7) (N := 17) (ci := 6) (q := 0) (ref := "OrderChainsModel") 5 rfl il_X7_channel_X7 rfl rfl fl_X7_channel_16 rfl rfl dX7_channel_43 ?_
        refine V_iload_n (i := 3) dX7_channel_46 rfl rfl ?_
        refine V_iconst (v := 4) dX7_channel_47 rfl ?_
        refine V_iadd dX7_channel_48 ?_
        refine V_iald (q := 1) rfl (by omega) rfl dX7_channel_49 ?_
        refine V_if_le (tgt := 57) (by omega) dX7_channel_50 rfl (fun h_50 => ?_) (fun h_50 => ?_)
        · refine V_iconst (v := 0) dX7_channel_57 rfl ?_
          refine V_istore (i := 4) dX7_channel_58 rfl rfl ?_
          dsimp only [List.set_cons_zero, List.set_cons_succ]
          refine V_iload_n (i := 2) dX7_channel_60 rfl rfl ?_
          rcases (show w = 0 ∨ w = 1 ∨ w = 2 ∨ w = 3 ∨ w = 4 ∨ w = 5 ∨ w = 6 ∨ w = 7 by omega) with e0 | e0 | e0 | e0 | e0 | e0 | e0 | e0
          · refine V_top (b := 0) e0 ?_
            refine V_tableIn (tgt := 104) dX7_channel_61 (by omega) (by omega) (by omega) rfl rfl ?_
            refine V_aload_n (i := 0) dX7_channel_104 rfl rfl ?_
            refine V_get (C := RX7) (T := TX7) (N := 17) (ci := 6) (q := 0) (ref := "OrderChainsModel") 5 rfl il_X7_channel_X7 rfl rfl fl_X7_channel_16 rfl rfl dX7_channel_105 ?_
            refine V_iload_n (i := 3) dX7_channel_108 rfl rfl ?_
            refine V_iald (q := 1) rfl (by omega) rfl dX7_channel_109 ?_
            refine V_iret hR dX7_channel_110 hkc hks ?_
            subst e0
            refine Or.inr (Or.inr ⟨hy, by decide, ?_, rfl⟩)
            first | rfl | exact congrArg (fun x => some (Value.int (nI x))) (if_pos h_127).symm | exact congrArg (fun x => some (Value.int (nI x))) (if_neg h_127).symm | exact congrArg (fun x => some (Value.int (nI x))) (if_pos (show 0 < g (384 + 13 * h + 4) by omega)).symm | exact congrArg (fun x => some (Value.int (nI x))) (if_neg (show ¬ 0 < g (384 + 13 * h + 4) by omega)).symm
          · refine V_top (b := 1) e0 ?_
            refine V_tableIn (tgt := 111) dX7_channel_61 (by omega) (by omega) (by omega) rfl rfl ?_
            refine V_aload_n (i := 0) dX7_channel_111 rfl rfl ?_
            refine V_get (C := RX7) (T := TX7) (N := 17) (ci := 6) (q := 0) (ref := "OrderChainsModel") 5 rfl il_X7_channel_X7 rfl rfl fl_X7_channel_16 rfl rfl dX7_channel_112 ?_
            refine V_iload_n (i := 3) dX7_channel_115 rfl rfl ?_
            refine V_iconst (v := 1) dX7_channel_116 rfl ?_
            refine V_iadd dX7_channel_117 ?_
            refine V_iald (q := 1) rfl (by omega) rfl dX7_channel_118 ?_
            refine V_iret hR dX7_channel_119 hkc hks ?_
            subst e0
            refine Or.inr (Or.inr ⟨hy, by decide, ?_, rfl⟩)
            first | rfl | exact congrArg (fun x => some (Value.int (nI x))) (if_pos h_127).symm | exact congrArg (fun x => some (Value.int (nI x))) (if_neg h_127).symm | exact congrArg (fun x => some (Value.int (nI x))) (if_pos (show 0 < g (384 + 13 * h + 4) by omega)).symm | exact congrArg (fun x => some (Value.int (nI x))) (if_neg (show ¬ 0 < g (384 + 13 * h + 4) by omega)).symm
          · refine V_top (b := 2) e0 ?_
            refine V_tableIn (tgt := 120) dX7_channel_61 (by omega) (by omega) (by omega) rfl rfl ?_
            refine V_aload_n (i := 0) dX7_channel_120 rfl rfl ?_
            refine V_get (C := RX7) (T := TX7) (N := 17) (ci := 6) (q := 0) (ref := "OrderChainsModel") 5 rfl il_X7_channel_X7 rfl rfl fl_X7_channel_16 rfl rfl dX7_channel_121 ?_
            refine V_iload_n (i := 3) dX7_channel_124 rfl rfl ?_
            refine V_iald (q := 1) rfl (by omega) rfl dX7_channel_125 ?_
            refine V_iconst (v := 3) dX7_channel_126 rfl ?_
            refine V_icmp_ne (tgt := 141) (by omega) (by omega) dX7_channel_127 rfl (fun h_127 => ?_) (fun h_127 => ?_)
            · refine V_bipush (v := 4294967287) dX7_channel_141 (by decide) ?_
              refine V_iret hR dX7_channel_143 hkc hks ?_
              subst e0
              refine Or.inr (Or.inr ⟨hy, by decide, ?_, rfl⟩)
              first | rfl | exact congrArg (fun x => some (Value.int (nI x))) (if_pos h_127).symm | exact congrArg (fun x => some (Value.int (nI x))) (if_neg h_127).symm | exact congrArg (fun x => some (Value.int (nI x))) (if_pos (show 0 < g (384 + 13 * h + 4) by omega)).symm | exact congrArg (fun x => some (Value.int (nI x))) (if_neg (show ¬ 0 < g (384 + 13 * h + 4) by omega)).symm
            · refine V_aload_n (i := 0) dX7_channel_130 rfl rfl ?_
              refine V_get (C := RX7) (T := TX7) (N := 17) (ci := 6) (q := 0) (ref := "OrderChainsModel") 5 rfl il_X7_channel_X7 rfl rfl fl_X7_channel_16 rfl rfl dX7_channel_131 ?_
              refine V_iload_n (i := 3) dX7_channel_134 rfl rfl ?_
              refine V_iconst (v := 2) dX7_channel_135 rfl ?_
              refine V_iadd dX7_channel_136 ?_
              refine V_iald (q := 1) rfl (by omega) rfl dX7_channel_137 ?_
              refine V_goto (tgt := 143) dX7_channel_138 rfl ?_
              refine V_iret hR dX7_channel_143 hkc hks ?_
              subst e0
              refine Or.inr (Or.inr ⟨hy, by decide, ?_, rfl⟩)
              first | rfl | exact congrArg (fun x => some (Value.int (nI x))) (if_pos h_127).symm | exact congrArg (fun x => some (Value.int (nI x))) (if_neg h_127).symm | exact congrArg (fun x => some (Value.int (nI x))) (if_pos (show 0 < g (384 + 13 * h + 4) by omega)).symm | exact congrArg (fun x => some (Value.int (nI x))) (if_neg (show ¬ 0 < g (384 + 13 * h + 4) by omega)).symm
          · refine V_top (b := 3) e0 ?_
            refine V_tableIn (tgt := 144) dX7_channel_61 (by omega) (by omega) (by omega) rfl rfl ?_
            refine V_iload (i := 4) dX7_channel_144 rfl ?_
            refine V_if_eq (tgt := 160) (by omega) dX7_channel_146 rfl (fun h_146 => ?_) (fun h_146 => ?_)
            · refine V_bipush (v := 4294967287) dX7_channel_160 (by decide) ?_
              refine V_iret hR dX7_channel_162 hkc hks ?_
              subst e0
              refine Or.inr (Or.inr ⟨hy, by decide, ?_, rfl⟩)
              first | rfl | exact congrArg (fun x => some (Value.int (nI x))) (if_pos h_127).symm | exact congrArg (fun x => some (Value.int (nI x))) (if_neg h_127).symm | exact congrArg (fun x => some (Value.int (nI x))) (if_pos (show 0 < g (384 + 13 * h + 4) by omega)).symm | exact congrArg (fun x => some (Value.int (nI x))) (if_neg (show ¬ 0 < g (384 + 13 * h + 4) by omega)).symm
            · exfalso; omega
          · refine V_top (b := 4) e0 ?_
            refine V_tableIn (tgt := 163) dX7_channel_61 (by omega) (by omega) (by omega) rfl rfl ?_
            refine V_iload (i := 4) dX7_channel_163 rfl ?_
            refine V_if_eq (tgt := 179) (by omega) dX7_channel_165 rfl (fun h_165 => ?_) (fun h_165 => ?_)
            · refine V_bipush (v := 4294967287) dX7_channel_179 (by decide) ?_
              refine V_iret hR dX7_channel_181 hkc hks ?_
              subst e0
              refine Or.inr (Or.inr ⟨hy, by decide, ?_, rfl⟩)
              first | rfl | exact congrArg (fun x => some (Value.int (nI x))) (if_pos h_127).symm | exact congrArg (fun x => some (Value.int (nI x))) (if_neg h_127).symm | exact congrArg (fun x => some (Value.int (nI x))) (if_pos (show 0 < g (384 + 13 * h + 4) by omega)).symm | exact congrArg (fun x => some (Value.int (nI x))) (if_neg (show ¬ 0 < g (384 + 13 * h + 4) by omega)).symm
            · exfalso; omega
          · refine V_top (b := 5) e0 ?_
            refine V_tableIn (tgt := 182) dX7_channel_61 (by omega) (by omega) (by omega) rfl rfl ?_
            refine V_iload (i := 4) dX7_channel_182 rfl ?_
            refine V_if_eq (tgt := 199) (by omega) dX7_channel_184 rfl (fun h_184 => ?_) (fun h_184 => ?_)
            · refine V_iconst (v := 0) dX7_channel_199 rfl ?_
              refine V_iret hR dX7_channel_200 hkc hks ?_
              subst e0
              refine Or.inr (Or.inr ⟨hy, by decide, ?_, rfl⟩)
              first | rfl | exact congrArg (fun x => some (Value.int (nI x))) (if_pos h_127).symm | exact congrArg (fun x => some (Value.int (nI x))) (if_neg h_127).symm | exact congrArg (fun x => some (Value.int (nI x))) (if_pos (show 0 < g (384 + 13 * h + 4) by omega)).symm | exact congrArg (fun x => some (Value.int (nI x))) (if_neg (show ¬ 0 < g (384 + 13 * h + 4) by omega)).symm
            · exfalso; omega
          · refine V_top (b := 6) e0 ?_
            refine V_tableIn (tgt := 201) dX7_channel_61 (by omega) (by omega) (by omega) rfl rfl ?_
            refine V_aload_n (i := 0) dX7_channel_201 rfl rfl ?_
            refine V_get (C := RX7) (T := TX7) (N := 17) (ci := 6) (q := 0) (ref := "OrderChainsModel") 5 rfl il_X7_channel_X7 rfl rfl fl_X7_channel_16 rfl rfl dX7_channel_202 ?_
            refine V_iload_n (i := 3) dX7_channel_205 rfl rfl ?_
            refine V_bipush (v := 11) dX7_channel_206 (by decide) ?_
            refine V_iadd dX7_channel_208 ?_
            refine V_iald (q := 1) rfl (by omega) rfl dX7_channel_209 ?_
            refine V_iret hR dX7_channel_210 hkc hks ?_
            subst e0
            refine Or.inr (Or.inr ⟨hy, by decide, ?_, rfl⟩)
            first | rfl | exact congrArg (fun x => some (Value.int (nI x))) (if_pos h_127).symm | exact congrArg (fun x => some (Value.int (nI x))) (if_neg h_127).symm | exact congrArg (fun x => some (Value.int (nI x))) (if_pos (show 0 < g (384 + 13 * h + 4) by omega)).symm | exact congrArg (fun x => some (Value.int (nI x))) (if_neg (show ¬ 0 < g (384 + 13 * h + 4) by omega)).symm
          · skip
            refine V_tableOut (tgt := 211) dX7_channel_61 (pk_out (b := 6) hw (by omega) (by decide)) rfl ?_
            refine V_aload_n (i := 0) dX7_channel_211 rfl rfl ?_
            refine V_get (C := RX7) (T := TX7) (N := 17) (ci := 6) (q := 0) (ref := "OrderChainsModel") 5 rfl il_X7_channel_X7 rfl rfl fl_X7_channel_16 rfl rfl dX7_channel_212 ?_
            refine V_iload_n (i := 3) dX7_channel_215 rfl rfl ?_
            refine V_bipush (v := 12) dX7_channel_216 (by decide) ?_
            refine V_iadd dX7_channel_218 ?_
            refine V_iald (q := 1) rfl (by omega) rfl dX7_channel_219 ?_
            refine V_iret hR dX7_channel_220 hkc hks ?_
            subst e0
            refine Or.inr (Or.inr ⟨hy, by decide, ?_, rfl⟩)
            first | rfl | exact congrArg (fun x => some (Value.int (nI x))) (if_pos h_127).symm | exact congrArg (fun x => some (Value.int (nI x))) (if_neg h_127).symm | exact congrArg (fun x => some (Value.int (nI x))) (if_pos (show 0 < g (384 + 13 * h + 4) by omega)).symm | exact congrArg (fun x => some (Value.int (nI x))) (if_neg (show ¬ 0 < g (384 + 13 * h + 4) by omega)).symm
        · refine V_iconst (v := 1) dX7_channel_53 rfl ?_
          refine V_goto (tgt := 58) dX7_channel_54 rfl ?_
          refine V_istore (i := 4) dX7_channel_58 rfl rfl ?_
          dsimp only [List.set_cons_zero, List.set_cons_succ]
          refine V_iload_n (i := 2) dX7_channel_60 rfl rfl ?_
          rcases (show w = 0 ∨ w = 1 ∨ w = 2 ∨ w = 3 ∨ w = 4 ∨ w = 5 ∨ w = 6 ∨ w = 7 by omega) with e0 | e0 | e0 | e0 | e0 | e0 | e0 | e0
          · refine V_top (b := 0) e0 ?_
            refine V_tableIn (tgt := 104) dX7_channel_61 (by omega) (by omega) (by omega) rfl rfl ?_
            refine V_aload_n (i := 0) dX7_channel_104 rfl rfl ?_
            refine V_get (C := RX7) (T := TX7) (N := 17) (ci := 6) (q := 0) (ref := "OrderChainsModel") 5 rfl il_X7_channel_X7 rfl rfl fl_X7_channel_16 rfl rfl dX7_channel_105 ?_
            refine V_iload_n (i := 3) dX7_channel_108 rfl rfl ?_
            refine V_iald (q := 1) rfl (by omega) rfl dX7_channel_109 ?_
            refine V_iret hR dX7_channel_110 hkc hks ?_
            subst e0
            refine Or.inr (Or.inr ⟨hy, by decide, ?_, rfl⟩)
            first | rfl | exact congrArg (fun x => some (Value.int (nI x))) (if_pos h_127).symm | exact congrArg (fun x => some (Value.int (nI x))) (if_neg h_127).symm | exact congrArg (fun x => some (Value.int (nI x))) (if_pos (show 0 < g (384 + 13 * h + 4) by omega)).symm | exact congrArg (fun x => some (Value.int (nI x))) (if_neg (show ¬ 0 < g (384 + 13 * h + 4) by omega)).symm
          · refine V_top (b := 1) e0 ?_
            refine V_tableIn (tgt := 111) dX7_channel_61 (by omega) (by omega) (by omega) rfl rfl ?_
            refine V_aload_n (i := 0) dX7_channel_111 rfl rfl ?_
            refine V_get (C := RX7) (T := TX7) (N := 17) (ci := 6) (q := 0) (ref := "OrderChainsModel") 5 rfl il_X7_channel_X7 rfl rfl fl_X7_channel_16 rfl rfl dX7_channel_112 ?_
            refine V_iload_n (i := 3) dX7_channel_115 rfl rfl ?_
            refine V_iconst (v := 1) dX7_channel_116 rfl ?_
            refine V_iadd dX7_channel_117 ?_
            refine V_iald (q := 1) rfl (by omega) rfl dX7_channel_118 ?_
            refine V_iret hR dX7_channel_119 hkc hks ?_
            subst e0
            refine Or.inr (Or.inr ⟨hy, by decide, ?_, rfl⟩)
            first | rfl | exact congrArg (fun x => some (Value.int (nI x))) (if_pos h_127).symm | exact congrArg (fun x => some (Value.int (nI x))) (if_neg h_127).symm | exact congrArg (fun x => some (Value.int (nI x))) (if_pos (show 0 < g (384 + 13 * h + 4) by omega)).symm | exact congrArg (fun x => some (Value.int (nI x))) (if_neg (show ¬ 0 < g (384 + 13 * h + 4) by omega)).symm
          · refine V_top (b := 2) e0 ?_
            refine V_tableIn (tgt := 120) dX7_channel_61 (by omega) (by omega) (by omega) rfl rfl ?_
            refine V_aload_n (i := 0) dX7_channel_120 rfl rfl ?_
            refine V_get (C := RX7) (T := TX7) (N := 17) (ci := 6) (q := 0) (ref := "OrderChainsModel") 5 rfl il_X7_channel_X7 rfl rfl fl_X7_channel_16 rfl rfl dX7_channel_121 ?_
            refine V_iload_n (i := 3) dX7_channel_124 rfl rfl ?_
            refine V_iald (q := 1) rfl (by omega) rfl dX7_channel_125 ?_
            refine V_iconst (v := 3) dX7_channel_126 rfl ?_
            refine V_icmp_ne (tgt := 141) (by omega) (by omega) dX7_channel_127 rfl (fun h_127 => ?_) (fun h_127 => ?_)
            · refine V_bipush (v := 4294967287) dX7_channel_141 (by decide) ?_
              refine V_iret hR dX7_channel_143 hkc hks ?_
              subst e0
              refine Or.inr (Or.inr ⟨hy, by decide, ?_, rfl⟩)
              first | rfl | exact congrArg (fun x => some (Value.int (nI x))) (if_pos h_127).symm | exact congrArg (fun x => some (Value.int (nI x))) (if_neg h_127).symm | exact congrArg (fun x => some (Value.int (nI x))) (if_pos (show 0 < g (384 + 13 * h + 4) by omega)).symm | exact congrArg (fun x => some (Value.int (nI x))) (if_neg (show ¬ 0 < g (384 + 13 * h + 4) by omega)).symm
            · refine V_aload_n (i := 0) dX7_channel_130 rfl rfl ?_
              refine V_get (C := RX7) (T := TX7) (N := 17) (ci := 6) (q := 0) (ref := "OrderChainsModel") 5 rfl il_X7_channel_X7 rfl rfl fl_X7_channel_16 rfl rfl dX7_channel_131 ?_
              refine V_iload_n (i := 3) dX7_channel_134 rfl rfl ?_
              refine V_iconst (v := 2) dX7_channel_135 rfl ?_
              refine V_iadd dX7_channel_136 ?_
              refine V_iald (q := 1) rfl (by omega) rfl dX7_channel_137 ?_
              refine V_goto (tgt := 143) dX7_channel_138 rfl ?_
              refine V_iret hR dX7_channel_143 hkc hks ?_
              subst e0
              refine Or.inr (Or.inr ⟨hy, by decide, ?_, rfl⟩)
              first | rfl | exact congrArg (fun x => some (Value.int (nI x))) (if_pos h_127).symm | exact congrArg (fun x => some (Value.int (nI x))) (if_neg h_127).symm | exact congrArg (fun x => some (Value.int (nI x))) (if_pos (show 0 < g (384 + 13 * h + 4) by omega)).symm | exact congrArg (fun x => some (Value.int (nI x))) (if_neg (show ¬ 0 < g (384 + 13 * h + 4) by omega)).symm
          · refine V_top (b := 3) e0 ?_
            refine V_tableIn (tgt := 144) dX7_channel_61 (by omega) (by omega) (by omega) rfl rfl ?_
            refine V_iload (i := 4) dX7_channel_144 rfl ?_
            refine V_if_eq (tgt := 160) (by omega) dX7_channel_146 rfl (fun h_146 => ?_) (fun h_146 => ?_)
            · exfalso; omega
            · refine V_aload_n (i := 0) dX7_channel_149 rfl rfl ?_
              refine V_get (C := RX7) (T := TX7) (N := 17) (ci := 6) (q := 0) (ref := "OrderChainsModel") 5 rfl il_X7_channel_X7 rfl rfl fl_X7_channel_16 rfl rfl dX7_channel_150 ?_
              refine V_iload_n (i := 3) dX7_channel_153 rfl rfl ?_
              refine V_iconst (v := 3) dX7_channel_154 rfl ?_
              refine V_iadd dX7_channel_155 ?_
              refine V_iald (q := 1) rfl (by omega) rfl dX7_channel_156 ?_
              refine V_goto (tgt := 162) dX7_channel_157 rfl ?_
              refine V_iret hR dX7_channel_162 hkc hks ?_
              subst e0
              refine Or.inr (Or.inr ⟨hy, by decide, ?_, rfl⟩)
              first | rfl | exact congrArg (fun x => some (Value.int (nI x))) (if_pos h_127).symm | exact congrArg (fun x => some (Value.int (nI x))) (if_neg h_127).symm | exact congrArg (fun x => some (Value.int (nI x))) (if_pos (show 0 < g (384 + 13 * h + 4) by omega)).symm | exact congrArg (fun x => some (Value.int (nI x))) (if_neg (show ¬ 0 < g (384 + 13 * h + 4) by omega)).symm
          · refine V_top (b := 4) e0 ?_
            refine V_tableIn (tgt := 163) dX7_channel_61 (by omega) (by omega) (by omega) rfl rfl ?_
            refine V_iload (i := 4) dX7_channel_163 rfl ?_
            refine V_if_eq (tgt := 179) (by omega) dX7_channel_165 rfl (fun h_165 => ?_) (fun h_165 => ?_)
            · exfalso; omega
            · refine V_aload_n (i := 0) dX7_channel_168 rfl rfl ?_
              refine V_get (C := RX7) (T := TX7) (N := 17) (ci := 6) (q := 0) (ref := "OrderChainsModel") 5 rfl il_X7_channel_X7 rfl rfl fl_X7_channel_16 rfl rfl dX7_channel_169 ?_
              refine V_iload_n (i := 3) dX7_channel_172 rfl rfl ?_
              refine V_iconst (v := 4) dX7_channel_173 rfl ?_
              refine V_iadd dX7_channel_174 ?_
              refine V_iald (q := 1) rfl (by omega) rfl dX7_channel_175 ?_
              refine V_goto (tgt := 181) dX7_channel_176 rfl ?_
              refine V_iret hR dX7_channel_181 hkc hks ?_
              subst e0
              refine Or.inr (Or.inr ⟨hy, by decide, ?_, rfl⟩)
              first | rfl | exact congrArg (fun x => some (Value.int (nI x))) (if_pos h_127).symm | exact congrArg (fun x => some (Value.int (nI x))) (if_neg h_127).symm | exact congrArg (fun x => some (Value.int (nI x))) (if_pos (show 0 < g (384 + 13 * h + 4) by omega)).symm | exact congrArg (fun x => some (Value.int (nI x))) (if_neg (show ¬ 0 < g (384 + 13 * h + 4) by omega)).symm
          · refine V_top (b := 5) e0 ?_
            refine V_tableIn (tgt := 182) dX7_channel_61 (by omega) (by omega) (by omega) rfl rfl ?_
            refine V_iload (i := 4) dX7_channel_182 rfl ?_
            refine V_if_eq (tgt := 199) (by omega) dX7_channel_184 rfl (fun h_184 => ?_) (fun h_184 => ?_)
            · exfalso; omega
            · refine V_aload_n (i := 0) dX7_channel_187 rfl rfl ?_
              refine V_get (C := RX7) (T := TX7) (N := 17) (ci := 6) (q := 0) (ref := "OrderChainsModel") 5 rfl il_X7_channel_X7 rfl rfl fl_X7_channel_16 rfl rfl dX7_channel_188 ?_
              refine V_iload_n (i := 3) dX7_channel_191 rfl rfl ?_
              refine V_bipush (v := 10) dX7_channel_192 (by decide) ?_
              refine V_iadd dX7_channel_194 ?_
              refine V_iald (q := 1) rfl (by omega) rfl dX7_channel_195 ?_
              refine V_goto (tgt := 200) dX7_channel_196 rfl ?_
              refine V_iret hR dX7_channel_200 hkc hks ?_
              subst e0
              refine Or.inr (Or.inr ⟨hy, by decide, ?_, rfl⟩)
              first | rfl | exact congrArg (fun x => some (Value.int (nI x))) (if_pos h_127).symm | exact congrArg (fun x => some (Value.int (nI x))) (if_neg h_127).symm | exact congrArg (fun x => some (Value.int (nI x))) (if_pos (show 0 < g (384 + 13 * h + 4) by omega)).symm | exact congrArg (fun x => some (Value.int (nI x))) (if_neg (show ¬ 0 < g (384 + 13 * h + 4) by omega)).symm
          · refine V_top (b := 6) e0 ?_
            refine V_tableIn (tgt := 201) dX7_channel_61 (by omega) (by omega) (by omega) rfl rfl ?_
            refine V_aload_n (i := 0) dX7_channel_201 rfl rfl ?_
            refine V_get (C := RX7) (T := TX7) (N := 17) (ci := 6) (q := 0) (ref := "OrderChainsModel") 5 rfl il_X7_channel_X7 rfl rfl fl_X7_channel_16 rfl rfl dX7_channel_202 ?_
            refine V_iload_n (i := 3) dX7_channel_205 rfl rfl ?_
            refine V_bipush (v := 11) dX7_channel_206 (by decide) ?_
            refine V_iadd dX7_channel_208 ?_
            refine V_iald (q := 1) rfl (by omega) rfl dX7_channel_209 ?_
            refine V_iret hR dX7_channel_210 hkc hks ?_
            subst e0
            refine Or.inr (Or.inr ⟨hy, by decide, ?_, rfl⟩)
            first | rfl | exact congrArg (fun x => some (Value.int (nI x))) (if_pos h_127).symm | exact congrArg (fun x => some (Value.int (nI x))) (if_neg h_127).symm | exact congrArg (fun x => some (Value.int (nI x))) (if_pos (show 0 < g (384 + 13 * h + 4) by omega)).symm | exact congrArg (fun x => some (Value.int (nI x))) (if_neg (show ¬ 0 < g (384 + 13 * h + 4) by omega)).symm
          · skip
            refine V_tableOut (tgt := 211) dX7_channel_61 (pk_out (b := 6) hw (by omega) (by decide)) rfl ?_
            refine V_aload_n (i := 0) dX7_channel_211 rfl rfl ?_
            refine V_get (C := RX7) (T := TX7) (N := 17) (ci := 6) (q := 0) (ref := "OrderChainsModel") 5 rfl il_X7_channel_X7 rfl rfl fl_X7_channel_16 rfl rfl dX7_channel_212 ?_
            refine V_iload_n (i := 3) dX7_channel_215 rfl rfl ?_
            refine V_bipush (v := 12) dX7_channel_216 (by decide) ?_
            refine V_iadd dX7_channel_218 ?_
            refine V_iald (q := 1) rfl (by omega) rfl dX7_channel_219 ?_
            refine V_iret hR dX7_channel_220 hkc hks ?_
            subst e0
            refine Or.inr (Or.inr ⟨hy, by decide, ?_, rfl⟩)
            first | rfl | exact congrArg (fun x => some (Value.int (nI x))) (if_pos h_127).symm | exact congrArg (fun x => some (Value.int (nI x))) (if_neg h_127).symm | exact congrArg (fun x => some (Value.int (nI x))) (if_pos (show 0 < g (384 + 13 * h + 4) by omega)).symm | exact congrArg (fun x => some (Value.int (nI x))) (if_neg (show ¬ 0 < g (384 + 13 * h + 4) by omega)).symm
      · exfalso; omega
  · refine V_iconst (v := 1) dX7_channel_8 rfl ?_
    refine V_goto (tgt := 29) dX7_channel_9 rfl ?_
    refine V_callV (C := RX7) (q := 0) (ci := 6) (As := _) (rest := []) [0] (c_X7_refused l G B z 1 (by decide)) vy_X7_refused gX7_channel_X7_refused rfl rfl rfl rfl rfl rfl rfl ⟨rfl, rfl⟩ ⟨rfl, rfl⟩ ⟨Nat.zero_le _, Nat.zero_le _⟩ rfl dX7_channel_29 (fun v Y hE => ?_)
    obtain ⟨rfl, rfl⟩ := hE
    refine ⟨rfl, ?_⟩
    dsimp only [vfill, List.set_cons_zero, List.set_cons_succ, Option.toList, List.cons_append, List.nil_append, Nat.add_zero]
    refine V_top (b := 1) (by decide) ?_
    refine V_if_eq (tgt := 37) (by omega) dX7_channel_32 rfl (fun h_32 => ?_) (fun h_32 => ?_)
    · exfalso; omega
    · refine V_iconst (v := 0) dX7_channel_35 rfl ?_
      refine V_iret hR dX7_channel_36 hkc hks ?_
      first | exact Or.inl ⟨b00 h_5, rfl, rfl⟩ | exact Or.inr (Or.inl ⟨hy, fun y9 => b00 h_21 (by omega), rfl, rfl⟩)

abbrev rX7_about : Room := { frames := 2, cells := 0, slots := 0, locals := 43 }
theorem vy_X7_about : vY yX7_about wsX7_about cX7_about 4 (some .int) 1 := ⟨⟨_, rfl⟩, by decide +kernel, by decide +kernel, by decide +kernel⟩
theorem fl_X7_about_16 : Cond.fieldLink RX7 16 "OrderChainsModel" "now" "[I" ∈ wsX7_about := List.mem_of_getElem? (i := 2) rfl
theorem il_X7_about_X7 : ∀ w ∈ wsX70, w ∈ wsX7_about := fun _ h => List.mem_cons_of_mem _ (List.mem_append_right _ h)
theorem kc_X7_about_143 : Cond.constantLong RX7 143 (9) ∈ wsX7_about := List.mem_of_getElem? (i := 1) rfl
set_option maxHeartbeats 4000000 in
set_option maxRecDepth 100000 in
/-- about -/
theorem c_X7_about (l : Launch) (G : vG) (B z g : Nat → Nat) (w : Nat) (hw : w < 4294967296) (hg : gB g) : Kc l G yX7_about wsX7_about rX7_about [.ref (B 0), .int (nI w)] [mO B z, iA G (B 3) 427 g] (fun v Y => (¬ w < 10 ∧ v = some (.int (nI 0)) ∧ Y = [mO B (va_up z 0 1), iA G (B 3) 427 g]) ∨ (w < 10 ∧ v = some (.int (nI (rAbout g w))) ∧ Y = [mO B (va_up z 0 0), iA G (B 3) 427 g])) 0 0 := by
  refine V_enter (own := RX7) [some (.ref (B 0)), some (.int (nI w)), none, none] (by decide +kernel) rfl rfl (Nat.le_of_ble_eq_true rfl) rfl (fun Γ hR hin => ?_)
  have hkc : 0 ≤ 0 := Nat.le_refl 0
  have hks : 0 ≤ 0 := Nat.le_refl 0
  have LP162 : ∀ (fuel : Nat) (c : Nat), w = 9 → 97 ≤ c + fuel → c ≤ 96 → V l G (cX7_about, 4, wsX7_about, RX7, rX7_about) Γ 0 0 162 [some (.ref (B 0)), some (.int (nI w)), some (.int (nI (vsum (fun k => if g (96 + k) = 0 then 0 else 1) c))), some (.int (nI c))] [] [mO B (va_up z 0 0), iA G (B 3) 427 g] := by
    intro fuel
    induction fuel with
    | zero => intro c e0 hf hc; exact absurd hf (by omega)
    | succ fuel ih =>
      intro c e0 hf hc
      refine V_iload_n (i := 3) dX7_about_162 rfl rfl ?_
      refine V_bipush (v := 96) dX7_about_163 (by decide) ?_
      refine V_icmp_ge (tgt := 194) (by omega) (by omega) dX7_about_165 rfl (fun h_165 => ?_) (fun h_165 => ?_)
      · refine V_iload_n (i := 2) dX7_about_194 rfl rfl ?_
        refine V_iret hR dX7_about_195 hkc hks ?_
        subst e0
        rw [show c = 96 by omega]
        exact Or.inr ⟨by decide, rfl, rfl⟩
      · refine V_iload_n (i := 2) dX7_about_168 rfl rfl ?_
        refine V_aload_n (i := 0) dX7_about_169 rfl rfl ?_
        refine V_get (C := RX7) (T := TX7) (N := 17) (ci := 6) (q := 0) (ref := "OrderChainsModel") 5 rfl il_X7_about_X7 rfl rfl fl_X7_about_16 rfl rfl dX7_about_170 ?_
        refine V_bipush (v := 96) dX7_about_173 (by decide) ?_
        refine V_iload_n (i := 3) dX7_about_175 rfl rfl ?_
        refine V_iadd dX7_about_176 ?_
        refine V_iald (q := 1) rfl (by omega) rfl dX7_about_177 ?_
        refine V_if_ne (tgt := 185) (by have := hg.2.1 c (by omega); omega) dX7_about_178 rfl (fun h_178 => ?_) (fun h_178 => ?_)
        · refine V_iconst (v := 1) dX7_about_185 rfl ?_
          refine V_iadd dX7_about_186 ?_
          refine V_istore_n (i := 2) dX7_about_187 rfl rfl rfl ?_
          dsimp only [List.set_cons_zero, List.set_cons_succ]
          refine V_iinc dX7_about_188 rfl (nI_1 _) rfl rfl ?_
          dsimp only [List.set_cons_zero, List.set_cons_succ]
          refine V_goto (tgt := 162) dX7_about_191 rfl ?_
          first | (have e9 : vsum (fun k => if g (96 + k) = 0 then 0 else 1) (c + 1) = vsum (fun k => if g (96 + k) = 0 then 0 else 1) c + 0 := congrArg (vsum (fun k => if g (96 + k) = 0 then 0 else 1) c + ·) (if_pos h_178); rw [← e9]; exact ih (c + 1) e0 (by omega) (by omega)) | (have e9 : vsum (fun k => if g (96 + k) = 0 then 0 else 1) (c + 1) = vsum (fun k => if g (96 + k) = 0 then 0 else 1) c + 1 := congrArg (vsum (fun k => if g (96 + k) = 0 then 0 else 1) c + ·) (if_neg h_178); rw [← e9]; exact ih (c + 1) e0 (by omega) (by omega))
        · refine V_iconst (v := 0) dX7_about_181 rfl ?_
          refine V_goto (tgt := 186) dX7_about_182 rfl ?_
          refine V_iadd dX7_about_186 ?_
          refine V_istore_n (i := 2) dX7_about_187 rfl rfl rfl ?_
          dsimp only [List.set_cons_zero, List.set_cons_succ]
          refine V_iinc dX7_about_188 rfl (nI_1 _) rfl rfl ?_
          dsimp only [List.set_cons_zero, List.set_cons_succ]
          refine V_goto (tgt := 162) dX7_about_191 rfl ?_
          first | (have e9 : vsum (fun k => if g (96 + k) = 0 then 0 else 1) (c + 1) = vsum (fun k => if g (96 + k) = 0 then 0 else 1) c + 0 := congrArg (vsum (fun k => if g (96 + k) = 0 then 0 else 1) c + ·) (if_pos h_178); rw [← e9]; exact ih (c + 1) e0 (by omega) (by omega)) | (have e9 : vsum (fun k => if g (96 + k) = 0 then 0 else 1) (c + 1) = vsum (fun k => if g (96 + k) = 0 then 0 else 1) c + 1 := congrArg (vsum (fun k => if g (96 + k) = 0 then 0 else 1) c + ·) (if_neg h_178); rw [← e9]; exact ih (c + 1) e0 (by omega) (by omega))
  refine V_aload_n (i := 0) dX7_about_0 rfl rfl ?_
  refine V_iload_n (i := 1) dX7_about_1 rfl rfl ?_
  refine V_i2l dX7_about_2 ?_
  refine V_lconst dX7_about_3 rfl ?_
  refine V_ldc2 (v := 9) dX7_about_4 kc_X7_about_143 ?_
  refine V_callS (As := _) (rest := _) [] (c_X7_inN l G (w) 0 9 _ _ (by decide) (by decide) hw (by decide)) vy_X7_in gX7_about_X7_in rfl rfl rfl rfl ⟨rfl, rfl⟩ ⟨rfl, rfl⟩ ⟨Nat.zero_le _, Nat.zero_le _⟩ rfl dX7_about_7 (fun v Y hE => ?_)
  obtain ⟨rfl, rfl⟩ := hE
  refine ⟨rfl, ?_⟩
  dsimp only [vfill, List.set_cons_zero, List.set_cons_succ, Option.toList, List.cons_append, List.nil_append, Nat.add_zero]
  refine V_if_eq (tgt := 17) (by split <;> decide) dX7_about_10 rfl (fun h_10 => ?_) (fun h_10 => ?_)
  · refine V_iconst (v := 1) dX7_about_17 rfl ?_
    refine V_callV (C := RX7) (q := 0) (ci := 6) (As := _) (rest := []) [0] (c_X7_refused l G B z 1 (by decide)) vy_X7_refused gX7_about_X7_refused rfl rfl rfl rfl rfl rfl rfl ⟨rfl, rfl⟩ ⟨rfl, rfl⟩ ⟨Nat.zero_le _, Nat.zero_le _⟩ rfl dX7_about_18 (fun v Y hE => ?_)
    obtain ⟨rfl, rfl⟩ := hE
    refine ⟨rfl, ?_⟩
    dsimp only [vfill, List.set_cons_zero, List.set_cons_succ, Option.toList, List.cons_append, List.nil_append, Nat.add_zero]
    refine V_top (b := 1) (by decide) ?_
    refine V_if_eq (tgt := 26) (by omega) dX7_about_21 rfl (fun h_21 => ?_) (fun h_21 => ?_)
    · exfalso; omega
    · refine V_iconst (v := 0) dX7_about_24 rfl ?_
      refine V_iret hR dX7_about_25 hkc hks ?_
      exact Or.inl ⟨fun y9 => b00 h_10 (by omega), rfl, rfl⟩
  · have hy := b01 h_10
    refine V_iconst (v := 0) dX7_about_13 rfl ?_
    refine V_goto (tgt := 18) dX7_about_14 rfl ?_
    refine V_callV (C := RX7) (q := 0) (ci := 6) (As := _) (rest := []) [0] (c_X7_refused l G B z 0 (by decide)) vy_X7_refused gX7_about_X7_refused rfl rfl rfl rfl rfl rfl rfl ⟨rfl, rfl⟩ ⟨rfl, rfl⟩ ⟨Nat.zero_le _, Nat.zero_le _⟩ rfl dX7_about_18 (fun v Y hE => ?_)
    obtain ⟨rfl, rfl⟩ := hE
    refine ⟨rfl, ?_⟩
    dsimp only [vfill, List.set_cons_zero, List.set_cons_succ, Option.toList, List.cons_append, List.nil_append, Nat.add_zero]
    refine V_top (b := 0) (by decide) ?_
    refine V_if_eq (tgt := 26) (by omega) dX7_about_21 rfl (fun h_21 => ?_) (fun h_21 => ?_)
    · refine V_iload_n (i := 1) dX7_about_26 rfl rfl ?_
      rcases (show w = 0 ∨ w = 1 ∨ w = 2 ∨ w = 3 ∨ w = 4 ∨ w = 5 ∨ w = 6 ∨ w = 7 ∨ w = 8 ∨ w = 9 by omega) with e0 | e0 | e0 | e0 | e0 | e0 | e0 | e0 | e0 | e0
      · refine V_top (b := 0) e0 ?_
        refine V_tableIn (tgt := 76) dX7_about_27 (by omega) (by omega) (by omega) rfl rfl ?_
        refine V_aload_n (i := 0) dX7_about_76 rfl rfl ?_
        refine V_get (C := RX7) (T := TX7) (N := 17) (ci := 6) (q := 0) (ref := "OrderChainsModel") 5 rfl il_X7_about_X7 rfl rfl fl_X7_about_16 rfl rfl dX7_about_77 ?_
        refine V_sipush (v := 423) dX7_about_80 (by decide) ?_
        refine V_iald (q := 1) rfl (by omega) rfl dX7_about_83 ?_
        refine V_iret hR dX7_about_84 hkc hks ?_
        subst e0
        exact Or.inr ⟨by decide, rfl, rfl⟩
      · refine V_top (b := 1) e0 ?_
        refine V_tableIn (tgt := 85) dX7_about_27 (by omega) (by omega) (by omega) rfl rfl ?_
        refine V_aload_n (i := 0) dX7_about_85 rfl rfl ?_
        refine V_get (C := RX7) (T := TX7) (N := 17) (ci := 6) (q := 0) (ref := "OrderChainsModel") 5 rfl il_X7_about_X7 rfl rfl fl_X7_about_16 rfl rfl dX7_about_86 ?_
        refine V_iconst (v := 1) dX7_about_89 rfl ?_
        refine V_callS (As := _) (rest := []) [1] (c_X7_channels l G (B 3) g 1 (by decide) (fun h hh => (hg.2.2.2.2 h hh).1)) vy_X7_channels gX7_about_X7_channels rfl rfl rfl rfl ⟨rfl, rfl⟩ ⟨rfl, rfl⟩ ⟨Nat.zero_le _, Nat.zero_le _⟩ rfl dX7_about_90 (fun v Y hE => ?_)
        obtain ⟨rfl, rfl⟩ := hE
        refine ⟨rfl, ?_⟩
        dsimp only [vfill, List.set_cons_zero, List.set_cons_succ, Option.toList, List.cons_append, List.nil_append, Nat.add_zero]
        refine V_iret hR dX7_about_93 hkc hks ?_
        subst e0
        exact Or.inr ⟨by decide, rfl, rfl⟩
      · refine V_top (b := 2) e0 ?_
        refine V_tableIn (tgt := 94) dX7_about_27 (by omega) (by omega) (by omega) rfl rfl ?_
        refine V_aload_n (i := 0) dX7_about_94 rfl rfl ?_
        refine V_get (C := RX7) (T := TX7) (N := 17) (ci := 6) (q := 0) (ref := "OrderChainsModel") 5 rfl il_X7_about_X7 rfl rfl fl_X7_about_16 rfl rfl dX7_about_95 ?_
        refine V_iconst (v := 2) dX7_about_98 rfl ?_
        refine V_callS (As := _) (rest := []) [1] (c_X7_channels l G (B 3) g 2 (by decide) (fun h hh => (hg.2.2.2.2 h hh).1)) vy_X7_channels gX7_about_X7_channels rfl rfl rfl rfl ⟨rfl, rfl⟩ ⟨rfl, rfl⟩ ⟨Nat.zero_le _, Nat.zero_le _⟩ rfl dX7_about_99 (fun v Y hE => ?_)
        obtain ⟨rfl, rfl⟩ := hE
        refine ⟨rfl, ?_⟩
        dsimp only [vfill, List.set_cons_zero, List.set_cons_succ, Option.toList, List.cons_append, List.nil_append, Nat.add_zero]
        refine V_iret hR dX7_about_102 hkc hks ?_
        subst e0
        exact Or.inr ⟨by decide, rfl, rfl⟩
      · refine V_top (b := 3) e0 ?_
        refine V_tableIn (tgt := 103) dX7_about_27 (by omega) (by omega) (by omega) rfl rfl ?_
        refine V_aload_n (i := 0) dX7_about_103 rfl rfl ?_
        refine V_get (C := RX7) (T := TX7) (N := 17) (ci := 6) (q := 0) (ref := "OrderChainsModel") 5 rfl il_X7_about_X7 rfl rfl fl_X7_about_16 rfl rfl dX7_about_104 ?_
        refine V_iconst (v := 3) dX7_about_107 rfl ?_
        refine V_callS (As := _) (rest := []) [1] (c_X7_channels l G (B 3) g 3 (by decide) (fun h hh => (hg.2.2.2.2 h hh).1)) vy_X7_channels gX7_about_X7_channels rfl rfl rfl rfl ⟨rfl, rfl⟩ ⟨rfl, rfl⟩ ⟨Nat.zero_le _, Nat.zero_le _⟩ rfl dX7_about_108 (fun v Y hE => ?_)
        obtain ⟨rfl, rfl⟩ := hE
        refine ⟨rfl, ?_⟩
        dsimp only [vfill, List.set_cons_zero, List.set_cons_succ, Option.toList, List.cons_append, List.nil_append, Nat.add_zero]
        refine V_iret hR dX7_about_111 hkc hks ?_
        subst e0
        exact Or.inr ⟨by decide, rfl, rfl⟩
      · refine V_top (b := 4) e0 ?_
        refine V_tableIn (tgt := 112) dX7_about_27 (by omega) (by omega) (by omega) rfl rfl ?_
        refine V_aload_n (i := 0) dX7_about_112 rfl rfl ?_
        refine V_get (C := RX7) (T := TX7) (N := 17) (ci := 6) (q := 0) (ref := "OrderChainsModel") 5 rfl il_X7_about_X7 rfl rfl fl_X7_about_16 rfl rfl dX7_about_113 ?_
        refine V_callS (As := _) (rest := []) [1] (c_X7_turnOf l G (B 3) g hg.2.2.2.1 (fun h hh => (hg.2.2.2.2 h hh).1)) vy_X7_turnOf gX7_about_X7_turnOf rfl rfl rfl rfl ⟨rfl, rfl⟩ ⟨rfl, rfl⟩ ⟨Nat.zero_le _, Nat.zero_le _⟩ rfl dX7_about_116 (fun v Y hE => ?_)
        obtain ⟨rfl, rfl⟩ := hE
        refine ⟨rfl, ?_⟩
        dsimp only [vfill, List.set_cons_zero, List.set_cons_succ, Option.toList, List.cons_append, List.nil_append, Nat.add_zero]
        refine V_iret hR dX7_about_119 hkc hks ?_
        subst e0
        exact Or.inr ⟨by decide, rfl, rfl⟩
      · refine V_top (b := 5) e0 ?_
        refine V_tableIn (tgt := 120) dX7_about_27 (by omega) (by omega) (by omega) rfl rfl ?_
        refine V_aload_n (i := 0) dX7_about_120 rfl rfl ?_
        refine V_get (C := RX7) (T := TX7) (N := 17) (ci := 6) (q := 0) (ref := "OrderChainsModel") 5 rfl il_X7_about_X7 rfl rfl fl_X7_about_16 rfl rfl dX7_about_121 ?_
        refine V_iconst (v := 0) dX7_about_124 rfl ?_
        refine V_callS (As := _) (rest := []) [1] (c_X7_sum l G (B 3) g 0 (by decide)) vy_X7_sum gX7_about_X7_sum rfl rfl rfl rfl ⟨rfl, rfl⟩ ⟨rfl, rfl⟩ ⟨Nat.zero_le _, Nat.zero_le _⟩ rfl dX7_about_125 (fun v Y hE => ?_)
        obtain ⟨rfl, rfl⟩ := hE
        refine ⟨rfl, ?_⟩
        dsimp only [vfill, List.set_cons_zero, List.set_cons_succ, Option.toList, List.cons_append, List.nil_append, Nat.add_zero]
        refine V_iret hR dX7_about_128 hkc hks ?_
        subst e0
        exact Or.inr ⟨by decide, rfl, rfl⟩
      · refine V_top (b := 6) e0 ?_
        refine V_tableIn (tgt := 129) dX7_about_27 (by omega) (by omega) (by omega) rfl rfl ?_
        refine V_aload_n (i := 0) dX7_about_129 rfl rfl ?_
        refine V_get (C := RX7) (T := TX7) (N := 17) (ci := 6) (q := 0) (ref := "OrderChainsModel") 5 rfl il_X7_about_X7 rfl rfl fl_X7_about_16 rfl rfl dX7_about_130 ?_
        refine V_sipush (v := 424) dX7_about_133 (by decide) ?_
        refine V_iald (q := 1) rfl (by omega) rfl dX7_about_136 ?_
        refine V_iret hR dX7_about_137 hkc hks ?_
        subst e0
        exact Or.inr ⟨by decide, rfl, rfl⟩
      · refine V_top (b := 7) e0 ?_
        refine V_tableIn (tgt := 138) dX7_about_27 (by omega) (by omega) (by omega) rfl rfl ?_
        refine V_aload_n (i := 0) dX7_about_138 rfl rfl ?_
        refine V_get (C := RX7) (T := TX7) (N := 17) (ci := 6) (q := 0) (ref := "OrderChainsModel") 5 rfl il_X7_about_X7 rfl rfl fl_X7_about_16 rfl rfl dX7_about_139 ?_
        refine V_sipush (v := 425) dX7_about_142 (by decide) ?_
        refine V_iald (q := 1) rfl (by omega) rfl dX7_about_145 ?_
        refine V_iret hR dX7_about_146 hkc hks ?_
        subst e0
        exact Or.inr ⟨by decide, rfl, rfl⟩
      · refine V_top (b := 8) e0 ?_
        refine V_tableIn (tgt := 147) dX7_about_27 (by omega) (by omega) (by omega) rfl rfl ?_
        refine V_aload_n (i := 0) dX7_about_147 rfl rfl ?_
        refine V_get (C := RX7) (T := TX7) (N := 17) (ci := 6) (q := 0) (ref := "OrderChainsModel") 5 rfl il_X7_about_X7 rfl rfl fl_X7_about_16 rfl rfl dX7_about_148 ?_
        refine V_sipush (v := 192) dX7_about_151 (by decide) ?_
        refine V_callS (As := _) (rest := []) [1] (c_X7_sum l G (B 3) g 192 (by decide)) vy_X7_sum gX7_about_X7_sum rfl rfl rfl rfl ⟨rfl, rfl⟩ ⟨rfl, rfl⟩ ⟨Nat.zero_le _, Nat.zero_le _⟩ rfl dX7_about_154 (fun v Y hE => ?_)
        obtain ⟨rfl, rfl⟩ := hE
        refine ⟨rfl, ?_⟩
        dsimp only [vfill, List.set_cons_zero, List.set_cons_succ, Option.toList, List.cons_append, List.nil_append, Nat.add_zero]
        refine V_iret hR dX7_about_157 hkc hks ?_
        subst e0
        exact Or.inr ⟨by decide, rfl, rfl⟩
      · skip
        refine V_tableOut (tgt := 158) dX7_about_27 (pk_out (b := 8) hw (by omega) (by decide)) rfl ?_
        refine V_iconst (v := 0) dX7_about_158 rfl ?_
        refine V_istore_n (i := 2) dX7_about_159 rfl rfl rfl ?_
        dsimp only [List.set_cons_zero, List.set_cons_succ]
        refine V_iconst (v := 0) dX7_about_160 rfl ?_
        refine V_istore_n (i := 3) dX7_about_161 rfl rfl rfl ?_
        dsimp only [List.set_cons_zero, List.set_cons_succ]
        exact LP162 97 0 e0 (by omega) (by omega)
    · exfalso; omega

end REF9
