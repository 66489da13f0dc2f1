section REF10
def rSiV (r : Nat) (g : Nat → Nat) : Nat → Nat := va_up g (r % 96) (r / 128 % 100)
def rSiB (r : Nat) (g : Nat → Nat) : Nat → Nat := if r / 16384 % 4 = 0 then rBegin (r / 65536 % 3) (r / 262144 % 91) 1 (rSiV r g) else rSiV r g
def sgR (r : Nat) (t : vR3) : vR3 := (t.1, rSiB r t.2.1, t.2.2)
def siR (F : Int64 → Int64) : Nat → Int64 → vR3 → vR3
  | 0, _, t => t
  | k + 1, x, t => siR F k (F x) (rRun 8 (sgR (smR (F x)) t)).2
theorem siR_s (F : Int64 → Int64) (n : Nat) (x : Int64) (t : vR3) : siR F (n + 1) x t = siR F n (F x) (rRun 8 (sgR (smR (F x)) t)).2 := rfl
theorem siR_0 (F : Int64 → Int64) (x : Int64) (t : vR3) : siR F 0 x t = t := rfl
def siM (g : Nat → Nat) : Nat := 10000 * rCs 3 g + vsum (fun k => g (0 + k)) 96
theorem siM_eq (g : Nat → Nat) : siM g = 10000 * rCs 3 g + vsum (fun k => g (0 + k)) 96 := rfl

abbrev rX7_simulate : Room := { frames := 5, cells := 0, slots := 0, locals := 120 }
theorem vy_X7_simulate : vY yX7_simulate wsX7_simulate cX7_simulate 8 (some .int) 2 := ⟨⟨_, rfl⟩, by decide +kernel, by decide +kernel, by decide +kernel⟩
theorem fl_X7_simulate_19 : Cond.fieldLink RX7 19 "OrderChainsModel" "trial" "[I" ∈ wsX7_simulate := List.mem_of_getElem? (i := 4) rfl
theorem il_X7_simulate_X7 : ∀ w ∈ wsX70, w ∈ wsX7_simulate := fun _ h => List.mem_cons_of_mem _ (List.mem_append_right _ h)
theorem kc_X7_simulate_193 : Cond.constantLong RX7 193 (6364136223846793005) ∈ wsX7_simulate := List.mem_of_getElem? (i := 2) rfl
theorem kc_X7_simulate_195 : Cond.constantLong RX7 195 (1442695040888963407) ∈ wsX7_simulate := List.mem_of_getElem? (i := 3) rfl
theorem kc_X7_simulate_197 : Cond.constant RX7 197 (65536) ∈ wsX7_simulate := List.mem_of_getElem? (i := 5) rfl
theorem kc_X7_simulate_198 : Cond.constant RX7 198 (262144) ∈ wsX7_simulate := List.mem_of_getElem? (i := 6) rfl
theorem kc_X7_simulate_191 : Cond.constantLong RX7 191 (50) ∈ wsX7_simulate := List.mem_of_getElem? (i := 1) rfl
set_option maxHeartbeats 4000000 in
set_option maxRecDepth 100000 in
/-- simulate -/
theorem c_X7_simulate (l : Launch) (G : vG) (B z g t b : Nat → Nat) (F : Int64 → Int64) (hF : ∀ y, F y = y * 6364136223846793005 + 1442695040888963407) (w : Nat) (x : Int64) (Q : vR3 → Prop) (hQ1 : ∀ t, Q t → gB t.2.1 ∧ t.1 5 < 4294967296) (hQ2 : ∀ t, Q t → Q (rTk t)) (hq : Q (rTry (va_up z 0 0) g t b)) (hQ4 : ∀ r t, Q t → Q (sgR r t)) (hw : w < 4294967296) : Kc l G yX7_simulate wsX7_simulate rX7_simulate [.ref (B 0), .long x, .int (nI w)] [mO B z, iA G (B 3) 427 g, iA G (B 4) 427 t, iA G (B 8) 96 b] (fun v Y => (¬ (1 ≤ w ∧ w < 51) ∧ v = some (.int (nI 0)) ∧ Y = [mO B (va_up z 0 1), iA G (B 3) 427 g, iA G (B 4) 427 t, iA G (B 8) 96 b]) ∨ ((1 ≤ w ∧ w < 51) ∧ v = some (.int (nI (siM (siR F w x (rTry (va_up z 0 0) g t b)).2.1))) ∧ Y = [mO B (siR F w x (rTry (va_up z 0 0) g t b)).1, iA G (B 3) 427 g, iA G (B 4) 427 (siR F w x (rTry (va_up z 0 0) g t b)).2.1, iA G (B 8) 96 (siR F w x (rTry (va_up z 0 0) g t b)).2.2])) 0 0 := by
  refine V_enter (own := RX7) [some (.ref (B 0)), some (.long x), none, some (.int (nI w)), none, none, none, none] (by decide +kernel) rfl rfl (Nat.le_of_ble_eq_true rfl) rfl (fun Γ hR hin => ?_)
  have hkc : 0 ≤ 0 := Nat.le_refl 0
  have hks : 0 ≤ 0 := Nat.le_refl 0
  have LP36 : ∀ (fuel : Nat) (k : Nat) (y : Int64) (s : vR3) (u : Option Value), w + 1 ≤ k + fuel → 1 ≤ w → w < 51 → k ≤ w → Q s → (siR F w x (rTry (va_up z 0 0) g t b)) = siR F (w - k) y s → V l G (cX7_simulate, 8, wsX7_simulate, RX7, rX7_simulate) Γ 0 0 36 [some (.ref (B 0)), some (.long x), none, some (.int (nI w)), some (.long y), none, some (.int (nI k)), u] [] [mO B s.1, iA G (B 3) 427 g, iA G (B 4) 427 s.2.1, iA G (B 8) 96 s.2.2] := by
    intro fuel
    induction fuel with
    | zero => intro k y s u hf hw1 hw2 hk hqs hfl; exact absurd hf (by omega)
    | succ fuel ih =>
      intro k y s u hf hw1 hw2 hk hqs hfl
      refine V_iload (i := 6) dX7_simulate_36 rfl ?_
      refine V_iload_n (i := 3) dX7_simulate_38 rfl rfl ?_
      refine V_icmp_ge (tgt := 132) (by omega) (by omega) dX7_simulate_39 rfl (fun h_39 => ?_) (fun h_39 => ?_)
      · refine V_sipush (v := 10000) dX7_simulate_132 (by decide) ?_
        refine V_aload_n (i := 0) dX7_simulate_135 rfl rfl ?_
        refine V_get (C := RX7) (T := TX7) (N := 17) (ci := 6) (q := 0) (ref := "OrderChainsModel") 6 rfl il_X7_simulate_X7 rfl rfl fl_X7_simulate_19 rfl rfl dX7_simulate_136 ?_
        refine V_iconst (v := 3) dX7_simulate_139 rfl ?_
        refine V_callS (As := _) (rest := _) [2] (c_X7_channels l G (B 4) s.2.1 3 (by decide) (fun h hh => ((hQ1 s hqs).1.2.2.2.2 h hh).1)) vy_X7_channels gX7_simulate_X7_channels rfl rfl rfl rfl ⟨rfl, rfl⟩ ⟨rfl, rfl⟩ ⟨Nat.zero_le _, Nat.zero_le _⟩ rfl dX7_simulate_140 (fun v Y hE => ?_)
        obtain ⟨rfl, rfl⟩ := hE
        refine ⟨rfl, ?_⟩
        dsimp only [vfill, List.set_cons_zero, List.set_cons_succ, Option.toList, List.cons_append, List.nil_append, Nat.add_zero]
        refine V_imul dX7_simulate_143 ?_
        refine V_aload_n (i := 0) dX7_simulate_144 rfl rfl ?_
        refine V_get (C := RX7) (T := TX7) (N := 17) (ci := 6) (q := 0) (ref := "OrderChainsModel") 6 rfl il_X7_simulate_X7 rfl rfl fl_X7_simulate_19 rfl rfl dX7_simulate_145 ?_
        refine V_iconst (v := 0) dX7_simulate_148 rfl ?_
        refine V_callS (As := _) (rest := _) [2] (c_X7_sum l G (B 4) s.2.1 0 (by decide)) vy_X7_sum gX7_simulate_X7_sum rfl rfl rfl rfl ⟨rfl, rfl⟩ ⟨rfl, rfl⟩ ⟨Nat.zero_le _, Nat.zero_le _⟩ rfl dX7_simulate_149 (fun v Y hE => ?_)
        obtain ⟨rfl, rfl⟩ := hE
        refine ⟨rfl, ?_⟩
        dsimp only [vfill, List.set_cons_zero, List.set_cons_succ, Option.toList, List.cons_append, List.nil_append, Nat.add_zero]
        refine V_iadd dX7_simulate_152 ?_
        refine V_iret hR dX7_simulate_153 hkc hks ?_
        rw [hfl, show w - k = 0 by omega, siR_0, siM_eq]
        exact Or.inr ⟨⟨hw1, hw2⟩, rfl, rfl⟩
      · refine V_lload (i := 4) dX7_simulate_42 rfl ?_
        refine V_ldc2 (v := 6364136223846793005) dX7_simulate_44 kc_X7_simulate_193 ?_
        refine V_lmul dX7_simulate_47 ?_
        refine V_ldc2 (v := 1442695040888963407) dX7_simulate_48 kc_X7_simulate_195 ?_
        refine V_ladd dX7_simulate_51 ?_
        refine V_lstore (i := 4) dX7_simulate_52 rfl rfl ?_
        dsimp only [List.set_cons_zero, List.set_cons_succ]
        have hz9 := hF y
        generalize y * 6364136223846793005 + 1442695040888963407 = y9 at hz9 ⊢
        refine V_lload (i := 4) dX7_simulate_54 rfl ?_
        refine V_bipush (v := 33) dX7_simulate_56 (by decide) ?_
        refine V_lushr dX7_simulate_58 (sm_shr y9) ?_
        refine V_l2i dX7_simulate_59 (sm_i y9) ?_
        refine V_istore (i := 7) dX7_simulate_60 rfl rfl ?_
        dsimp only [List.set_cons_zero, List.set_cons_succ]
        have hr9 := smR_lt y9
        refine V_aload_n (i := 0) dX7_simulate_62 rfl rfl ?_
        refine V_get (C := RX7) (T := TX7) (N := 17) (ci := 6) (q := 0) (ref := "OrderChainsModel") 6 rfl il_X7_simulate_X7 rfl rfl fl_X7_simulate_19 rfl rfl dX7_simulate_63 ?_
        refine V_iload (i := 7) dX7_simulate_66 rfl ?_
        refine V_bipush (v := 96) dX7_simulate_68 (by decide) ?_
        refine V_irem dX7_simulate_70 (by omega) (by omega) (by omega) ?_
        refine V_iload (i := 7) dX7_simulate_71 rfl ?_
        refine V_sipush (v := 128) dX7_simulate_73 (by decide) ?_
        refine V_idiv dX7_simulate_76 (by omega) (by omega) (by omega) ?_
        refine V_bipush (v := 100) dX7_simulate_77 (by decide) ?_
        refine V_irem dX7_simulate_79 (by omega) (by omega) (by omega) ?_
        refine V_iast (q := 2) rfl (by omega) rfl dX7_simulate_80 ?_
        dsimp only [List.set_cons_zero, List.set_cons_succ]
        refine V_iload (i := 7) dX7_simulate_81 rfl ?_
        refine V_sipush (v := 16384) dX7_simulate_83 (by decide) ?_
        refine V_idiv dX7_simulate_86 (by omega) (by omega) (by omega) ?_
        refine V_iconst (v := 4) dX7_simulate_87 rfl ?_
        refine V_irem dX7_simulate_88 (by omega) (by omega) (by omega) ?_
        refine V_if_ne (tgt := 115) (by omega) dX7_simulate_89 rfl (fun h_89 => ?_) (fun h_89 => ?_)
        · refine V_same (X' := [mO B s.1, iA G (B 3) 427 g, iA G (B 4) 427 (rSiV (smR y9) s.2.1), iA G (B 8) 96 s.2.2]) (by rfl) ?_
          have hB9 : rSiB (smR y9) s.2.1 = rSiV (smR y9) s.2.1 := by
            unfold rSiB
            rw [if_neg h_89]
          rw [← hB9]
          refine V_aload_n (i := 0) dX7_simulate_115 rfl rfl ?_
          refine V_aload_n (i := 0) dX7_simulate_116 rfl rfl ?_
          refine V_get (C := RX7) (T := TX7) (N := 17) (ci := 6) (q := 0) (ref := "OrderChainsModel") 6 rfl il_X7_simulate_X7 rfl rfl fl_X7_simulate_19 rfl rfl dX7_simulate_117 ?_
          refine V_bipush (v := 8) dX7_simulate_120 (by decide) ?_
          refine V_callV (C := RX7) (q := 0) (ci := 6) (As := _) (rest := []) [0, 2, 3] (c_X7_goOnFor l G B s.1 s.2.2 (B 4) (rSiB (smR y9) s.2.1) 8 (by decide) Q hQ1 hQ2 (hQ4 (smR y9) s hqs)) vy_X7_goOnFor gX7_simulate_X7_goOnFor rfl rfl rfl rfl rfl rfl rfl ⟨rfl, rfl⟩ ⟨rfl, rfl⟩ ⟨Nat.zero_le _, Nat.zero_le _⟩ rfl dX7_simulate_122 (fun v Y hE => ?_)
          obtain ⟨rfl, rfl⟩ := hE
          refine ⟨rfl, ?_⟩
          dsimp only [vfill, w3, List.set_cons_zero, List.set_cons_succ, Option.toList, List.cons_append, List.nil_append, Nat.add_zero]
          refine V_pop dX7_simulate_125 rfl ?_
          refine V_iinc dX7_simulate_126 rfl (nI_1 _) rfl rfl ?_
          dsimp only [List.set_cons_zero, List.set_cons_succ]
          refine V_goto (tgt := 36) dX7_simulate_129 rfl ?_
          exact ih (k + 1) y9 (rRun 8 (sgR (smR y9) s)).2 _ (by omega) hw1 hw2 (by omega) (rRun_Q hQ2 8 _ (hQ4 (smR y9) s hqs)) (by rw [hfl, show w - k = (w - (k + 1)) + 1 by omega, siR_s, hz9])
        · refine V_aload_n (i := 0) dX7_simulate_92 rfl rfl ?_
          refine V_get (C := RX7) (T := TX7) (N := 17) (ci := 6) (q := 0) (ref := "OrderChainsModel") 6 rfl il_X7_simulate_X7 rfl rfl fl_X7_simulate_19 rfl rfl dX7_simulate_93 ?_
          refine V_iload (i := 7) dX7_simulate_96 rfl ?_
          refine V_ldc (v := 65536) dX7_simulate_98 kc_X7_simulate_197 ?_
          refine V_idiv dX7_simulate_100 (by omega) (by omega) (by omega) ?_
          refine V_iconst (v := 3) dX7_simulate_101 rfl ?_
          refine V_irem dX7_simulate_102 (by omega) (by omega) (by omega) ?_
          refine V_iload (i := 7) dX7_simulate_103 rfl ?_
          refine V_ldc (v := 262144) dX7_simulate_105 kc_X7_simulate_198 ?_
          refine V_idiv dX7_simulate_107 (by omega) (by omega) (by omega) ?_
          refine V_bipush (v := 91) dX7_simulate_108 (by decide) ?_
          refine V_irem dX7_simulate_110 (by omega) (by omega) (by omega) ?_
          refine V_iconst (v := 1) dX7_simulate_111 rfl ?_
          obtain ⟨q9, hq9⟩ : ∃ p, p = smR y9 / 65536 % 3 := ⟨_, rfl⟩
          rw [← hq9]
          have hq9l : q9 < 3 := by omega
          obtain ⟨p9, hp9⟩ : ∃ p, p = smR y9 / 262144 % 91 := ⟨_, rfl⟩
          rw [← hp9]
          refine V_callS (As := _) (rest := []) [2] (c_X7_begin l G (B 4) (rSiV (smR y9) s.2.1) q9 p9 1 hq9l) vy_X7_begin gX7_simulate_X7_begin rfl rfl rfl rfl ⟨rfl, rfl⟩ ⟨rfl, rfl⟩ ⟨Nat.zero_le _, Nat.zero_le _⟩ rfl dX7_simulate_112 (fun v Y hE => ?_)
          obtain ⟨rfl, rfl⟩ := hE
          refine ⟨rfl, ?_⟩
          dsimp only [vfill, List.set_cons_zero, List.set_cons_succ, Option.toList, List.cons_append, List.nil_append, Nat.add_zero]
          have hB9 : rSiB (smR y9) s.2.1 = rBegin q9 p9 1 (rSiV (smR y9) s.2.1) := by
            unfold rSiB
            rw [if_pos h_89, hq9, hp9]
          rw [← hB9]
          refine V_aload_n (i := 0) dX7_simulate_115 rfl rfl ?_
          refine V_aload_n (i := 0) dX7_simulate_116 rfl rfl ?_
          refine V_get (C := RX7) (T := TX7) (N := 17) (ci := 6) (q := 0) (ref := "OrderChainsModel") 6 rfl il_X7_simulate_X7 rfl rfl fl_X7_simulate_19 rfl rfl dX7_simulate_117 ?_
          refine V_bipush (v := 8) dX7_simulate_120 (by decide) ?_
          refine V_callV (C := RX7) (q := 0) (ci := 6) (As := _) (rest := []) [0, 2, 3] (c_X7_goOnFor l G B s.1 s.2.2 (B 4) (rSiB (smR y9) s.2.1) 8 (by decide) Q hQ1 hQ2 (hQ4 (smR y9) s hqs)) vy_X7_goOnFor gX7_simulate_X7_goOnFor rfl rfl rfl rfl rfl rfl rfl ⟨rfl, rfl⟩ ⟨rfl, rfl⟩ ⟨Nat.zero_le _, Nat.zero_le _⟩ rfl dX7_simulate_122 (fun v Y hE => ?_)
          obtain ⟨rfl, rfl⟩ := hE
          refine ⟨rfl, ?_⟩
          dsimp only [vfill, w3, List.set_cons_zero, List.set_cons_succ, Option.toList, List.cons_append, List.nil_append, Nat.add_zero]
          refine V_pop dX7_simulate_125 rfl ?_
          refine V_iinc dX7_simulate_126 rfl (nI_1 _) rfl rfl ?_
          dsimp only [List.set_cons_zero, List.set_cons_succ]
          refine V_goto (tgt := 36) dX7_simulate_129 rfl ?_
          exact ih (k + 1) y9 (rRun 8 (sgR (smR y9) s)).2 _ (by omega) hw1 hw2 (by omega) (rRun_Q hQ2 8 _ (hQ4 (smR y9) s hqs)) (by rw [hfl, show w - k = (w - (k + 1)) + 1 by omega, siR_s, hz9])
  refine V_aload_n (i := 0) dX7_simulate_0 rfl rfl ?_
  refine V_iload_n (i := 3) dX7_simulate_1 rfl rfl ?_
  refine V_i2l dX7_simulate_2 ?_
  refine V_lconst dX7_simulate_3 rfl ?_
  refine V_ldc2 (v := 50) dX7_simulate_4 kc_X7_simulate_191 ?_
  refine V_callS (As := _) (rest := _) [] (c_X7_inN l G (w) 1 50 _ _ (by decide) (by decide) hw (by decide)) vy_X7_in gX7_simulate_X7_in rfl rfl rfl rfl ⟨rfl, rfl⟩ ⟨rfl, rfl⟩ ⟨Nat.zero_le _, Nat.zero_le _⟩ rfl dX7_simulate_7 (fun v Y hE => ?_)
  obtain ⟨rfl, rfl⟩ := hE
  refine ⟨rfl, ?_⟩
  dsimp only [vfill, List.set_cons_zero, List.set_cons_succ, Option.toList, List.cons_append, List.nil_append, Nat.add_zero]
  refine V_if_eq (tgt := 17) (by split <;> decide) dX7_simulate_10 rfl (fun h_10 => ?_) (fun h_10 => ?_)
  · refine V_iconst (v := 1) dX7_simulate_17 rfl ?_
    refine V_callV (C := RX7) (q := 0) (ci := 6) (As := _) (rest := []) [0] (c_X7_refused l G B z 1 (by decide)) vy_X7_refused gX7_simulate_X7_refused rfl rfl rfl rfl rfl rfl rfl ⟨rfl, rfl⟩ ⟨rfl, rfl⟩ ⟨Nat.zero_le _, Nat.zero_le _⟩ rfl dX7_simulate_18 (fun v Y hE => ?_)
    obtain ⟨rfl, rfl⟩ := hE
    refine ⟨rfl, ?_⟩
    dsimp only [vfill, List.set_cons_zero, List.set_cons_succ, Option.toList, List.cons_append, List.nil_append, Nat.add_zero]
    refine V_top (b := 1) (by decide) ?_
    refine V_if_eq (tgt := 26) (by omega) dX7_simulate_21 rfl (fun h_21 => ?_) (fun h_21 => ?_)
    · exfalso; omega
    · refine V_iconst (v := 0) dX7_simulate_24 rfl ?_
      refine V_iret hR dX7_simulate_25 hkc hks ?_
      exact Or.inl ⟨fun y9 => b00 h_10 (by omega), rfl, rfl⟩
  · have hy := b01 h_10
    refine V_iconst (v := 0) dX7_simulate_13 rfl ?_
    refine V_goto (tgt := 18) dX7_simulate_14 rfl ?_
    refine V_callV (C := RX7) (q := 0) (ci := 6) (As := _) (rest := []) [0] (c_X7_refused l G B z 0 (by decide)) vy_X7_refused gX7_simulate_X7_refused rfl rfl rfl rfl rfl rfl rfl ⟨rfl, rfl⟩ ⟨rfl, rfl⟩ ⟨Nat.zero_le _, Nat.zero_le _⟩ rfl dX7_simulate_18 (fun v Y hE => ?_)
    obtain ⟨rfl, rfl⟩ := hE
    refine ⟨rfl, ?_⟩
    dsimp only [vfill, List.set_cons_zero, List.set_cons_succ, Option.toList, List.cons_append, List.nil_append, Nat.add_zero]
    refine V_top (b := 0) (by decide) ?_
    refine V_if_eq (tgt := 26) (by omega) dX7_simulate_21 rfl (fun h_21 => ?_) (fun h_21 => ?_)
    · refine V_aload_n (i := 0) dX7_simulate_26 rfl rfl ?_
      refine V_callV (C := RX7) (q := 0) (ci := 6) (As := []) (rest := []) [0, 1, 2, 3] (c_X7_tryNow l G B (va_up z 0 0) g t b) vy_X7_tryNow gX7_simulate_X7_tryNow rfl rfl rfl rfl rfl rfl rfl ⟨rfl, rfl⟩ ⟨rfl, rfl⟩ ⟨Nat.zero_le _, Nat.zero_le _⟩ rfl dX7_simulate_27 (fun v Y hE => ?_)
      obtain ⟨rfl, rfl⟩ := hE
      refine ⟨rfl, ?_⟩
      dsimp only [vfill, List.set_cons_zero, List.set_cons_succ, Option.toList, List.cons_append, List.nil_append, Nat.add_zero]
      refine V_lload_n (i := 1) dX7_simulate_30 rfl rfl ?_
      refine V_lstore (i := 4) dX7_simulate_31 rfl rfl ?_
      dsimp only [List.set_cons_zero, List.set_cons_succ]
      refine V_iconst (v := 0) dX7_simulate_33 rfl ?_
      refine V_istore (i := 6) dX7_simulate_34 rfl rfl ?_
      dsimp only [List.set_cons_zero, List.set_cons_succ]
      exact LP36 (w + 1) 0 x (rTry (va_up z 0 0) g t b) none (by omega) (by omega) (by omega) (Nat.zero_le w) hq rfl
    · exfalso; omega

end REF10
