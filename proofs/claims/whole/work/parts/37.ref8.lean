section REF8
def rMany (b : Nat → Nat) : Nat := vsum (fun k => if 2 < b k ∧ b k ≠ 4 then 1 else 0) 96

abbrev rX7_contested : Room := { frames := 5, cells := 0, slots := 0, locals := 120 }
theorem vy_X7_contested : vY yX7_contested wsX7_contested cX7_contested 4 (some .int) 1 := ⟨⟨_, rfl⟩, by decide +kernel, by decide +kernel, by decide +kernel⟩
theorem fl_X7_contested_32 : Cond.fieldLink RX7 32 "OrderChainsModel" "by" "[I" ∈ wsX7_contested := List.mem_of_getElem? (i := 3) rfl
theorem il_X7_contested_X7 : ∀ w ∈ wsX70, w ∈ wsX7_contested := fun _ h => List.mem_cons_of_mem _ (List.mem_append_right _ h)
theorem kc_X7_contested_183 : Cond.constantLong RX7 183 (500) ∈ wsX7_contested := List.mem_of_getElem? (i := 1) rfl
theorem fl_X7_contested_19 : Cond.fieldLink RX7 19 "OrderChainsModel" "trial" "[I" ∈ wsX7_contested := List.mem_of_getElem? (i := 2) rfl
set_option maxHeartbeats 4000000 in
set_option maxRecDepth 100000 in
/-- contested -/
theorem c_X7_contested (l : Launch) (G : vG) (B z g t b : Nat → Nat) (w : Nat) (Q : vR3 → Prop) (hQ1 : ∀ t, Q t → gB t.2.1 ∧ t.1 5 < 4294967296) (hQ2 : ∀ t, Q t → Q (rTk t)) (hq : Q (rTry (va_up z 0 0) g t b)) (hQ3 : ∀ t, Q t → ∀ k, k < 96 → t.2.2 k < 8) (hw : w < 4294967296) : Kc l G yX7_contested wsX7_contested rX7_contested [.ref (B 0), .int (nI w)] [mO B z, iA G (B 3) 427 g, iA G (B 4) 427 t, iA G (B 8) 96 b] (fun v Y => (¬ w < 501 ∧ v = some (.int (nI 0)) ∧ Y = [mO B (va_up z 0 1), iA G (B 3) 427 g, iA G (B 4) 427 t, iA G (B 8) 96 b]) ∨ (w < 501 ∧ v = some (.int (nI (rMany (rRun w (rTry (va_up z 0 0) g t b)).2.2.2))) ∧ Y = [mO B (rRun w (rTry (va_up z 0 0) g t b)).2.1, iA G (B 3) 427 g, iA G (B 4) 427 (rRun w (rTry (va_up z 0 0) g t b)).2.2.1, iA G (B 8) 96 (rRun w (rTry (va_up z 0 0) g t b)).2.2.2])) 0 0 := by
  refine V_enter (own := RX7) [some (.ref (B 0)), some (.int (nI w)), none, none] (by decide +kernel) rfl rfl (Nat.le_of_ble_eq_true rfl) rfl (fun Γ hR hin => ?_)
  have hkc : 0 ≤ 0 := Nat.le_refl 0
  have hks : 0 ≤ 0 := Nat.le_refl 0
  have LP44 : ∀ (fuel : Nat) (c : Nat), w < 501 → (∀ k, k < 96 → (rRun w (rTry (va_up z 0 0) g t b)).2.2.2 k < 8) → 97 ≤ c + fuel → c ≤ 96 → V l G (cX7_contested, 4, wsX7_contested, RX7, rX7_contested) Γ 0 0 44 [some (.ref (B 0)), some (.int (nI w)), some (.int (nI (vsum (fun k => if 2 < (rRun w (rTry (va_up z 0 0) g t b)).2.2.2 k ∧ (rRun w (rTry (va_up z 0 0) g t b)).2.2.2 k ≠ 4 then 1 else 0) c))), some (.int (nI c))] [] [mO B (rRun w (rTry (va_up z 0 0) g t b)).2.1, iA G (B 3) 427 g, iA G (B 4) 427 (rRun w (rTry (va_up z 0 0) g t b)).2.2.1, iA G (B 8) 96 (rRun w (rTry (va_up z 0 0) g t b)).2.2.2] := by
    intro fuel
    induction fuel with
    | zero => intro c hy hb8 hf hc; exact absurd hf (by omega)
    | succ fuel ih =>
      intro c hy hb8 hf hc
      refine V_iload_n (i := 3) dX7_contested_44 rfl rfl ?_
      refine V_bipush (v := 96) dX7_contested_45 (by decide) ?_
      refine V_icmp_ge (tgt := 84) (by omega) (by omega) dX7_contested_47 rfl (fun h_47 => ?_) (fun h_47 => ?_)
      · refine V_iload_n (i := 2) dX7_contested_84 rfl rfl ?_
        refine V_iret hR dX7_contested_85 hkc hks ?_
        rw [show c = 96 by omega]
        exact Or.inr ⟨hy, rfl, rfl⟩
      · refine V_iload_n (i := 2) dX7_contested_50 rfl rfl ?_
        refine V_aload_n (i := 0) dX7_contested_51 rfl rfl ?_
        refine V_get (C := RX7) (T := TX7) (N := 17) (ci := 6) (q := 0) (ref := "OrderChainsModel") 11 rfl il_X7_contested_X7 rfl rfl fl_X7_contested_32 rfl rfl dX7_contested_52 ?_
        refine V_iload_n (i := 3) dX7_contested_55 rfl rfl ?_
        refine V_iald (q := 3) rfl (by omega) rfl dX7_contested_56 ?_
        refine V_iconst (v := 2) dX7_contested_57 rfl ?_
        refine V_icmp_le (tgt := 75) (by have := hb8 c (by omega); omega) (by omega) dX7_contested_58 rfl (fun h_58 => ?_) (fun h_58 => ?_)
        · refine V_iconst (v := 0) dX7_contested_75 rfl ?_
          refine V_iadd dX7_contested_76 ?_
          refine V_istore_n (i := 2) dX7_contested_77 rfl rfl rfl ?_
          dsimp only [List.set_cons_zero, List.set_cons_succ]
          refine V_iinc dX7_contested_78 rfl (nI_1 _) rfl rfl ?_
          dsimp only [List.set_cons_zero, List.set_cons_succ]
          refine V_goto (tgt := 44) dX7_contested_81 rfl ?_
          first | (have e9 : vsum (fun k => if 2 < (rRun w (rTry (va_up z 0 0) g t b)).2.2.2 k ∧ (rRun w (rTry (va_up z 0 0) g t b)).2.2.2 k ≠ 4 then 1 else 0) (c + 1) = vsum (fun k => if 2 < (rRun w (rTry (va_up z 0 0) g t b)).2.2.2 k ∧ (rRun w (rTry (va_up z 0 0) g t b)).2.2.2 k ≠ 4 then 1 else 0) c + 1 := congrArg (vsum (fun k => if 2 < (rRun w (rTry (va_up z 0 0) g t b)).2.2.2 k ∧ (rRun w (rTry (va_up z 0 0) g t b)).2.2.2 k ≠ 4 then 1 else 0) c + ·) (if_pos ⟨Nat.lt_of_not_le h_58, h_68⟩); rw [← e9]; exact ih (c + 1) hy hb8 (by omega) (by omega)) | (have e9 : vsum (fun k => if 2 < (rRun w (rTry (va_up z 0 0) g t b)).2.2.2 k ∧ (rRun w (rTry (va_up z 0 0) g t b)).2.2.2 k ≠ 4 then 1 else 0) (c + 1) = vsum (fun k => if 2 < (rRun w (rTry (va_up z 0 0) g t b)).2.2.2 k ∧ (rRun w (rTry (va_up z 0 0) g t b)).2.2.2 k ≠ 4 then 1 else 0) c + 0 := congrArg (vsum (fun k => if 2 < (rRun w (rTry (va_up z 0 0) g t b)).2.2.2 k ∧ (rRun w (rTry (va_up z 0 0) g t b)).2.2.2 k ≠ 4 then 1 else 0) c + ·) (if_neg (fun y9 => by omega)); rw [← e9]; exact ih (c + 1) hy hb8 (by omega) (by omega))
        · refine V_aload_n (i := 0) dX7_contested_61 rfl rfl ?_
          refine V_get (C := RX7) (T := TX7) (N := 17) (ci := 6) (q := 0) (ref := "OrderChainsModel") 11 rfl il_X7_contested_X7 rfl rfl fl_X7_contested_32 rfl rfl dX7_contested_62 ?_
          refine V_iload_n (i := 3) dX7_contested_65 rfl rfl ?_
          refine V_iald (q := 3) rfl (by omega) rfl dX7_contested_66 ?_
          refine V_iconst (v := 4) dX7_contested_67 rfl ?_
          refine V_icmp_eq (tgt := 75) (by have := hb8 c (by omega); omega) (by omega) dX7_contested_68 rfl (fun h_68 => ?_) (fun h_68 => ?_)
          · refine V_iconst (v := 0) dX7_contested_75 rfl ?_
            refine V_iadd dX7_contested_76 ?_
            refine V_istore_n (i := 2) dX7_contested_77 rfl rfl rfl ?_
            dsimp only [List.set_cons_zero, List.set_cons_succ]
            refine V_iinc dX7_contested_78 rfl (nI_1 _) rfl rfl ?_
            dsimp only [List.set_cons_zero, List.set_cons_succ]
            refine V_goto (tgt := 44) dX7_contested_81 rfl ?_
            first | (have e9 : vsum (fun k => if 2 < (rRun w (rTry (va_up z 0 0) g t b)).2.2.2 k ∧ (rRun w (rTry (va_up z 0 0) g t b)).2.2.2 k ≠ 4 then 1 else 0) (c + 1) = vsum (fun k => if 2 < (rRun w (rTry (va_up z 0 0) g t b)).2.2.2 k ∧ (rRun w (rTry (va_up z 0 0) g t b)).2.2.2 k ≠ 4 then 1 else 0) c + 1 := congrArg (vsum (fun k => if 2 < (rRun w (rTry (va_up z 0 0) g t b)).2.2.2 k ∧ (rRun w (rTry (va_up z 0 0) g t b)).2.2.2 k ≠ 4 then 1 else 0) c + ·) (if_pos ⟨Nat.lt_of_not_le h_58, h_68⟩); rw [← e9]; exact ih (c + 1) hy hb8 (by omega) (by omega)) | (have e9 : vsum (fun k => if 2 < (rRun w (rTry (va_up z 0 0) g t b)).2.2.2 k ∧ (rRun w (rTry (va_up z 0 0) g t b)).2.2.2 k ≠ 4 then 1 else 0) (c + 1) = vsum (fun k => if 2 < (rRun w (rTry (va_up z 0 0) g t b)).2.2.2 k ∧ (rRun w (rTry (va_up z 0 0) g t b)).2.2.2 k ≠ 4 then 1 else 0) c + 0 := congrArg (vsum (fun k => if 2 < (rRun w (rTry (va_up z 0 0) g t b)).2.2.2 k ∧ (rRun w (rTry (va_up z 0 0) g t b)).2.2.2 k ≠ 4 then 1 else 0) c + ·) (if_neg (fun y9 => by omega)); rw [← e9]; exact ih (c + 1) hy hb8 (by omega) (by omega))
          · refine V_iconst (v := 1) dX7_contested_71 rfl ?_
            refine V_goto (tgt := 76) dX7_contested_72 rfl ?_
            refine V_iadd dX7_contested_76 ?_
            refine V_istore_n (i := 2) dX7_contested_77 rfl rfl rfl ?_
            dsimp only [List.set_cons_zero, List.set_cons_succ]
            refine V_iinc dX7_contested_78 rfl (nI_1 _) rfl rfl ?_
            dsimp only [List.set_cons_zero, List.set_cons_succ]
            refine V_goto (tgt := 44) dX7_contested_81 rfl ?_
            first | (have e9 : vsum (fun k => if 2 < (rRun w (rTry (va_up z 0 0) g t b)).2.2.2 k ∧ (rRun w (rTry (va_up z 0 0) g t b)).2.2.2 k ≠ 4 then 1 else 0) (c + 1) = vsum (fun k => if 2 < (rRun w (rTry (va_up z 0 0) g t b)).2.2.2 k ∧ (rRun w (rTry (va_up z 0 0) g t b)).2.2.2 k ≠ 4 then 1 else 0) c + 1 := congrArg (vsum (fun k => if 2 < (rRun w (rTry (va_up z 0 0) g t b)).2.2.2 k ∧ (rRun w (rTry (va_up z 0 0) g t b)).2.2.2 k ≠ 4 then 1 else 0) c + ·) (if_pos ⟨Nat.lt_of_not_le h_58, h_68⟩); rw [← e9]; exact ih (c + 1) hy hb8 (by omega) (by omega)) | (have e9 : vsum (fun k => if 2 < (rRun w (rTry (va_up z 0 0) g t b)).2.2.2 k ∧ (rRun w (rTry (va_up z 0 0) g t b)).2.2.2 k ≠ 4 then 1 else 0) (c + 1) = vsum (fun k => if 2 < (rRun w (rTry (va_up z 0 0) g t b)).2.2.2 k ∧ (rRun w (rTry (va_up z 0 0) g t b)).2.2.2 k ≠ 4 then 1 else 0) c + 0 := congrArg (vsum (fun k => if 2 < (rRun w (rTry (va_up z 0 0) g t b)).2.2.2 k ∧ (rRun w (rTry (va_up z 0 0) g t b)).2.2.2 k ≠ 4 then 1 else 0) c + ·) (if_neg (fun y9 => by omega)); rw [← e9]; exact ih (c + 1) hy hb8 (by omega) (by omega))
  refine V_aload_n (i := 0) dX7_contested_0 rfl rfl ?_
  refine V_iload_n (i := 1) dX7_contested_1 rfl rfl ?_
  refine V_i2l dX7_contested_2 ?_
  refine V_lconst dX7_contested_3 rfl ?_
  refine V_ldc2 (v := 500) dX7_contested_4 kc_X7_contested_183 ?_
  refine V_callS (As := _) (rest := _) [] (c_X7_inN l G (w) 0 500 _ _ (by decide) (by decide) hw (by decide)) vy_X7_in gX7_contested_X7_in rfl rfl rfl rfl ⟨rfl, rfl⟩ ⟨rfl, rfl⟩ ⟨Nat.zero_le _, Nat.zero_le _⟩ rfl dX7_contested_7 (fun v Y hE => ?_)
  obtain ⟨rfl, rfl⟩ := hE
  refine ⟨rfl, ?_⟩
  dsimp only [vfill, List.set_cons_zero, List.set_cons_succ, Option.toList, List.cons_append, List.nil_append, Nat.add_zero]
  refine V_if_eq (tgt := 17) (by split <;> decide) dX7_contested_10 rfl (fun h_10 => ?_) (fun h_10 => ?_)
  · refine V_iconst (v := 1) dX7_contested_17 rfl ?_
    refine V_callV (C := RX7) (q := 0) (ci := 6) (As := _) (rest := []) [0] (c_X7_refused l G B z 1 (by decide)) vy_X7_refused gX7_contested_X7_refused rfl rfl rfl rfl rfl rfl rfl ⟨rfl, rfl⟩ ⟨rfl, rfl⟩ ⟨Nat.zero_le _, Nat.zero_le _⟩ rfl dX7_contested_18 (fun v Y hE => ?_)
    obtain ⟨rfl, rfl⟩ := hE
    refine ⟨rfl, ?_⟩
    dsimp only [vfill, List.set_cons_zero, List.set_cons_succ, Option.toList, List.cons_append, List.nil_append, Nat.add_zero]
    refine V_top (b := 1) (by decide) ?_
    refine V_if_eq (tgt := 26) (by omega) dX7_contested_21 rfl (fun h_21 => ?_) (fun h_21 => ?_)
    · exfalso; omega
    · refine V_iconst (v := 0) dX7_contested_24 rfl ?_
      refine V_iret hR dX7_contested_25 hkc hks ?_
      exact Or.inl ⟨fun y9 => b00 h_10 (by omega), rfl, rfl⟩
  · have hy := b01 h_10
    refine V_iconst (v := 0) dX7_contested_13 rfl ?_
    refine V_goto (tgt := 18) dX7_contested_14 rfl ?_
    refine V_callV (C := RX7) (q := 0) (ci := 6) (As := _) (rest := []) [0] (c_X7_refused l G B z 0 (by decide)) vy_X7_refused gX7_contested_X7_refused rfl rfl rfl rfl rfl rfl rfl ⟨rfl, rfl⟩ ⟨rfl, rfl⟩ ⟨Nat.zero_le _, Nat.zero_le _⟩ rfl dX7_contested_18 (fun v Y hE => ?_)
    obtain ⟨rfl, rfl⟩ := hE
    refine ⟨rfl, ?_⟩
    dsimp only [vfill, List.set_cons_zero, List.set_cons_succ, Option.toList, List.cons_append, List.nil_append, Nat.add_zero]
    refine V_top (b := 0) (by decide) ?_
    refine V_if_eq (tgt := 26) (by omega) dX7_contested_21 rfl (fun h_21 => ?_) (fun h_21 => ?_)
    · refine V_aload_n (i := 0) dX7_contested_26 rfl rfl ?_
      refine V_callV (C := RX7) (q := 0) (ci := 6) (As := []) (rest := []) [0, 1, 2, 3] (c_X7_tryNow l G B (va_up z 0 0) g t b) vy_X7_tryNow gX7_contested_X7_tryNow rfl rfl rfl rfl rfl rfl rfl ⟨rfl, rfl⟩ ⟨rfl, rfl⟩ ⟨Nat.zero_le _, Nat.zero_le _⟩ rfl dX7_contested_27 (fun v Y hE => ?_)
      obtain ⟨rfl, rfl⟩ := hE
      refine ⟨rfl, ?_⟩
      dsimp only [vfill, List.set_cons_zero, List.set_cons_succ, Option.toList, List.cons_append, List.nil_append, Nat.add_zero]
      refine V_aload_n (i := 0) dX7_contested_30 rfl rfl ?_
      refine V_aload_n (i := 0) dX7_contested_31 rfl rfl ?_
      refine V_get (C := RX7) (T := TX7) (N := 17) (ci := 6) (q := 0) (ref := "OrderChainsModel") 6 rfl il_X7_contested_X7 rfl rfl fl_X7_contested_19 rfl rfl dX7_contested_32 ?_
      refine V_iload_n (i := 1) dX7_contested_35 rfl rfl ?_
      refine V_callV (C := RX7) (q := 0) (ci := 6) (As := _) (rest := []) [0, 2, 3] (c_X7_goOnFor l G B (rTry (va_up z 0 0) g t b).1 (rTry (va_up z 0 0) g t b).2.2 (B 4) (rTry (va_up z 0 0) g t b).2.1 w (by omega) Q hQ1 hQ2 hq) vy_X7_goOnFor gX7_contested_X7_goOnFor rfl rfl rfl rfl rfl rfl rfl ⟨rfl, rfl⟩ ⟨rfl, rfl⟩ ⟨Nat.zero_le _, Nat.zero_le _⟩ rfl dX7_contested_36 (fun v Y hE => ?_)
      obtain ⟨rfl, rfl⟩ := hE
      refine ⟨rfl, ?_⟩
      dsimp only [vfill, w3, List.set_cons_zero, List.set_cons_succ, Option.toList, List.cons_append, List.nil_append, Nat.add_zero]
      refine V_pop dX7_contested_39 rfl ?_
      refine V_iconst (v := 0) dX7_contested_40 rfl ?_
      refine V_istore_n (i := 2) dX7_contested_41 rfl rfl rfl ?_
      dsimp only [List.set_cons_zero, List.set_cons_succ]
      refine V_iconst (v := 0) dX7_contested_42 rfl ?_
      refine V_istore_n (i := 3) dX7_contested_43 rfl rfl rfl ?_
      dsimp only [List.set_cons_zero, List.set_cons_succ]
      exact LP44 97 0 (show w < 501 by omega) (hQ3 _ (rRun_Q hQ2 w _ hq)) (by omega) (by omega)
    · exfalso; omega

abbrev rX7_firstEdit : Room := { frames := 4, cells := 0, slots := 0, locals := 97 }
theorem vy_X7_firstEdit : vY yX7_firstEdit wsX7_firstEdit cX7_firstEdit 2 (some .int) 0 := ⟨⟨_, rfl⟩, by decide +kernel, by decide +kernel, by decide +kernel⟩
theorem fl_X7_firstEdit_56 : Cond.fieldLink RX7 56 "OrderChainsModel" "firstCell" "I" ∈ wsX7_firstEdit := List.mem_of_getElem? (i := 1) rfl
theorem il_X7_firstEdit_X7 : ∀ w ∈ wsX70, w ∈ wsX7_firstEdit := fun _ h => List.mem_cons_of_mem _ (List.mem_append_right _ h)
theorem fl_X7_firstEdit_53 : Cond.fieldLink RX7 53 "OrderChainsModel" "firstChannel" "I" ∈ wsX7_firstEdit := List.mem_of_getElem? (i := 3) rfl
theorem fl_X7_firstEdit_19 : Cond.fieldLink RX7 19 "OrderChainsModel" "trial" "[I" ∈ wsX7_firstEdit := List.mem_of_getElem? (i := 2) rfl
set_option maxHeartbeats 4000000 in
set_option maxRecDepth 100000 in
/-- firstEdit -/
theorem c_X7_firstEdit (l : Launch) (G : vG) (B z g t b : Nat → Nat) (Q : vR3 → Prop) (hQ1 : ∀ t, Q t → gB t.2.1 ∧ t.1 5 < 4294967296) (hQ2 : ∀ t, Q t → Q (rTk t)) (hq : Q (rTry z g t b)) : Kc l G yX7_firstEdit wsX7_firstEdit rX7_firstEdit [.ref (B 0)] [mO B z, iA G (B 3) 427 g, iA G (B 4) 427 t, iA G (B 8) 96 b] (fun v Y => v = some (.int (nI (if (rFE 500 (rTry z g t b)).1 5 = 4294967287 then 4294967287 else 100 * (rFE 500 (rTry z g t b)).1 4 + (rFE 500 (rTry z g t b)).1 5))) ∧ Y = [mO B (rFE 500 (rTry z g t b)).1, iA G (B 3) 427 g, iA G (B 4) 427 (rFE 500 (rTry z g t b)).2.1, iA G (B 8) 96 (rFE 500 (rTry z g t b)).2.2]) 0 0 := by
  refine V_enter (own := RX7) [some (.ref (B 0)), none] (by decide +kernel) rfl rfl (Nat.le_of_ble_eq_true rfl) rfl (fun Γ hR hin => ?_)
  have hkc : 0 ≤ 0 := Nat.le_refl 0
  have hks : 0 ≤ 0 := Nat.le_refl 0
  have LP6 : ∀ (fuel : Nat) (k : Nat) (s : vR3), 501 ≤ k + fuel → k ≤ 500 → Q s → (rFE 500 (rTry z g t b)) = rFE (500 - k) s → V l G (cX7_firstEdit, 2, wsX7_firstEdit, RX7, rX7_firstEdit) Γ 0 0 6 [some (.ref (B 0)), some (.int (nI k))] [] [mO B s.1, iA G (B 3) 427 g, iA G (B 4) 427 s.2.1, iA G (B 8) 96 s.2.2] := by
    intro fuel
    induction fuel with
    | zero => intro k s hf hk hqs hfl; exact absurd hf (by omega)
    | succ fuel ih =>
      intro k s hf hk hqs hfl
      refine V_iload_n (i := 1) dX7_firstEdit_6 rfl rfl ?_
      refine V_sipush (v := 500) dX7_firstEdit_7 (by decide) ?_
      refine V_icmp_ge (tgt := 37) (by omega) (by omega) dX7_firstEdit_10 rfl (fun h_10 => ?_) (fun h_10 => ?_)
      · refine V_aload_n (i := 0) dX7_firstEdit_37 rfl rfl ?_
        refine V_get (C := RX7) (T := TX7) (N := 17) (ci := 6) (q := 0) (ref := "OrderChainsModel") 13 rfl il_X7_firstEdit_X7 rfl rfl fl_X7_firstEdit_56 rfl rfl dX7_firstEdit_38 ?_
        refine V_bipush (v := 4294967287) dX7_firstEdit_41 (by decide) ?_
        refine V_icmp_ne (tgt := 51) (hQ1 s hqs).2 (by omega) dX7_firstEdit_43 rfl (fun h_43 => ?_) (fun h_43 => ?_)
        · refine V_bipush (v := 100) dX7_firstEdit_51 (by decide) ?_
          refine V_aload_n (i := 0) dX7_firstEdit_53 rfl rfl ?_
          refine V_get (C := RX7) (T := TX7) (N := 17) (ci := 6) (q := 0) (ref := "OrderChainsModel") 12 rfl il_X7_firstEdit_X7 rfl rfl fl_X7_firstEdit_53 rfl rfl dX7_firstEdit_54 ?_
          refine V_imul dX7_firstEdit_57 ?_
          refine V_aload_n (i := 0) dX7_firstEdit_58 rfl rfl ?_
          refine V_get (C := RX7) (T := TX7) (N := 17) (ci := 6) (q := 0) (ref := "OrderChainsModel") 13 rfl il_X7_firstEdit_X7 rfl rfl fl_X7_firstEdit_56 rfl rfl dX7_firstEdit_59 ?_
          refine V_iadd dX7_firstEdit_62 ?_
          refine V_iret hR dX7_firstEdit_63 hkc hks ?_
          have hs9 : (rFE 500 (rTry z g t b)) = s := by
            rw [hfl]
            first | (rw [show 500 - k = 0 by omega]; rfl) | exact rFE_f h_19
          rw [hs9]
          first | (rw [if_pos h_43]; exact ⟨rfl, rfl⟩) | (rw [if_neg h_43]; exact ⟨rfl, rfl⟩)
        · refine V_bipush (v := 4294967287) dX7_firstEdit_46 (by decide) ?_
          refine V_goto (tgt := 63) dX7_firstEdit_48 rfl ?_
          refine V_iret hR dX7_firstEdit_63 hkc hks ?_
          have hs9 : (rFE 500 (rTry z g t b)) = s := by
            rw [hfl]
            first | (rw [show 500 - k = 0 by omega]; rfl) | exact rFE_f h_19
          rw [hs9]
          first | (rw [if_pos h_43]; exact ⟨rfl, rfl⟩) | (rw [if_neg h_43]; exact ⟨rfl, rfl⟩)
      · refine V_aload_n (i := 0) dX7_firstEdit_13 rfl rfl ?_
        refine V_get (C := RX7) (T := TX7) (N := 17) (ci := 6) (q := 0) (ref := "OrderChainsModel") 13 rfl il_X7_firstEdit_X7 rfl rfl fl_X7_firstEdit_56 rfl rfl dX7_firstEdit_14 ?_
        refine V_bipush (v := 4294967287) dX7_firstEdit_17 (by decide) ?_
        refine V_icmp_ne (tgt := 37) (hQ1 s hqs).2 (by omega) dX7_firstEdit_19 rfl (fun h_19 => ?_) (fun h_19 => ?_)
        · refine V_aload_n (i := 0) dX7_firstEdit_37 rfl rfl ?_
          refine V_get (C := RX7) (T := TX7) (N := 17) (ci := 6) (q := 0) (ref := "OrderChainsModel") 13 rfl il_X7_firstEdit_X7 rfl rfl fl_X7_firstEdit_56 rfl rfl dX7_firstEdit_38 ?_
          refine V_bipush (v := 4294967287) dX7_firstEdit_41 (by decide) ?_
          refine V_icmp_ne (tgt := 51) (hQ1 s hqs).2 (by omega) dX7_firstEdit_43 rfl (fun h_43 => ?_) (fun h_43 => ?_)
          · refine V_bipush (v := 100) dX7_firstEdit_51 (by decide) ?_
            refine V_aload_n (i := 0) dX7_firstEdit_53 rfl rfl ?_
            refine V_get (C := RX7) (T := TX7) (N := 17) (ci := 6) (q := 0) (ref := "OrderChainsModel") 12 rfl il_X7_firstEdit_X7 rfl rfl fl_X7_firstEdit_53 rfl rfl dX7_firstEdit_54 ?_
            refine V_imul dX7_firstEdit_57 ?_
            refine V_aload_n (i := 0) dX7_firstEdit_58 rfl rfl ?_
            refine V_get (C := RX7) (T := TX7) (N := 17) (ci := 6) (q := 0) (ref := "OrderChainsModel") 13 rfl il_X7_firstEdit_X7 rfl rfl fl_X7_firstEdit_56 rfl rfl dX7_firstEdit_59 ?_
            refine V_iadd dX7_firstEdit_62 ?_
            refine V_iret hR dX7_firstEdit_63 hkc hks ?_
            have hs9 : (rFE 500 (rTry z g t b)) = s := by
              rw [hfl]
              first | (rw [show 500 - k = 0 by omega]; rfl) | exact rFE_f h_19
            rw [hs9]
            first | (rw [if_pos h_43]; exact ⟨rfl, rfl⟩) | (rw [if_neg h_43]; exact ⟨rfl, rfl⟩)
          · refine V_bipush (v := 4294967287) dX7_firstEdit_46 (by decide) ?_
            refine V_goto (tgt := 63) dX7_firstEdit_48 rfl ?_
            refine V_iret hR dX7_firstEdit_63 hkc hks ?_
            have hs9 : (rFE 500 (rTry z g t b)) = s := by
              rw [hfl]
              first | (rw [show 500 - k = 0 by omega]; rfl) | exact rFE_f h_19
            rw [hs9]
            first | (rw [if_pos h_43]; exact ⟨rfl, rfl⟩) | (rw [if_neg h_43]; exact ⟨rfl, rfl⟩)
        · refine V_aload_n (i := 0) dX7_firstEdit_22 rfl rfl ?_
          refine V_aload_n (i := 0) dX7_firstEdit_23 rfl rfl ?_
          refine V_get (C := RX7) (T := TX7) (N := 17) (ci := 6) (q := 0) (ref := "OrderChainsModel") 6 rfl il_X7_firstEdit_X7 rfl rfl fl_X7_firstEdit_19 rfl rfl dX7_firstEdit_24 ?_
          refine V_callV (C := RX7) (q := 0) (ci := 6) (As := _) (rest := []) [0, 2, 3] (c_X7_goOn l G B s.1 s.2.2 (B 4) s.2.1 (hQ1 s hqs).1 (hQ1 s hqs).2) vy_X7_goOn gX7_firstEdit_X7_goOn rfl rfl rfl rfl rfl rfl rfl ⟨rfl, rfl⟩ ⟨rfl, rfl⟩ ⟨Nat.zero_le _, Nat.zero_le _⟩ rfl dX7_firstEdit_27 (fun v Y hE => ?_)
          obtain ⟨rfl, rfl⟩ := hE
          refine ⟨rfl, ?_⟩
          dsimp only [vfill, w3, List.set_cons_zero, List.set_cons_succ, Option.toList, List.cons_append, List.nil_append, Nat.add_zero]
          refine V_pop dX7_firstEdit_30 rfl ?_
          refine V_iinc dX7_firstEdit_31 rfl (nI_1 _) rfl rfl ?_
          dsimp only [List.set_cons_zero, List.set_cons_succ]
          refine V_goto (tgt := 6) dX7_firstEdit_34 rfl ?_
          exact ih (k + 1) (rTk s) (by omega) (by omega) (hQ2 s hqs) (by rw [hfl, show 500 - k = 500 - (k + 1) + 1 by omega, rFE_t h_19])
  refine V_aload_n (i := 0) dX7_firstEdit_0 rfl rfl ?_
  refine V_callV (C := RX7) (q := 0) (ci := 6) (As := []) (rest := []) [0, 1, 2, 3] (c_X7_tryNow l G B z g t b) vy_X7_tryNow gX7_firstEdit_X7_tryNow rfl rfl rfl rfl rfl rfl rfl ⟨rfl, rfl⟩ ⟨rfl, rfl⟩ ⟨Nat.zero_le _, Nat.zero_le _⟩ rfl dX7_firstEdit_1 (fun v Y hE => ?_)
  obtain ⟨rfl, rfl⟩ := hE
  refine ⟨rfl, ?_⟩
  dsimp only [vfill, List.set_cons_zero, List.set_cons_succ, Option.toList, List.cons_append, List.nil_append, Nat.add_zero]
  refine V_iconst (v := 0) dX7_firstEdit_4 rfl ?_
  refine V_istore_n (i := 1) dX7_firstEdit_5 rfl rfl rfl ?_
  dsimp only [List.set_cons_zero, List.set_cons_succ]
  exact LP6 501 0 (rTry z g t b) (by omega) (by omega) hq rfl

abbrev rX7_save : Room := { frames := 1, cells := 0, slots := 0, locals := 25 }
theorem vy_X7_save : vY yX7_save wsX7_save cX7_save 2 (some .int) 1 := ⟨⟨_, rfl⟩, by decide +kernel, by decide +kernel, by decide +kernel⟩
theorem fl_X7_save_16 : Cond.fieldLink RX7 16 "OrderChainsModel" "now" "[I" ∈ wsX7_save := List.mem_of_getElem? (i := 1) rfl
theorem il_X7_save_X7 : ∀ w ∈ wsX70, w ∈ wsX7_save := fun _ h => List.mem_cons_of_mem _ (List.mem_append_right _ h)
theorem fl_X7_save_25 : Cond.fieldLink RX7 25 "OrderChainsModel" "kept" "[I" ∈ wsX7_save := List.mem_of_getElem? (i := 2) rfl
theorem fl_X7_save_28 : Cond.fieldLink RX7 28 "OrderChainsModel" "isKept" "[Z" ∈ wsX7_save := List.mem_of_getElem? (i := 3) rfl
set_option maxHeartbeats 4000000 in
set_option maxRecDepth 100000 in
/-- save -/
theorem c_X7_save (l : Launch) (G : vG) (B z g kp ik : Nat → Nat) (w : Nat) (hw : w < 4294967296) : Kc l G yX7_save wsX7_save rX7_save [.ref (B 0), .int (nI w)] [mO B z, iA G (B 3) 427 g, iA G (B 6) 854 kp, zA G (B 7) 2 ik] (fun v Y => (¬ w < 2 ∧ v = some (.int (nI 0)) ∧ Y = [mO B (va_up z 0 1), iA G (B 3) 427 g, iA G (B 6) 854 kp, zA G (B 7) 2 ik]) ∨ (w < 2 ∧ v = some (.int (nI (g 423))) ∧ Y = [mO B (va_up z 0 0), iA G (B 3) 427 g, iA G (B 6) 854 (cpE 427 g 0 kp (427 * w)), zA G (B 7) 2 (va_up ik w 1)])) 0 0 := by
  refine V_enter (own := RX7) [some (.ref (B 0)), some (.int (nI w))] (by decide +kernel) rfl rfl (Nat.le_of_ble_eq_true rfl) rfl (fun Γ hR hin => ?_)
  have hkc : 0 ≤ 0 := Nat.le_refl 0
  have hks : 0 ≤ 0 := Nat.le_refl 0
  refine V_aload_n (i := 0) dX7_save_0 rfl rfl ?_
  refine V_iload_n (i := 1) dX7_save_1 rfl rfl ?_
  refine V_i2l dX7_save_2 ?_
  refine V_lconst dX7_save_3 rfl ?_
  refine V_lconst dX7_save_4 rfl ?_
  refine V_callS (As := _) (rest := _) [] (c_X7_inN l G (w) 0 1 _ _ (by decide) (by decide) hw (by decide)) vy_X7_in gX7_save_X7_in rfl rfl rfl rfl ⟨rfl, rfl⟩ ⟨rfl, rfl⟩ ⟨Nat.zero_le _, Nat.zero_le _⟩ rfl dX7_save_5 (fun v Y hE => ?_)
  obtain ⟨rfl, rfl⟩ := hE
  refine ⟨rfl, ?_⟩
  dsimp only [vfill, List.set_cons_zero, List.set_cons_succ, Option.toList, List.cons_append, List.nil_append, Nat.add_zero]
  refine V_if_eq (tgt := 15) (by split <;> decide) dX7_save_8 rfl (fun h_8 => ?_) (fun h_8 => ?_)
  · refine V_iconst (v := 1) dX7_save_15 rfl ?_
    refine V_callV (C := RX7) (q := 0) (ci := 6) (As := _) (rest := []) [0] (c_X7_refused l G B z 1 (by decide)) vy_X7_refused gX7_save_X7_refused rfl rfl rfl rfl rfl rfl rfl ⟨rfl, rfl⟩ ⟨rfl, rfl⟩ ⟨Nat.zero_le _, Nat.zero_le _⟩ rfl dX7_save_16 (fun v Y hE => ?_)
    obtain ⟨rfl, rfl⟩ := hE
    refine ⟨rfl, ?_⟩
    dsimp only [vfill, List.set_cons_zero, List.set_cons_succ, Option.toList, List.cons_append, List.nil_append, Nat.add_zero]
    refine V_top (b := 1) (by decide) ?_
    refine V_if_eq (tgt := 24) (by omega) dX7_save_19 rfl (fun h_19 => ?_) (fun h_19 => ?_)
    · exfalso; omega
    · refine V_iconst (v := 0) dX7_save_22 rfl ?_
      refine V_iret hR dX7_save_23 hkc hks ?_
      exact Or.inl ⟨fun y9 => b00 h_8 (by omega), rfl, rfl⟩
  · have hy := b01 h_8
    refine V_iconst (v := 0) dX7_save_11 rfl ?_
    refine V_goto (tgt := 16) dX7_save_12 rfl ?_
    refine V_callV (C := RX7) (q := 0) (ci := 6) (As := _) (rest := []) [0] (c_X7_refused l G B z 0 (by decide)) vy_X7_refused gX7_save_X7_refused rfl rfl rfl rfl rfl rfl rfl ⟨rfl, rfl⟩ ⟨rfl, rfl⟩ ⟨Nat.zero_le _, Nat.zero_le _⟩ rfl dX7_save_16 (fun v Y hE => ?_)
    obtain ⟨rfl, rfl⟩ := hE
    refine ⟨rfl, ?_⟩
    dsimp only [vfill, List.set_cons_zero, List.set_cons_succ, Option.toList, List.cons_append, List.nil_append, Nat.add_zero]
    refine V_top (b := 0) (by decide) ?_
    refine V_if_eq (tgt := 24) (by omega) dX7_save_19 rfl (fun h_19 => ?_) (fun h_19 => ?_)
    · refine V_aload_n (i := 0) dX7_save_24 rfl rfl ?_
      refine V_get (C := RX7) (T := TX7) (N := 17) (ci := 6) (q := 0) (ref := "OrderChainsModel") 5 rfl il_X7_save_X7 rfl rfl fl_X7_save_16 rfl rfl dX7_save_25 ?_
      refine V_iconst (v := 0) dX7_save_28 rfl ?_
      refine V_aload_n (i := 0) dX7_save_29 rfl rfl ?_
      refine V_get (C := RX7) (T := TX7) (N := 17) (ci := 6) (q := 0) (ref := "OrderChainsModel") 9 rfl il_X7_save_X7 rfl rfl fl_X7_save_25 rfl rfl dX7_save_30 ?_
      refine V_sipush (v := 427) dX7_save_33 (by decide) ?_
      refine V_iload_n (i := 1) dX7_save_36 rfl rfl ?_
      refine V_imul dX7_save_37 ?_
      refine V_callS (As := _) (rest := []) [1, 2] (c_X7_copyEngine l G (B 3) (B 6) 427 854 0 (427 * w) g kp rfl rfl (by omega) (by omega)) vy_X7_copyEngine gX7_save_X7_copyEngine rfl rfl rfl rfl ⟨rfl, rfl⟩ ⟨rfl, rfl⟩ ⟨Nat.zero_le _, Nat.zero_le _⟩ rfl dX7_save_38 (fun v Y hE => ?_)
      obtain ⟨rfl, rfl⟩ := hE
      refine ⟨rfl, ?_⟩
      dsimp only [vfill, List.set_cons_zero, List.set_cons_succ, Option.toList, List.cons_append, List.nil_append, Nat.add_zero]
      refine V_aload_n (i := 0) dX7_save_41 rfl rfl ?_
      refine V_get (C := RX7) (T := TX7) (N := 17) (ci := 6) (q := 0) (ref := "OrderChainsModel") 10 rfl il_X7_save_X7 rfl rfl fl_X7_save_28 rfl rfl dX7_save_42 ?_
      refine V_iload_n (i := 1) dX7_save_45 rfl rfl ?_
      refine V_iconst (v := 1) dX7_save_46 rfl ?_
      refine V_zast (q := 3) rfl (by omega) rfl (by omega) dX7_save_47 ?_
      dsimp only [List.set_cons_zero, List.set_cons_succ]
      refine V_aload_n (i := 0) dX7_save_48 rfl rfl ?_
      refine V_get (C := RX7) (T := TX7) (N := 17) (ci := 6) (q := 0) (ref := "OrderChainsModel") 5 rfl il_X7_save_X7 rfl rfl fl_X7_save_16 rfl rfl dX7_save_49 ?_
      refine V_sipush (v := 423) dX7_save_52 (by decide) ?_
      refine V_iald (q := 1) rfl (by omega) rfl dX7_save_55 ?_
      refine V_iret hR dX7_save_56 hkc hks ?_
      exact Or.inr ⟨by omega, rfl, rfl⟩
    · exfalso; omega

abbrev rX7_restore : Room := { frames := 1, cells := 0, slots := 0, locals := 25 }
theorem vy_X7_restore : vY yX7_restore wsX7_restore cX7_restore 2 (some .int) 1 := ⟨⟨_, rfl⟩, by decide +kernel, by decide +kernel, by decide +kernel⟩
theorem fl_X7_restore_28 : Cond.fieldLink RX7 28 "OrderChainsModel" "isKept" "[Z" ∈ wsX7_restore := List.mem_of_getElem? (i := 1) rfl
theorem il_X7_restore_X7 : ∀ w ∈ wsX70, w ∈ wsX7_restore := fun _ h => List.mem_cons_of_mem _ (List.mem_append_right _ h)
theorem fl_X7_restore_25 : Cond.fieldLink RX7 25 "OrderChainsModel" "kept" "[I" ∈ wsX7_restore := List.mem_of_getElem? (i := 2) rfl
theorem fl_X7_restore_16 : Cond.fieldLink RX7 16 "OrderChainsModel" "now" "[I" ∈ wsX7_restore := List.mem_of_getElem? (i := 3) rfl
theorem fl_X7_restore_38 : Cond.fieldLink RX7 38 "OrderChainsModel" "acts" "I" ∈ wsX7_restore := List.mem_of_getElem? (i := 4) rfl
set_option maxHeartbeats 4000000 in
set_option maxRecDepth 100000 in
/-- restore -/
theorem c_X7_restore (l : Launch) (G : vG) (B z g kp ik : Nat → Nat) (w : Nat) (hw : w < 4294967296) (hk : ∀ k, k < 2 → ik k < 2) : Kc l G yX7_restore wsX7_restore rX7_restore [.ref (B 0), .int (nI w)] [mO B z, iA G (B 3) 427 g, iA G (B 6) 854 kp, zA G (B 7) 2 ik] (fun v Y => (¬ w < 2 ∧ v = some (.int (nI 0)) ∧ Y = [mO B (va_up z 0 1), iA G (B 3) 427 g, iA G (B 6) 854 kp, zA G (B 7) 2 ik]) ∨ (w < 2 ∧ ¬ ik w = 1 ∧ v = some (.int (nI 0)) ∧ Y = [mO B (va_up z 0 2), iA G (B 3) 427 g, iA G (B 6) 854 kp, zA G (B 7) 2 ik]) ∨ (w < 2 ∧ ik w = 1 ∧ v = some (.int (nI (kp (427 * w + 423)))) ∧ Y = [mO B (va_up (va_up z 0 0) 3 0), iA G (B 3) 427 (cpE 427 kp (427 * w) g 0), iA G (B 6) 854 kp, zA G (B 7) 2 ik])) 0 0 := by
  refine V_enter (own := RX7) [some (.ref (B 0)), some (.int (nI w))] (by decide +kernel) rfl rfl (Nat.le_of_ble_eq_true rfl) rfl (fun Γ hR hin => ?_)
  have hkc : 0 ≤ 0 := Nat.le_refl 0
  have hks : 0 ≤ 0 := Nat.le_refl 0
  refine V_aload_n (i := 0) dX7_restore_0 rfl rfl ?_
  refine V_iload_n (i := 1) dX7_restore_1 rfl rfl ?_
  refine V_i2l dX7_restore_2 ?_
  refine V_lconst dX7_restore_3 rfl ?_
  refine V_lconst dX7_restore_4 rfl ?_
  refine V_callS (As := _) (rest := _) [] (c_X7_inN l G (w) 0 1 _ _ (by decide) (by decide) hw (by decide)) vy_X7_in gX7_restore_X7_in rfl rfl rfl rfl ⟨rfl, rfl⟩ ⟨rfl, rfl⟩ ⟨Nat.zero_le _, Nat.zero_le _⟩ rfl dX7_restore_5 (fun v Y hE => ?_)
  obtain ⟨rfl, rfl⟩ := hE
  refine ⟨rfl, ?_⟩
  dsimp only [vfill, List.set_cons_zero, List.set_cons_succ, Option.toList, List.cons_append, List.nil_append, Nat.add_zero]
  refine V_if_ne (tgt := 15) (by split <;> decide) dX7_restore_8 rfl (fun h_8 => ?_) (fun h_8 => ?_)
  · have hy := b01 h_8
    have hk9 := hk w (by omega)
    refine V_aload_n (i := 0) dX7_restore_15 rfl rfl ?_
    refine V_get (C := RX7) (T := TX7) (N := 17) (ci := 6) (q := 0) (ref := "OrderChainsModel") 10 rfl il_X7_restore_X7 rfl rfl fl_X7_restore_28 rfl rfl dX7_restore_16 ?_
    refine V_iload_n (i := 1) dX7_restore_19 rfl rfl ?_
    refine V_zald (q := 3) rfl (by omega) rfl dX7_restore_20 ?_
    refine V_if_ne (tgt := 28) (by have := hk w (by omega); omega) dX7_restore_21 rfl (fun h_21 => ?_) (fun h_21 => ?_)
    · refine V_iconst (v := 0) dX7_restore_28 rfl ?_
      refine V_callV (C := RX7) (q := 0) (ci := 6) (As := _) (rest := []) [0] (c_X7_refused l G B z 0 (by decide)) vy_X7_refused gX7_restore_X7_refused rfl rfl rfl rfl rfl rfl rfl ⟨rfl, rfl⟩ ⟨rfl, rfl⟩ ⟨Nat.zero_le _, Nat.zero_le _⟩ rfl dX7_restore_29 (fun v Y hE => ?_)
      obtain ⟨rfl, rfl⟩ := hE
      refine ⟨rfl, ?_⟩
      dsimp only [vfill, List.set_cons_zero, List.set_cons_succ, Option.toList, List.cons_append, List.nil_append, Nat.add_zero]
      refine V_top (b := 0) (by decide) ?_
      refine V_if_eq (tgt := 37) (by omega) dX7_restore_32 rfl (fun h_32 => ?_) (fun h_32 => ?_)
      · refine V_aload_n (i := 0) dX7_restore_37 rfl rfl ?_
        refine V_get (C := RX7) (T := TX7) (N := 17) (ci := 6) (q := 0) (ref := "OrderChainsModel") 9 rfl il_X7_restore_X7 rfl rfl fl_X7_restore_25 rfl rfl dX7_restore_38 ?_
        refine V_sipush (v := 427) dX7_restore_41 (by decide) ?_
        refine V_iload_n (i := 1) dX7_restore_44 rfl rfl ?_
        refine V_imul dX7_restore_45 ?_
        refine V_aload_n (i := 0) dX7_restore_46 rfl rfl ?_
        refine V_get (C := RX7) (T := TX7) (N := 17) (ci := 6) (q := 0) (ref := "OrderChainsModel") 5 rfl il_X7_restore_X7 rfl rfl fl_X7_restore_16 rfl rfl dX7_restore_47 ?_
        refine V_iconst (v := 0) dX7_restore_50 rfl ?_
        refine V_callS (As := _) (rest := []) [2, 1] (c_X7_copyEngine l G (B 6) (B 3) 854 427 (427 * w) 0 kp g rfl rfl (by omega) (by omega)) vy_X7_copyEngine gX7_restore_X7_copyEngine rfl rfl rfl rfl ⟨rfl, rfl⟩ ⟨rfl, rfl⟩ ⟨Nat.zero_le _, Nat.zero_le _⟩ rfl dX7_restore_51 (fun v Y hE => ?_)
        obtain ⟨rfl, rfl⟩ := hE
        refine ⟨rfl, ?_⟩
        dsimp only [vfill, List.set_cons_zero, List.set_cons_succ, Option.toList, List.cons_append, List.nil_append, Nat.add_zero]
        refine V_aload_n (i := 0) dX7_restore_54 rfl rfl ?_
        refine V_iconst (v := 0) dX7_restore_55 rfl ?_
        refine V_put (C := RX7) (T := TX7) (N := 17) (ci := 6) (q := 0) (ref := "OrderChainsModel") (ty := .int) (ty0 := tyX7) 8 rfl il_X7_restore_X7 tyX7_ok nmX7 rfl rfl fl_X7_restore_38 rfl rfl rfl rfl rfl rfl dX7_restore_56 ?_
        dsimp only [List.set_cons_zero, List.set_cons_succ]
        refine V_aload_n (i := 0) dX7_restore_59 rfl rfl ?_
        refine V_get (C := RX7) (T := TX7) (N := 17) (ci := 6) (q := 0) (ref := "OrderChainsModel") 5 rfl il_X7_restore_X7 rfl rfl fl_X7_restore_16 rfl rfl dX7_restore_60 ?_
        refine V_sipush (v := 423) dX7_restore_63 (by decide) ?_
        refine V_iald (q := 1) rfl (by omega) rfl dX7_restore_66 ?_
        refine V_iret hR dX7_restore_67 hkc hks ?_
        refine Or.inr (Or.inr ⟨by omega, by omega, ?_, rfl⟩)
        show some (Value.int (nI (if 0 ≤ 423 ∧ 423 < 0 + 427 then kp (427 * w + (423 - 0)) else g 423))) = _
        rw [if_pos (by omega)]
      · exfalso; omega
    · refine V_iconst (v := 2) dX7_restore_24 rfl ?_
      refine V_goto (tgt := 29) dX7_restore_25 rfl ?_
      refine V_callV (C := RX7) (q := 0) (ci := 6) (As := _) (rest := []) [0] (c_X7_refused l G B z 2 (by decide)) vy_X7_refused gX7_restore_X7_refused rfl rfl rfl rfl rfl rfl rfl ⟨rfl, rfl⟩ ⟨rfl, rfl⟩ ⟨Nat.zero_le _, Nat.zero_le _⟩ rfl dX7_restore_29 (fun v Y hE => ?_)
      obtain ⟨rfl, rfl⟩ := hE
      refine ⟨rfl, ?_⟩
      dsimp only [vfill, List.set_cons_zero, List.set_cons_succ, Option.toList, List.cons_append, List.nil_append, Nat.add_zero]
      refine V_top (b := 1) (by decide) ?_
      refine V_if_eq (tgt := 37) (by omega) dX7_restore_32 rfl (fun h_32 => ?_) (fun h_32 => ?_)
      · exfalso; omega
      · refine V_iconst (v := 0) dX7_restore_35 rfl ?_
        refine V_iret hR dX7_restore_36 hkc hks ?_
        first | exact Or.inl ⟨fun y9 => b00 h_8 (by omega), rfl, rfl⟩ | exact Or.inr (Or.inl ⟨by omega, by omega, rfl, rfl⟩)
  · refine V_iconst (v := 1) dX7_restore_11 rfl ?_
    refine V_goto (tgt := 29) dX7_restore_12 rfl ?_
    refine V_callV (C := RX7) (q := 0) (ci := 6) (As := _) (rest := []) [0] (c_X7_refused l G B z 1 (by decide)) vy_X7_refused gX7_restore_X7_refused rfl rfl rfl rfl rfl rfl rfl ⟨rfl, rfl⟩ ⟨rfl, rfl⟩ ⟨Nat.zero_le _, Nat.zero_le _⟩ rfl dX7_restore_29 (fun v Y hE => ?_)
    obtain ⟨rfl, rfl⟩ := hE
    refine ⟨rfl, ?_⟩
    dsimp only [vfill, List.set_cons_zero, List.set_cons_succ, Option.toList, List.cons_append, List.nil_append, Nat.add_zero]
    refine V_top (b := 1) (by decide) ?_
    refine V_if_eq (tgt := 37) (by omega) dX7_restore_32 rfl (fun h_32 => ?_) (fun h_32 => ?_)
    · exfalso; omega
    · refine V_iconst (v := 0) dX7_restore_35 rfl ?_
      refine V_iret hR dX7_restore_36 hkc hks ?_
      first | exact Or.inl ⟨fun y9 => b00 h_8 (by omega), rfl, rfl⟩ | exact Or.inr (Or.inl ⟨by omega, by omega, rfl, rfl⟩)

end REF8
