section REF7
def rTry (z g t b : Nat → Nat) : vR3 := (va_up (va_up z 4 4294967287) 5 4294967287, cpE 427 g 0 t 0, fiK 96 b)
theorem rRun_Q {Q : vR3 → Prop} (hQ2 : ∀ t, Q t → Q (rTk t)) : ∀ (n : Nat) (t : vR3), Q t → Q (rRun n t).2
  | 0, _, h => h
  | n + 1, t, h => by
    show Q (if _ then _ else _ : Nat × vR3).2
    split
    · exact h
    · exact rRun_Q hQ2 n _ (hQ2 t h)
def alR (h : Nat) (g : Nat → Nat) : Nat → Nat := (fun g => if h = 2 then g else rBegin 2 0 0 g) ((fun g => if h = 1 then g else rBegin 1 0 0 g) ((fun g => if h = 0 then g else rBegin 0 0 0 g) g))
def rEn (h : Nat) : Nat → Nat → vR3 → Nat × vR3
  | 0, _, t => (4294967287, t)
  | f + 1, b, t => if t.2.1 (384 + 13 * h) = 1 then rEn h f (b + 1) (rTk t) else (b, t)
theorem rEn_t {h f b : Nat} {t : vR3} (c : t.2.1 (384 + 13 * h) = 1) : rEn h (f + 1) b t = rEn h f (b + 1) (rTk t) := if_pos c
theorem rEn_f {h f b : Nat} {t : vR3} (c : ¬ t.2.1 (384 + 13 * h) = 1) : rEn h (f + 1) b t = (b, t) := if_neg c
def rFE : Nat → vR3 → vR3
  | 0, t => t
  | f + 1, t => if t.1 5 = 4294967287 then rFE f (rTk t) else t
theorem rFE_t {f : Nat} {t : vR3} (c : t.1 5 = 4294967287) : rFE (f + 1) t = rFE f (rTk t) := if_pos c
theorem rFE_f {f : Nat} {t : vR3} (c : ¬ t.1 5 = 4294967287) : rFE f t = t := by
  cases f with
  | zero => rfl
  | succ f => exact if_neg c

abbrev rX7_later : Room := { frames := 5, cells := 0, slots := 0, locals := 120 }
theorem vy_X7_later : vY yX7_later wsX7_later cX7_later 3 (some .int) 2 := ⟨⟨_, rfl⟩, by decide +kernel, by decide +kernel, by decide +kernel⟩
theorem kc_X7_later_183 : Cond.constantLong RX7 183 (500) ∈ wsX7_later := List.mem_of_getElem? (i := 1) rfl
theorem fl_X7_later_19 : Cond.fieldLink RX7 19 "OrderChainsModel" "trial" "[I" ∈ wsX7_later := List.mem_of_getElem? (i := 2) rfl
theorem il_X7_later_X7 : ∀ w ∈ wsX70, w ∈ wsX7_later := fun _ h => List.mem_cons_of_mem _ (List.mem_append_right _ h)
set_option maxHeartbeats 4000000 in
set_option maxRecDepth 100000 in
/-- later -/
theorem c_X7_later (l : Launch) (G : vG) (B z g t b : Nat → Nat) (p w : Nat) (Q : vR3 → Prop) (hQ1 : ∀ t, Q t → gB t.2.1 ∧ t.1 5 < 4294967296) (hQ2 : ∀ t, Q t → Q (rTk t)) (hq : Q (rTry (va_up z 0 0) g t b)) (hp : p < 4294967296) (hw : w < 4294967296) : Kc l G yX7_later wsX7_later rX7_later [.ref (B 0), .int (nI p), .int (nI w)] [mO B z, iA G (B 3) 427 g, iA G (B 4) 427 t, iA G (B 8) 96 b] (fun v Y => (¬ p < 96 ∧ v = some (.int (nI 0)) ∧ Y = [mO B (va_up z 0 1), iA G (B 3) 427 g, iA G (B 4) 427 t, iA G (B 8) 96 b]) ∨ (p < 96 ∧ ¬ w < 501 ∧ v = some (.int (nI 0)) ∧ Y = [mO B (va_up z 0 2), iA G (B 3) 427 g, iA G (B 4) 427 t, iA G (B 8) 96 b]) ∨ (p < 96 ∧ w < 501 ∧ v = some (.int (nI ((rRun w (rTry (va_up z 0 0) g t b)).2.2.1 p))) ∧ Y = [mO B (rRun w (rTry (va_up z 0 0) g t b)).2.1, iA G (B 3) 427 g, iA G (B 4) 427 (rRun w (rTry (va_up z 0 0) g t b)).2.2.1, iA G (B 8) 96 (rRun w (rTry (va_up z 0 0) g t b)).2.2.2])) 0 0 := by
  refine V_enter (own := RX7) [some (.ref (B 0)), some (.int (nI p)), some (.int (nI w))] (by decide +kernel) rfl rfl (Nat.le_of_ble_eq_true rfl) rfl (fun Γ hR hin => ?_)
  have hkc : 0 ≤ 0 := Nat.le_refl 0
  have hks : 0 ≤ 0 := Nat.le_refl 0
  refine V_aload_n (i := 0) dX7_later_0 rfl rfl ?_
  refine V_iload_n (i := 1) dX7_later_1 rfl rfl ?_
  refine V_callS (As := _) (rest := _) [] (c_X7_isCell l G (p) hp) vy_X7_isCell gX7_later_X7_isCell rfl rfl rfl rfl ⟨rfl, rfl⟩ ⟨rfl, rfl⟩ ⟨Nat.zero_le _, Nat.zero_le _⟩ rfl dX7_later_2 (fun v Y hE => ?_)
  obtain ⟨rfl, rfl⟩ := hE
  refine ⟨rfl, ?_⟩
  dsimp only [vfill, List.set_cons_zero, List.set_cons_succ, Option.toList, List.cons_append, List.nil_append, Nat.add_zero]
  refine V_if_ne (tgt := 12) (by split <;> decide) dX7_later_5 rfl (fun h_5 => ?_) (fun h_5 => ?_)
  · have hy := b01 h_5
    refine V_iload_n (i := 2) dX7_later_12 rfl rfl ?_
    refine V_i2l dX7_later_13 ?_
    refine V_lconst dX7_later_14 rfl ?_
    refine V_ldc2 (v := 500) dX7_later_15 kc_X7_later_183 ?_
    refine V_callS (As := _) (rest := _) [] (c_X7_inN l G (w) 0 500 _ _ (by decide) (by decide) hw (by decide)) vy_X7_in gX7_later_X7_in rfl rfl rfl rfl ⟨rfl, rfl⟩ ⟨rfl, rfl⟩ ⟨Nat.zero_le _, Nat.zero_le _⟩ rfl dX7_later_18 (fun v Y hE => ?_)
    obtain ⟨rfl, rfl⟩ := hE
    refine ⟨rfl, ?_⟩
    dsimp only [vfill, List.set_cons_zero, List.set_cons_succ, Option.toList, List.cons_append, List.nil_append, Nat.add_zero]
    refine V_if_eq (tgt := 28) (by split <;> decide) dX7_later_21 rfl (fun h_21 => ?_) (fun h_21 => ?_)
    · refine V_iconst (v := 2) dX7_later_28 rfl ?_
      refine V_callV (C := RX7) (q := 0) (ci := 6) (As := _) (rest := []) [0] (c_X7_refused l G B z 2 (by decide)) vy_X7_refused gX7_later_X7_refused rfl rfl rfl rfl rfl rfl rfl ⟨rfl, rfl⟩ ⟨rfl, rfl⟩ ⟨Nat.zero_le _, Nat.zero_le _⟩ rfl dX7_later_29 (fun v Y hE => ?_)
      obtain ⟨rfl, rfl⟩ := hE
      refine ⟨rfl, ?_⟩
      dsimp only [vfill, List.set_cons_zero, List.set_cons_succ, Option.toList, List.cons_append, List.nil_append, Nat.add_zero]
      refine V_top (b := 1) (by decide) ?_
      refine V_if_eq (tgt := 37) (by omega) dX7_later_32 rfl (fun h_32 => ?_) (fun h_32 => ?_)
      · exfalso; omega
      · refine V_iconst (v := 0) dX7_later_35 rfl ?_
        refine V_iret hR dX7_later_36 hkc hks ?_
        first | exact Or.inl ⟨b00 h_5, rfl, rfl⟩ | exact Or.inr (Or.inl ⟨hy, fun y9 => b00 h_21 (by omega), rfl, rfl⟩)
    · have hx := b01 h_21
      refine V_iconst (v := 0) dX7_later_24 rfl ?_
      refine V_goto (tgt := 29) dX7_later_25 rfl ?_
      refine V_callV (C := RX7) (q := 0) (ci := 6) (As := _) (rest := []) [0] (c_X7_refused l G B z 0 (by decide)) vy_X7_refused gX7_later_X7_refused rfl rfl rfl rfl rfl rfl rfl ⟨rfl, rfl⟩ ⟨rfl, rfl⟩ ⟨Nat.zero_le _, Nat.zero_le _⟩ rfl dX7_later_29 (fun v Y hE => ?_)
      obtain ⟨rfl, rfl⟩ := hE
      refine ⟨rfl, ?_⟩
      dsimp only [vfill, List.set_cons_zero, List.set_cons_succ, Option.toList, List.cons_append, List.nil_append, Nat.add_zero]
      refine V_top (b := 0) (by decide) ?_
      refine V_if_eq (tgt := 37) (by omega) dX7_later_32 rfl (fun h_32 => ?_) (fun h_32 => ?_)
      · refine V_aload_n (i := 0) dX7_later_37 rfl rfl ?_
        refine V_callV (C := RX7) (q := 0) (ci := 6) (As := []) (rest := []) [0, 1, 2, 3] (c_X7_tryNow l G B (va_up z 0 0) g t b) vy_X7_tryNow gX7_later_X7_tryNow rfl rfl rfl rfl rfl rfl rfl ⟨rfl, rfl⟩ ⟨rfl, rfl⟩ ⟨Nat.zero_le _, Nat.zero_le _⟩ rfl dX7_later_38 (fun v Y hE => ?_)
        obtain ⟨rfl, rfl⟩ := hE
        refine ⟨rfl, ?_⟩
        dsimp only [vfill, List.set_cons_zero, List.set_cons_succ, Option.toList, List.cons_append, List.nil_append, Nat.add_zero]
        refine V_aload_n (i := 0) dX7_later_41 rfl rfl ?_
        refine V_aload_n (i := 0) dX7_later_42 rfl rfl ?_
        refine V_get (C := RX7) (T := TX7) (N := 17) (ci := 6) (q := 0) (ref := "OrderChainsModel") 6 rfl il_X7_later_X7 rfl rfl fl_X7_later_19 rfl rfl dX7_later_43 ?_
        refine V_iload_n (i := 2) dX7_later_46 rfl rfl ?_
        refine V_callV (C := RX7) (q := 0) (ci := 6) (As := _) (rest := []) [0, 2, 3] (c_X7_goOnFor l G B (rTry (va_up z 0 0) g t b).1 (rTry (va_up z 0 0) g t b).2.2 (B 4) (rTry (va_up z 0 0) g t b).2.1 w (by omega) Q hQ1 hQ2 hq) vy_X7_goOnFor gX7_later_X7_goOnFor rfl rfl rfl rfl rfl rfl rfl ⟨rfl, rfl⟩ ⟨rfl, rfl⟩ ⟨Nat.zero_le _, Nat.zero_le _⟩ rfl dX7_later_47 (fun v Y hE => ?_)
        obtain ⟨rfl, rfl⟩ := hE
        refine ⟨rfl, ?_⟩
        dsimp only [vfill, w3, List.set_cons_zero, List.set_cons_succ, Option.toList, List.cons_append, List.nil_append, Nat.add_zero]
        refine V_pop dX7_later_50 rfl ?_
        refine V_aload_n (i := 0) dX7_later_51 rfl rfl ?_
        refine V_get (C := RX7) (T := TX7) (N := 17) (ci := 6) (q := 0) (ref := "OrderChainsModel") 6 rfl il_X7_later_X7 rfl rfl fl_X7_later_19 rfl rfl dX7_later_52 ?_
        refine V_iload_n (i := 1) dX7_later_55 rfl rfl ?_
        refine V_iald (q := 2) rfl (by omega) rfl dX7_later_56 ?_
        refine V_iret hR dX7_later_57 hkc hks ?_
        exact Or.inr (Or.inr ⟨hy, by omega, rfl, rfl⟩)
      · exfalso; omega
  · refine V_iconst (v := 1) dX7_later_8 rfl ?_
    refine V_goto (tgt := 29) dX7_later_9 rfl ?_
    refine V_callV (C := RX7) (q := 0) (ci := 6) (As := _) (rest := []) [0] (c_X7_refused l G B z 1 (by decide)) vy_X7_refused gX7_later_X7_refused rfl rfl rfl rfl rfl rfl rfl ⟨rfl, rfl⟩ ⟨rfl, rfl⟩ ⟨Nat.zero_le _, Nat.zero_le _⟩ rfl dX7_later_29 (fun v Y hE => ?_)
    obtain ⟨rfl, rfl⟩ := hE
    refine ⟨rfl, ?_⟩
    dsimp only [vfill, List.set_cons_zero, List.set_cons_succ, Option.toList, List.cons_append, List.nil_append, Nat.add_zero]
    refine V_top (b := 1) (by decide) ?_
    refine V_if_eq (tgt := 37) (by omega) dX7_later_32 rfl (fun h_32 => ?_) (fun h_32 => ?_)
    · exfalso; omega
    · refine V_iconst (v := 0) dX7_later_35 rfl ?_
      refine V_iret hR dX7_later_36 hkc hks ?_
      first | exact Or.inl ⟨b00 h_5, rfl, rfl⟩ | exact Or.inr (Or.inl ⟨hy, fun y9 => b00 h_21 (by omega), rfl, rfl⟩)

abbrev rX7_endOf : Room := { frames := 5, cells := 0, slots := 0, locals := 120 }
theorem vy_X7_endOf : vY yX7_endOf wsX7_endOf cX7_endOf 3 (some .int) 1 := ⟨⟨_, rfl⟩, by decide +kernel, by decide +kernel, by decide +kernel⟩
theorem fl_X7_endOf_19 : Cond.fieldLink RX7 19 "OrderChainsModel" "trial" "[I" ∈ wsX7_endOf := List.mem_of_getElem? (i := 1) rfl
theorem il_X7_endOf_X7 : ∀ w ∈ wsX70, w ∈ wsX7_endOf := fun _ h => List.mem_cons_of_mem _ (List.mem_append_right _ h)
set_option maxHeartbeats 4000000 in
set_option maxRecDepth 100000 in
/-- endOf -/
theorem c_X7_endOf (l : Launch) (G : vG) (B z g t b : Nat → Nat) (h : Nat) (Q : vR3 → Prop) (hQ1 : ∀ t, Q t → gB t.2.1 ∧ t.1 5 < 4294967296) (hQ2 : ∀ t, Q t → Q (rTk t)) (hq : Q (rTry (va_up z 0 0) g t b)) (hh : h < 4294967296) : Kc l G yX7_endOf wsX7_endOf rX7_endOf [.ref (B 0), .int (nI h)] [mO B z, iA G (B 3) 427 g, iA G (B 4) 427 t, iA G (B 8) 96 b] (fun v Y => (¬ h < 3 ∧ v = some (.int (nI 0)) ∧ Y = [mO B (va_up z 0 1), iA G (B 3) 427 g, iA G (B 4) 427 t, iA G (B 8) 96 b]) ∨ (h < 3 ∧ v = some (.int (nI (if (rRun 500 (rTry (va_up z 0 0) g t b)).2.2.1 (384 + 13 * h) = 3 then (rRun 500 (rTry (va_up z 0 0) g t b)).2.2.1 (384 + 13 * h + 2) else if (rRun 500 (rTry (va_up z 0 0) g t b)).2.2.1 (384 + 13 * h) = 2 then 0 else 4294967287))) ∧ Y = [mO B (rRun 500 (rTry (va_up z 0 0) g t b)).2.1, iA G (B 3) 427 g, iA G (B 4) 427 (rRun 500 (rTry (va_up z 0 0) g t b)).2.2.1, iA G (B 8) 96 (rRun 500 (rTry (va_up z 0 0) g t b)).2.2.2])) 0 0 := by
  refine V_enter (own := RX7) [some (.ref (B 0)), some (.int (nI h)), none] (by decide +kernel) rfl rfl (Nat.le_of_ble_eq_true rfl) rfl (fun Γ hR hin => ?_)
  have hkc : 0 ≤ 0 := Nat.le_refl 0
  have hks : 0 ≤ 0 := Nat.le_refl 0
  refine V_aload_n (i := 0) dX7_endOf_0 rfl rfl ?_
  refine V_iload_n (i := 1) dX7_endOf_1 rfl rfl ?_
  refine V_callS (As := _) (rest := _) [] (c_X7_isChannel l G (h) hh) vy_X7_isChannel gX7_endOf_X7_isChannel rfl rfl rfl rfl ⟨rfl, rfl⟩ ⟨rfl, rfl⟩ ⟨Nat.zero_le _, Nat.zero_le _⟩ rfl dX7_endOf_2 (fun v Y hE => ?_)
  obtain ⟨rfl, rfl⟩ := hE
  refine ⟨rfl, ?_⟩
  dsimp only [vfill, List.set_cons_zero, List.set_cons_succ, Option.toList, List.cons_append, List.nil_append, Nat.add_zero]
  refine V_if_eq (tgt := 12) (by split <;> decide) dX7_endOf_5 rfl (fun h_5 => ?_) (fun h_5 => ?_)
  · refine V_iconst (v := 1) dX7_endOf_12 rfl ?_
    refine V_callV (C := RX7) (q := 0) (ci := 6) (As := _) (rest := []) [0] (c_X7_refused l G B z 1 (by decide)) vy_X7_refused gX7_endOf_X7_refused rfl rfl rfl rfl rfl rfl rfl ⟨rfl, rfl⟩ ⟨rfl, rfl⟩ ⟨Nat.zero_le _, Nat.zero_le _⟩ rfl dX7_endOf_13 (fun v Y hE => ?_)
    obtain ⟨rfl, rfl⟩ := hE
    refine ⟨rfl, ?_⟩
    dsimp only [vfill, List.set_cons_zero, List.set_cons_succ, Option.toList, List.cons_append, List.nil_append, Nat.add_zero]
    refine V_top (b := 1) (by decide) ?_
    refine V_if_eq (tgt := 21) (by omega) dX7_endOf_16 rfl (fun h_16 => ?_) (fun h_16 => ?_)
    · exfalso; omega
    · refine V_iconst (v := 0) dX7_endOf_19 rfl ?_
      refine V_iret hR dX7_endOf_20 hkc hks ?_
      exact Or.inl ⟨b00 h_5, rfl, rfl⟩
  · have hy := b01 h_5
    refine V_iconst (v := 0) dX7_endOf_8 rfl ?_
    refine V_goto (tgt := 13) dX7_endOf_9 rfl ?_
    refine V_callV (C := RX7) (q := 0) (ci := 6) (As := _) (rest := []) [0] (c_X7_refused l G B z 0 (by decide)) vy_X7_refused gX7_endOf_X7_refused rfl rfl rfl rfl rfl rfl rfl ⟨rfl, rfl⟩ ⟨rfl, rfl⟩ ⟨Nat.zero_le _, Nat.zero_le _⟩ rfl dX7_endOf_13 (fun v Y hE => ?_)
    obtain ⟨rfl, rfl⟩ := hE
    refine ⟨rfl, ?_⟩
    dsimp only [vfill, List.set_cons_zero, List.set_cons_succ, Option.toList, List.cons_append, List.nil_append, Nat.add_zero]
    refine V_top (b := 0) (by decide) ?_
    refine V_if_eq (tgt := 21) (by omega) dX7_endOf_16 rfl (fun h_16 => ?_) (fun h_16 => ?_)
    · refine V_aload_n (i := 0) dX7_endOf_21 rfl rfl ?_
      refine V_callV (C := RX7) (q := 0) (ci := 6) (As := []) (rest := []) [0, 1, 2, 3] (c_X7_tryNow l G B (va_up z 0 0) g t b) vy_X7_tryNow gX7_endOf_X7_tryNow rfl rfl rfl rfl rfl rfl rfl ⟨rfl, rfl⟩ ⟨rfl, rfl⟩ ⟨Nat.zero_le _, Nat.zero_le _⟩ rfl dX7_endOf_22 (fun v Y hE => ?_)
      obtain ⟨rfl, rfl⟩ := hE
      refine ⟨rfl, ?_⟩
      dsimp only [vfill, List.set_cons_zero, List.set_cons_succ, Option.toList, List.cons_append, List.nil_append, Nat.add_zero]
      refine V_aload_n (i := 0) dX7_endOf_25 rfl rfl ?_
      refine V_aload_n (i := 0) dX7_endOf_26 rfl rfl ?_
      refine V_get (C := RX7) (T := TX7) (N := 17) (ci := 6) (q := 0) (ref := "OrderChainsModel") 6 rfl il_X7_endOf_X7 rfl rfl fl_X7_endOf_19 rfl rfl dX7_endOf_27 ?_
      refine V_sipush (v := 500) dX7_endOf_30 (by decide) ?_
      refine V_callV (C := RX7) (q := 0) (ci := 6) (As := _) (rest := []) [0, 2, 3] (c_X7_goOnFor l G B (rTry (va_up z 0 0) g t b).1 (rTry (va_up z 0 0) g t b).2.2 (B 4) (rTry (va_up z 0 0) g t b).2.1 500 (by decide) Q hQ1 hQ2 hq) vy_X7_goOnFor gX7_endOf_X7_goOnFor rfl rfl rfl rfl rfl rfl rfl ⟨rfl, rfl⟩ ⟨rfl, rfl⟩ ⟨Nat.zero_le _, Nat.zero_le _⟩ rfl dX7_endOf_33 (fun v Y hE => ?_)
      obtain ⟨rfl, rfl⟩ := hE
      refine ⟨rfl, ?_⟩
      dsimp only [vfill, w3, List.set_cons_zero, List.set_cons_succ, Option.toList, List.cons_append, List.nil_append, Nat.add_zero]
      refine V_pop dX7_endOf_36 rfl ?_
      have hT9 := ((hQ1 _ (rRun_Q hQ2 500 _ hq)).1.2.2.2.2 h hy).1
      refine V_aload_n (i := 0) dX7_endOf_37 rfl rfl ?_
      refine V_get (C := RX7) (T := TX7) (N := 17) (ci := 6) (q := 0) (ref := "OrderChainsModel") 6 rfl il_X7_endOf_X7 rfl rfl fl_X7_endOf_19 rfl rfl dX7_endOf_38 ?_
      refine V_iload_n (i := 1) dX7_endOf_41 rfl rfl ?_
      refine V_callS (As := _) (rest := _) [] (c_X7_at l G (h)) vy_X7_at gX7_endOf_X7_at rfl rfl rfl rfl ⟨rfl, rfl⟩ ⟨rfl, rfl⟩ ⟨Nat.zero_le _, Nat.zero_le _⟩ rfl dX7_endOf_42 (fun v Y hE => ?_)
      obtain ⟨rfl, rfl⟩ := hE
      refine ⟨rfl, ?_⟩
      dsimp only [vfill, List.set_cons_zero, List.set_cons_succ, Option.toList, List.cons_append, List.nil_append, Nat.add_zero]
      refine V_iald (q := 2) rfl (by omega) rfl dX7_endOf_45 ?_
      refine V_istore_n (i := 2) dX7_endOf_46 rfl rfl rfl ?_
      dsimp only [List.set_cons_zero, List.set_cons_succ]
      refine V_iload_n (i := 2) dX7_endOf_47 rfl rfl ?_
      refine V_iconst (v := 3) dX7_endOf_48 rfl ?_
      refine V_icmp_ne (tgt := 66) (show (rRun 500 (rTry (va_up z 0 0) g t b)).2.2.1 (384 + 13 * h) < 4294967296 by omega) (by omega) dX7_endOf_49 rfl (fun h_49 => ?_) (fun h_49 => ?_)
      · refine V_iload_n (i := 2) dX7_endOf_66 rfl rfl ?_
        refine V_iconst (v := 2) dX7_endOf_67 rfl ?_
        refine V_icmp_ne (tgt := 75) (show (rRun 500 (rTry (va_up z 0 0) g t b)).2.2.1 (384 + 13 * h) < 4294967296 by omega) (by omega) dX7_endOf_68 rfl (fun h_68 => ?_) (fun h_68 => ?_)
        · refine V_bipush (v := 4294967287) dX7_endOf_75 (by decide) ?_
          refine V_iret hR dX7_endOf_77 hkc hks ?_
          refine Or.inr ⟨hy, ?_, rfl⟩
          first | exact congrArg (fun x => some (Value.int (nI x))) (if_pos h_49).symm | exact congrArg (fun x => some (Value.int (nI x))) ((if_neg h_49).trans (if_pos h_68)).symm | exact congrArg (fun x => some (Value.int (nI x))) ((if_neg h_49).trans (if_neg h_68)).symm
        · refine V_iconst (v := 0) dX7_endOf_71 rfl ?_
          refine V_goto (tgt := 77) dX7_endOf_72 rfl ?_
          refine V_iret hR dX7_endOf_77 hkc hks ?_
          refine Or.inr ⟨hy, ?_, rfl⟩
          first | exact congrArg (fun x => some (Value.int (nI x))) (if_pos h_49).symm | exact congrArg (fun x => some (Value.int (nI x))) ((if_neg h_49).trans (if_pos h_68)).symm | exact congrArg (fun x => some (Value.int (nI x))) ((if_neg h_49).trans (if_neg h_68)).symm
      · refine V_aload_n (i := 0) dX7_endOf_52 rfl rfl ?_
        refine V_get (C := RX7) (T := TX7) (N := 17) (ci := 6) (q := 0) (ref := "OrderChainsModel") 6 rfl il_X7_endOf_X7 rfl rfl fl_X7_endOf_19 rfl rfl dX7_endOf_53 ?_
        refine V_iload_n (i := 1) dX7_endOf_56 rfl rfl ?_
        refine V_callS (As := _) (rest := _) [] (c_X7_at l G (h)) vy_X7_at gX7_endOf_X7_at rfl rfl rfl rfl ⟨rfl, rfl⟩ ⟨rfl, rfl⟩ ⟨Nat.zero_le _, Nat.zero_le _⟩ rfl dX7_endOf_57 (fun v Y hE => ?_)
        obtain ⟨rfl, rfl⟩ := hE
        refine ⟨rfl, ?_⟩
        dsimp only [vfill, List.set_cons_zero, List.set_cons_succ, Option.toList, List.cons_append, List.nil_append, Nat.add_zero]
        refine V_iconst (v := 2) dX7_endOf_60 rfl ?_
        refine V_iadd dX7_endOf_61 ?_
        refine V_iald (q := 2) rfl (by omega) rfl dX7_endOf_62 ?_
        refine V_goto (tgt := 77) dX7_endOf_63 rfl ?_
        refine V_iret hR dX7_endOf_77 hkc hks ?_
        refine Or.inr ⟨hy, ?_, rfl⟩
        first | exact congrArg (fun x => some (Value.int (nI x))) (if_pos h_49).symm | exact congrArg (fun x => some (Value.int (nI x))) ((if_neg h_49).trans (if_pos h_68)).symm | exact congrArg (fun x => some (Value.int (nI x))) ((if_neg h_49).trans (if_neg h_68)).symm
    · exfalso; omega

abbrev rX7_ends : Room := { frames := 4, cells := 0, slots := 0, locals := 97 }
theorem vy_X7_ends : vY yX7_ends wsX7_ends cX7_ends 3 (some .int) 1 := ⟨⟨_, rfl⟩, by decide +kernel, by decide +kernel, by decide +kernel⟩
theorem fl_X7_ends_19 : Cond.fieldLink RX7 19 "OrderChainsModel" "trial" "[I" ∈ wsX7_ends := List.mem_of_getElem? (i := 1) rfl
theorem il_X7_ends_X7 : ∀ w ∈ wsX70, w ∈ wsX7_ends := fun _ h => List.mem_cons_of_mem _ (List.mem_append_right _ h)
set_option maxHeartbeats 4000000 in
set_option maxRecDepth 100000 in
/-- ends -/
theorem c_X7_ends (l : Launch) (G : vG) (B z g t b : Nat → Nat) (h : Nat) (Q : vR3 → Prop) (hQ1 : ∀ t, Q t → gB t.2.1 ∧ t.1 5 < 4294967296) (hQ2 : ∀ t, Q t → Q (rTk t)) (hq : Q (rTry (va_up z 0 0) g t b)) (hh : h < 4294967296) : Kc l G yX7_ends wsX7_ends rX7_ends [.ref (B 0), .int (nI h)] [mO B z, iA G (B 3) 427 g, iA G (B 4) 427 t, iA G (B 8) 96 b] (fun v Y => (¬ h < 3 ∧ v = some (.int (nI 0)) ∧ Y = [mO B (va_up z 0 1), iA G (B 3) 427 g, iA G (B 4) 427 t, iA G (B 8) 96 b]) ∨ (h < 3 ∧ v = some (.int (nI (rEn h 501 0 (rTry (va_up z 0 0) g t b)).1)) ∧ Y = [mO B (rEn h 501 0 (rTry (va_up z 0 0) g t b)).2.1, iA G (B 3) 427 g, iA G (B 4) 427 (rEn h 501 0 (rTry (va_up z 0 0) g t b)).2.2.1, iA G (B 8) 96 (rEn h 501 0 (rTry (va_up z 0 0) g t b)).2.2.2])) 0 0 := by
  refine V_enter (own := RX7) [some (.ref (B 0)), some (.int (nI h)), none] (by decide +kernel) rfl rfl (Nat.le_of_ble_eq_true rfl) rfl (fun Γ hR hin => ?_)
  have hkc : 0 ≤ 0 := Nat.le_refl 0
  have hks : 0 ≤ 0 := Nat.le_refl 0
  have LP27 : ∀ (fuel : Nat) (k : Nat) (s : vR3), h < 3 → 502 ≤ k + fuel → k ≤ 501 → Q s → (rEn h 501 0 (rTry (va_up z 0 0) g t b)) = rEn h (501 - k) k s → V l G (cX7_ends, 3, wsX7_ends, RX7, rX7_ends) Γ 0 0 27 [some (.ref (B 0)), some (.int (nI h)), some (.int (nI k))] [] [mO B s.1, iA G (B 3) 427 g, iA G (B 4) 427 s.2.1, iA G (B 8) 96 s.2.2] := by
    intro fuel
    induction fuel with
    | zero => intro k s hy hf hk hqs hfl; exact absurd hf (by omega)
    | succ fuel ih =>
      intro k s hy hf hk hqs hfl
      refine V_iload_n (i := 2) dX7_ends_27 rfl rfl ?_
      refine V_sipush (v := 500) dX7_ends_28 (by decide) ?_
      refine V_icmp_gt (tgt := 64) (by omega) (by omega) dX7_ends_31 rfl (fun h_31 => ?_) (fun h_31 => ?_)
      · refine V_bipush (v := 4294967287) dX7_ends_64 (by decide) ?_
        refine V_iret hR dX7_ends_66 hkc hks ?_
        have hk9 : k = 501 := by omega
        rw [hfl, hk9]
        exact Or.inr ⟨hy, rfl, rfl⟩
      · refine V_aload_n (i := 0) dX7_ends_34 rfl rfl ?_
        refine V_get (C := RX7) (T := TX7) (N := 17) (ci := 6) (q := 0) (ref := "OrderChainsModel") 6 rfl il_X7_ends_X7 rfl rfl fl_X7_ends_19 rfl rfl dX7_ends_35 ?_
        refine V_iload_n (i := 1) dX7_ends_38 rfl rfl ?_
        refine V_callS (As := _) (rest := _) [] (c_X7_at l G (h)) vy_X7_at gX7_ends_X7_at rfl rfl rfl rfl ⟨rfl, rfl⟩ ⟨rfl, rfl⟩ ⟨Nat.zero_le _, Nat.zero_le _⟩ rfl dX7_ends_39 (fun v Y hE => ?_)
        obtain ⟨rfl, rfl⟩ := hE
        refine ⟨rfl, ?_⟩
        dsimp only [vfill, List.set_cons_zero, List.set_cons_succ, Option.toList, List.cons_append, List.nil_append, Nat.add_zero]
        refine V_iald (q := 2) rfl (by omega) rfl dX7_ends_42 ?_
        refine V_iconst (v := 1) dX7_ends_43 rfl ?_
        refine V_icmp_eq (tgt := 49) (by have := ((hQ1 s hqs).1.2.2.2.2 h hy).1; omega) (by omega) dX7_ends_44 rfl (fun h_44 => ?_) (fun h_44 => ?_)
        · refine V_aload_n (i := 0) dX7_ends_49 rfl rfl ?_
          refine V_aload_n (i := 0) dX7_ends_50 rfl rfl ?_
          refine V_get (C := RX7) (T := TX7) (N := 17) (ci := 6) (q := 0) (ref := "OrderChainsModel") 6 rfl il_X7_ends_X7 rfl rfl fl_X7_ends_19 rfl rfl dX7_ends_51 ?_
          refine V_callV (C := RX7) (q := 0) (ci := 6) (As := _) (rest := []) [0, 2, 3] (c_X7_goOn l G B s.1 s.2.2 (B 4) s.2.1 (hQ1 s hqs).1 (hQ1 s hqs).2) vy_X7_goOn gX7_ends_X7_goOn rfl rfl rfl rfl rfl rfl rfl ⟨rfl, rfl⟩ ⟨rfl, rfl⟩ ⟨Nat.zero_le _, Nat.zero_le _⟩ rfl dX7_ends_54 (fun v Y hE => ?_)
          obtain ⟨rfl, rfl⟩ := hE
          refine ⟨rfl, ?_⟩
          dsimp only [vfill, w3, List.set_cons_zero, List.set_cons_succ, Option.toList, List.cons_append, List.nil_append, Nat.add_zero]
          refine V_pop dX7_ends_57 rfl ?_
          refine V_iinc dX7_ends_58 rfl (nI_1 _) rfl rfl ?_
          dsimp only [List.set_cons_zero, List.set_cons_succ]
          refine V_goto (tgt := 27) dX7_ends_61 rfl ?_
          exact ih (k + 1) (rTk s) hy (by omega) (by omega) (hQ2 s hqs) (by rw [hfl, show 501 - k = 501 - (k + 1) + 1 by omega, rEn_t h_44])
        · refine V_iload_n (i := 2) dX7_ends_47 rfl rfl ?_
          refine V_iret hR dX7_ends_48 hkc hks ?_
          rw [hfl, show 501 - k = 501 - (k + 1) + 1 by omega, rEn_f h_44]
          exact Or.inr ⟨hy, rfl, rfl⟩
  refine V_aload_n (i := 0) dX7_ends_0 rfl rfl ?_
  refine V_iload_n (i := 1) dX7_ends_1 rfl rfl ?_
  refine V_callS (As := _) (rest := _) [] (c_X7_isChannel l G (h) hh) vy_X7_isChannel gX7_ends_X7_isChannel rfl rfl rfl rfl ⟨rfl, rfl⟩ ⟨rfl, rfl⟩ ⟨Nat.zero_le _, Nat.zero_le _⟩ rfl dX7_ends_2 (fun v Y hE => ?_)
  obtain ⟨rfl, rfl⟩ := hE
  refine ⟨rfl, ?_⟩
  dsimp only [vfill, List.set_cons_zero, List.set_cons_succ, Option.toList, List.cons_append, List.nil_append, Nat.add_zero]
  refine V_if_eq (tgt := 12) (by split <;> decide) dX7_ends_5 rfl (fun h_5 => ?_) (fun h_5 => ?_)
  · refine V_iconst (v := 1) dX7_ends_12 rfl ?_
    refine V_callV (C := RX7) (q := 0) (ci := 6) (As := _) (rest := []) [0] (c_X7_refused l G B z 1 (by decide)) vy_X7_refused gX7_ends_X7_refused rfl rfl rfl rfl rfl rfl rfl ⟨rfl, rfl⟩ ⟨rfl, rfl⟩ ⟨Nat.zero_le _, Nat.zero_le _⟩ rfl dX7_ends_13 (fun v Y hE => ?_)
    obtain ⟨rfl, rfl⟩ := hE
    refine ⟨rfl, ?_⟩
    dsimp only [vfill, List.set_cons_zero, List.set_cons_succ, Option.toList, List.cons_append, List.nil_append, Nat.add_zero]
    refine V_top (b := 1) (by decide) ?_
    refine V_if_eq (tgt := 21) (by omega) dX7_ends_16 rfl (fun h_16 => ?_) (fun h_16 => ?_)
    · exfalso; omega
    · refine V_iconst (v := 0) dX7_ends_19 rfl ?_
      refine V_iret hR dX7_ends_20 hkc hks ?_
      exact Or.inl ⟨b00 h_5, rfl, rfl⟩
  · have hy := b01 h_5
    refine V_iconst (v := 0) dX7_ends_8 rfl ?_
    refine V_goto (tgt := 13) dX7_ends_9 rfl ?_
    refine V_callV (C := RX7) (q := 0) (ci := 6) (As := _) (rest := []) [0] (c_X7_refused l G B z 0 (by decide)) vy_X7_refused gX7_ends_X7_refused rfl rfl rfl rfl rfl rfl rfl ⟨rfl, rfl⟩ ⟨rfl, rfl⟩ ⟨Nat.zero_le _, Nat.zero_le _⟩ rfl dX7_ends_13 (fun v Y hE => ?_)
    obtain ⟨rfl, rfl⟩ := hE
    refine ⟨rfl, ?_⟩
    dsimp only [vfill, List.set_cons_zero, List.set_cons_succ, Option.toList, List.cons_append, List.nil_append, Nat.add_zero]
    refine V_top (b := 0) (by decide) ?_
    refine V_if_eq (tgt := 21) (by omega) dX7_ends_16 rfl (fun h_16 => ?_) (fun h_16 => ?_)
    · refine V_aload_n (i := 0) dX7_ends_21 rfl rfl ?_
      refine V_callV (C := RX7) (q := 0) (ci := 6) (As := []) (rest := []) [0, 1, 2, 3] (c_X7_tryNow l G B (va_up z 0 0) g t b) vy_X7_tryNow gX7_ends_X7_tryNow rfl rfl rfl rfl rfl rfl rfl ⟨rfl, rfl⟩ ⟨rfl, rfl⟩ ⟨Nat.zero_le _, Nat.zero_le _⟩ rfl dX7_ends_22 (fun v Y hE => ?_)
      obtain ⟨rfl, rfl⟩ := hE
      refine ⟨rfl, ?_⟩
      dsimp only [vfill, List.set_cons_zero, List.set_cons_succ, Option.toList, List.cons_append, List.nil_append, Nat.add_zero]
      refine V_iconst (v := 0) dX7_ends_25 rfl ?_
      refine V_istore_n (i := 2) dX7_ends_26 rfl rfl rfl ?_
      dsimp only [List.set_cons_zero, List.set_cons_succ]
      exact LP27 502 0 (rTry (va_up z 0 0) g t b) (b01 h_5) (by omega) (by omega) hq rfl
    · exfalso; omega

abbrev rX7_alone : Room := { frames := 5, cells := 0, slots := 0, locals := 120 }
theorem vy_X7_alone : vY yX7_alone wsX7_alone cX7_alone 3 (some .int) 1 := ⟨⟨_, rfl⟩, by decide +kernel, by decide +kernel, by decide +kernel⟩
theorem fl_X7_alone_19 : Cond.fieldLink RX7 19 "OrderChainsModel" "trial" "[I" ∈ wsX7_alone := List.mem_of_getElem? (i := 1) rfl
theorem il_X7_alone_X7 : ∀ w ∈ wsX70, w ∈ wsX7_alone := fun _ h => List.mem_cons_of_mem _ (List.mem_append_right _ h)
theorem fl_X7_alone_16 : Cond.fieldLink RX7 16 "OrderChainsModel" "now" "[I" ∈ wsX7_alone := List.mem_of_getElem? (i := 2) rfl
set_option maxHeartbeats 4000000 in
set_option maxRecDepth 100000 in
/-- alone -/
theorem c_X7_alone (l : Launch) (G : vG) (B z g t b : Nat → Nat) (h : Nat) (Q : vR3 → Prop) (hQ1 : ∀ t, Q t → gB t.2.1 ∧ t.1 5 < 4294967296) (hQ2 : ∀ t, Q t → Q (rTk t)) (hq : ∀ h, h < 3 → Q ((rTry (va_up z 0 0) g t b).1, alR h (rTry (va_up z 0 0) g t b).2.1, (rTry (va_up z 0 0) g t b).2.2)) (hh : h < 4294967296) : Kc l G yX7_alone wsX7_alone rX7_alone [.ref (B 0), .int (nI h)] [mO B z, iA G (B 3) 427 g, iA G (B 4) 427 t, iA G (B 8) 96 b] (fun v Y => (¬ h < 3 ∧ v = some (.int (nI 0)) ∧ Y = [mO B (va_up z 0 1), iA G (B 3) 427 g, iA G (B 4) 427 t, iA G (B 8) 96 b]) ∨ (h < 3 ∧ v = some (.int (nI ((rRun 500 ((rTry (va_up z 0 0) g t b).1, alR h (rTry (va_up z 0 0) g t b).2.1, (rTry (va_up z 0 0) g t b).2.2)).2.2.1 (384 + 13 * h + 12)) - nI (g (384 + 13 * h + 12)))) ∧ Y = [mO B (rRun 500 ((rTry (va_up z 0 0) g t b).1, alR h (rTry (va_up z 0 0) g t b).2.1, (rTry (va_up z 0 0) g t b).2.2)).2.1, iA G (B 3) 427 g, iA G (B 4) 427 (rRun 500 ((rTry (va_up z 0 0) g t b).1, alR h (rTry (va_up z 0 0) g t b).2.1, (rTry (va_up z 0 0) g t b).2.2)).2.2.1, iA G (B 8) 96 (rRun 500 ((rTry (va_up z 0 0) g t b).1, alR h (rTry (va_up z 0 0) g t b).2.1, (rTry (va_up z 0 0) g t b).2.2)).2.2.2])) 0 0 := by
  refine V_enter (own := RX7) [some (.ref (B 0)), some (.int (nI h)), none] (by decide +kernel) rfl rfl (Nat.le_of_ble_eq_true rfl) rfl (fun Γ hR hin => ?_)
  have hkc : 0 ≤ 0 := Nat.le_refl 0
  have hks : 0 ≤ 0 := Nat.le_refl 0
  refine V_aload_n (i := 0) dX7_alone_0 rfl rfl ?_
  refine V_iload_n (i := 1) dX7_alone_1 rfl rfl ?_
  refine V_callS (As := _) (rest := _) [] (c_X7_isChannel l G (h) hh) vy_X7_isChannel gX7_alone_X7_isChannel rfl rfl rfl rfl ⟨rfl, rfl⟩ ⟨rfl, rfl⟩ ⟨Nat.zero_le _, Nat.zero_le _⟩ rfl dX7_alone_2 (fun v Y hE => ?_)
  obtain ⟨rfl, rfl⟩ := hE
  refine ⟨rfl, ?_⟩
  dsimp only [vfill, List.set_cons_zero, List.set_cons_succ, Option.toList, List.cons_append, List.nil_append, Nat.add_zero]
  refine V_if_eq (tgt := 12) (by split <;> decide) dX7_alone_5 rfl (fun h_5 => ?_) (fun h_5 => ?_)
  · refine V_iconst (v := 1) dX7_alone_12 rfl ?_
    refine V_callV (C := RX7) (q := 0) (ci := 6) (As := _) (rest := []) [0] (c_X7_refused l G B z 1 (by decide)) vy_X7_refused gX7_alone_X7_refused rfl rfl rfl rfl rfl rfl rfl ⟨rfl, rfl⟩ ⟨rfl, rfl⟩ ⟨Nat.zero_le _, Nat.zero_le _⟩ rfl dX7_alone_13 (fun v Y hE => ?_)
    obtain ⟨rfl, rfl⟩ := hE
    refine ⟨rfl, ?_⟩
    dsimp only [vfill, List.set_cons_zero, List.set_cons_succ, Option.toList, List.cons_append, List.nil_append, Nat.add_zero]
    refine V_top (b := 1) (by decide) ?_
    refine V_if_eq (tgt := 21) (by omega) dX7_alone_16 rfl (fun h_16 => ?_) (fun h_16 => ?_)
    · exfalso; omega
    · refine V_iconst (v := 0) dX7_alone_19 rfl ?_
      refine V_iret hR dX7_alone_20 hkc hks ?_
      exact Or.inl ⟨b00 h_5, rfl, rfl⟩
  · have hy := b01 h_5
    refine V_iconst (v := 0) dX7_alone_8 rfl ?_
    refine V_goto (tgt := 13) dX7_alone_9 rfl ?_
    refine V_callV (C := RX7) (q := 0) (ci := 6) (As := _) (rest := []) [0] (c_X7_refused l G B z 0 (by decide)) vy_X7_refused gX7_alone_X7_refused rfl rfl rfl rfl rfl rfl rfl ⟨rfl, rfl⟩ ⟨rfl, rfl⟩ ⟨Nat.zero_le _, Nat.zero_le _⟩ rfl dX7_alone_13 (fun v Y hE => ?_)
    obtain ⟨rfl, rfl⟩ := hE
    refine ⟨rfl, ?_⟩
    dsimp only [vfill, List.set_cons_zero, List.set_cons_succ, Option.toList, List.cons_append, List.nil_append, Nat.add_zero]
    refine V_top (b := 0) (by decide) ?_
    refine V_if_eq (tgt := 21) (by omega) dX7_alone_16 rfl (fun h_16 => ?_) (fun h_16 => ?_)
    · rcases (show h = 0 ∨ h = 1 ∨ h = 2 by omega) with rfl | rfl | rfl
      · refine V_aload_n (i := 0) dX7_alone_21 rfl rfl ?_
        refine V_callV (C := RX7) (q := 0) (ci := 6) (As := []) (rest := []) [0, 1, 2, 3] (c_X7_tryNow l G B (va_up z 0 0) g t b) vy_X7_tryNow gX7_alone_X7_tryNow rfl rfl rfl rfl rfl rfl rfl ⟨rfl, rfl⟩ ⟨rfl, rfl⟩ ⟨Nat.zero_le _, Nat.zero_le _⟩ rfl dX7_alone_22 (fun v Y hE => ?_)
        obtain ⟨rfl, rfl⟩ := hE
        refine ⟨rfl, ?_⟩
        dsimp only [vfill, List.set_cons_zero, List.set_cons_succ, Option.toList, List.cons_append, List.nil_append, Nat.add_zero]
        refine V_iconst (v := 0) dX7_alone_25 rfl ?_
        refine V_istore_n (i := 2) dX7_alone_26 rfl rfl rfl ?_
        dsimp only [List.set_cons_zero, List.set_cons_succ]
        refine V_iload_n (i := 2) dX7_alone_27 rfl rfl ?_
        refine V_iconst (v := 3) dX7_alone_28 rfl ?_
        refine V_icmp_ge (tgt := 53) (by omega) (by omega) dX7_alone_29 rfl (fun h_29 => ?_) (fun h_29 => ?_)
        · exfalso; omega
        · refine V_iload_n (i := 2) dX7_alone_32 rfl rfl ?_
          refine V_iload_n (i := 1) dX7_alone_33 rfl rfl ?_
          refine V_icmp_eq (tgt := 47) (by omega) (by omega) dX7_alone_34 rfl (fun h_34 => ?_) (fun h_34 => ?_)
          · refine V_iinc (v := 1) dX7_alone_47 rfl (by decide) rfl rfl ?_
            dsimp only [List.set_cons_zero, List.set_cons_succ]
            refine V_goto (tgt := 27) dX7_alone_50 rfl ?_
            refine V_iload_n (i := 2) dX7_alone_27 rfl rfl ?_
            refine V_iconst (v := 3) dX7_alone_28 rfl ?_
            refine V_icmp_ge (tgt := 53) (by omega) (by omega) dX7_alone_29 rfl (fun h_29_2 => ?_) (fun h_29_2 => ?_)
            · exfalso; omega
            · refine V_iload_n (i := 2) dX7_alone_32 rfl rfl ?_
              refine V_iload_n (i := 1) dX7_alone_33 rfl rfl ?_
              refine V_icmp_eq (tgt := 47) (by omega) (by omega) dX7_alone_34 rfl (fun h_34_2 => ?_) (fun h_34_2 => ?_)
              · exfalso; omega
              · refine V_aload_n (i := 0) dX7_alone_37 rfl rfl ?_
                refine V_get (C := RX7) (T := TX7) (N := 17) (ci := 6) (q := 0) (ref := "OrderChainsModel") 6 rfl il_X7_alone_X7 rfl rfl fl_X7_alone_19 rfl rfl dX7_alone_38 ?_
                refine V_iload_n (i := 2) dX7_alone_41 rfl rfl ?_
                refine V_iconst (v := 0) dX7_alone_42 rfl ?_
                refine V_iconst (v := 0) dX7_alone_43 rfl ?_
                refine V_callS (As := _) (rest := []) [2] (c_X7_begin l G (B 4) (rTry (va_up z 0 0) g t b).2.1 1 0 0 (by decide)) vy_X7_begin gX7_alone_X7_begin rfl rfl rfl rfl ⟨rfl, rfl⟩ ⟨rfl, rfl⟩ ⟨Nat.zero_le _, Nat.zero_le _⟩ rfl dX7_alone_44 (fun v Y hE => ?_)
                obtain ⟨rfl, rfl⟩ := hE
                refine ⟨rfl, ?_⟩
                dsimp only [vfill, List.set_cons_zero, List.set_cons_succ, Option.toList, List.cons_append, List.nil_append, Nat.add_zero]
                refine V_iinc (v := 2) dX7_alone_47 rfl (by decide) rfl rfl ?_
                dsimp only [List.set_cons_zero, List.set_cons_succ]
                refine V_goto (tgt := 27) dX7_alone_50 rfl ?_
                refine V_iload_n (i := 2) dX7_alone_27 rfl rfl ?_
                refine V_iconst (v := 3) dX7_alone_28 rfl ?_
                refine V_icmp_ge (tgt := 53) (by omega) (by omega) dX7_alone_29 rfl (fun h_29_3 => ?_) (fun h_29_3 => ?_)
                · exfalso; omega
                · refine V_iload_n (i := 2) dX7_alone_32 rfl rfl ?_
                  refine V_iload_n (i := 1) dX7_alone_33 rfl rfl ?_
                  refine V_icmp_eq (tgt := 47) (by omega) (by omega) dX7_alone_34 rfl (fun h_34_3 => ?_) (fun h_34_3 => ?_)
                  · exfalso; omega
                  · refine V_aload_n (i := 0) dX7_alone_37 rfl rfl ?_
                    refine V_get (C := RX7) (T := TX7) (N := 17) (ci := 6) (q := 0) (ref := "OrderChainsModel") 6 rfl il_X7_alone_X7 rfl rfl fl_X7_alone_19 rfl rfl dX7_alone_38 ?_
                    refine V_iload_n (i := 2) dX7_alone_41 rfl rfl ?_
                    refine V_iconst (v := 0) dX7_alone_42 rfl ?_
                    refine V_iconst (v := 0) dX7_alone_43 rfl ?_
                    refine V_callS (As := _) (rest := []) [2] (c_X7_begin l G (B 4) (rBegin 1 0 0 (rTry (va_up z 0 0) g t b).2.1) 2 0 0 (by decide)) vy_X7_begin gX7_alone_X7_begin rfl rfl rfl rfl ⟨rfl, rfl⟩ ⟨rfl, rfl⟩ ⟨Nat.zero_le _, Nat.zero_le _⟩ rfl dX7_alone_44 (fun v Y hE => ?_)
                    obtain ⟨rfl, rfl⟩ := hE
                    refine ⟨rfl, ?_⟩
                    dsimp only [vfill, List.set_cons_zero, List.set_cons_succ, Option.toList, List.cons_append, List.nil_append, Nat.add_zero]
                    refine V_iinc (v := 3) dX7_alone_47 rfl (by decide) rfl rfl ?_
                    dsimp only [List.set_cons_zero, List.set_cons_succ]
                    refine V_goto (tgt := 27) dX7_alone_50 rfl ?_
                    refine V_iload_n (i := 2) dX7_alone_27 rfl rfl ?_
                    refine V_iconst (v := 3) dX7_alone_28 rfl ?_
                    refine V_icmp_ge (tgt := 53) (by omega) (by omega) dX7_alone_29 rfl (fun h_29_4 => ?_) (fun h_29_4 => ?_)
                    · refine V_aload_n (i := 0) dX7_alone_53 rfl rfl ?_
                      refine V_aload_n (i := 0) dX7_alone_54 rfl rfl ?_
                      refine V_get (C := RX7) (T := TX7) (N := 17) (ci := 6) (q := 0) (ref := "OrderChainsModel") 6 rfl il_X7_alone_X7 rfl rfl fl_X7_alone_19 rfl rfl dX7_alone_55 ?_
                      refine V_sipush (v := 500) dX7_alone_58 (by decide) ?_
                      refine V_callV (C := RX7) (q := 0) (ci := 6) (As := _) (rest := []) [0, 2, 3] (c_X7_goOnFor l G B ((rTry (va_up z 0 0) g t b).1, alR 0 (rTry (va_up z 0 0) g t b).2.1, (rTry (va_up z 0 0) g t b).2.2).1 ((rTry (va_up z 0 0) g t b).1, alR 0 (rTry (va_up z 0 0) g t b).2.1, (rTry (va_up z 0 0) g t b).2.2).2.2 (B 4) ((rTry (va_up z 0 0) g t b).1, alR 0 (rTry (va_up z 0 0) g t b).2.1, (rTry (va_up z 0 0) g t b).2.2).2.1 500 (by decide) Q hQ1 hQ2 (hq 0 (by decide))) vy_X7_goOnFor gX7_alone_X7_goOnFor rfl rfl rfl rfl rfl rfl rfl ⟨rfl, rfl⟩ ⟨rfl, rfl⟩ ⟨Nat.zero_le _, Nat.zero_le _⟩ rfl dX7_alone_61 (fun v Y hE => ?_)
                      obtain ⟨rfl, rfl⟩ := hE
                      refine ⟨rfl, ?_⟩
                      dsimp only [vfill, w3, List.set_cons_zero, List.set_cons_succ, Option.toList, List.cons_append, List.nil_append, Nat.add_zero]
                      refine V_pop dX7_alone_64 rfl ?_
                      refine V_aload_n (i := 0) dX7_alone_65 rfl rfl ?_
                      refine V_get (C := RX7) (T := TX7) (N := 17) (ci := 6) (q := 0) (ref := "OrderChainsModel") 6 rfl il_X7_alone_X7 rfl rfl fl_X7_alone_19 rfl rfl dX7_alone_66 ?_
                      refine V_iload_n (i := 1) dX7_alone_69 rfl rfl ?_
                      refine V_callS (As := _) (rest := _) [] (c_X7_at l G (0)) vy_X7_at gX7_alone_X7_at rfl rfl rfl rfl ⟨rfl, rfl⟩ ⟨rfl, rfl⟩ ⟨Nat.zero_le _, Nat.zero_le _⟩ rfl dX7_alone_70 (fun v Y hE => ?_)
                      obtain ⟨rfl, rfl⟩ := hE
                      refine ⟨rfl, ?_⟩
                      dsimp only [vfill, List.set_cons_zero, List.set_cons_succ, Option.toList, List.cons_append, List.nil_append, Nat.add_zero]
                      refine V_bipush (v := 12) dX7_alone_73 (by decide) ?_
                      refine V_iadd dX7_alone_75 ?_
                      refine V_iald (q := 2) rfl (by omega) rfl dX7_alone_76 ?_
                      refine V_aload_n (i := 0) dX7_alone_77 rfl rfl ?_
                      refine V_get (C := RX7) (T := TX7) (N := 17) (ci := 6) (q := 0) (ref := "OrderChainsModel") 5 rfl il_X7_alone_X7 rfl rfl fl_X7_alone_16 rfl rfl dX7_alone_78 ?_
                      refine V_iload_n (i := 1) dX7_alone_81 rfl rfl ?_
                      refine V_callS (As := _) (rest := _) [] (c_X7_at l G (0)) vy_X7_at gX7_alone_X7_at rfl rfl rfl rfl ⟨rfl, rfl⟩ ⟨rfl, rfl⟩ ⟨Nat.zero_le _, Nat.zero_le _⟩ rfl dX7_alone_82 (fun v Y hE => ?_)
                      obtain ⟨rfl, rfl⟩ := hE
                      refine ⟨rfl, ?_⟩
                      dsimp only [vfill, List.set_cons_zero, List.set_cons_succ, Option.toList, List.cons_append, List.nil_append, Nat.add_zero]
                      refine V_bipush (v := 12) dX7_alone_85 (by decide) ?_
                      refine V_iadd dX7_alone_87 ?_
                      refine V_iald (q := 1) rfl (by omega) rfl dX7_alone_88 ?_
                      refine V_isubX dX7_alone_89 ?_
                      refine V_iret hR dX7_alone_90 hkc hks ?_
                      exact Or.inr ⟨by decide, rfl, rfl⟩
                    · exfalso; omega
          · exfalso; omega
      · refine V_aload_n (i := 0) dX7_alone_21 rfl rfl ?_
        refine V_callV (C := RX7) (q := 0) (ci := 6) (As := []) (rest := []) [0, 1, 2, 3] (c_X7_tryNow l G B (va_up z 0 0) g t b) vy_X7_tryNow gX7_alone_X7_tryNow rfl rfl rfl rfl rfl rfl rfl ⟨rfl, rfl⟩ ⟨rfl, rfl⟩ ⟨Nat.zero_le _, Nat.zero_le _⟩ rfl dX7_alone_22 (fun v Y hE => ?_)
        obtain ⟨rfl, rfl⟩ := hE
        refine ⟨rfl, ?_⟩
        dsimp only [vfill, List.set_cons_zero, List.set_cons_succ, Option.toList, List.cons_append, List.nil_append, Nat.add_zero]
        refine V_iconst (v := 0) dX7_alone_25 rfl ?_
        refine V_istore_n (i := 2) dX7_alone_26 rfl rfl rfl ?_
        dsimp only [List.set_cons_zero, List.set_cons_succ]
        refine V_iload_n (i := 2) dX7_alone_27 rfl rfl ?_
        refine V_iconst (v := 3) dX7_alone_28 rfl ?_
        refine V_icmp_ge (tgt := 53) (by omega) (by omega) dX7_alone_29 rfl (fun h_29 => ?_) (fun h_29 => ?_)
        · exfalso; omega
        · refine V_iload_n (i := 2) dX7_alone_32 rfl rfl ?_
          refine V_iload_n (i := 1) dX7_alone_33 rfl rfl ?_
          refine V_icmp_eq (tgt := 47) (by omega) (by omega) dX7_alone_34 rfl (fun h_34 => ?_) (fun h_34 => ?_)
          · exfalso; omega
          · refine V_aload_n (i := 0) dX7_alone_37 rfl rfl ?_
            refine V_get (C := RX7) (T := TX7) (N := 17) (ci := 6) (q := 0) (ref := "OrderChainsModel") 6 rfl il_X7_alone_X7 rfl rfl fl_X7_alone_19 rfl rfl dX7_alone_38 ?_
            refine V_iload_n (i := 2) dX7_alone_41 rfl rfl ?_
            refine V_iconst (v := 0) dX7_alone_42 rfl ?_
            refine V_iconst (v := 0) dX7_alone_43 rfl ?_
            refine V_callS (As := _) (rest := []) [2] (c_X7_begin l G (B 4) (rTry (va_up z 0 0) g t b).2.1 0 0 0 (by decide)) vy_X7_begin gX7_alone_X7_begin rfl rfl rfl rfl ⟨rfl, rfl⟩ ⟨rfl, rfl⟩ ⟨Nat.zero_le _, Nat.zero_le _⟩ rfl dX7_alone_44 (fun v Y hE => ?_)
            obtain ⟨rfl, rfl⟩ := hE
            refine ⟨rfl, ?_⟩
            dsimp only [vfill, List.set_cons_zero, List.set_cons_succ, Option.toList, List.cons_append, List.nil_append, Nat.add_zero]
            refine V_iinc (v := 1) dX7_alone_47 rfl (by decide) rfl rfl ?_
            dsimp only [List.set_cons_zero, List.set_cons_succ]
            refine V_goto (tgt := 27) dX7_alone_50 rfl ?_
            refine V_iload_n (i := 2) dX7_alone_27 rfl rfl ?_
            refine V_iconst (v := 3) dX7_alone_28 rfl ?_
            refine V_icmp_ge (tgt := 53) (by omega) (by omega) dX7_alone_29 rfl (fun h_29_2 => ?_) (fun h_29_2 => ?_)
            · exfalso; omega
            · refine V_iload_n (i := 2) dX7_alone_32 rfl rfl ?_
              refine V_iload_n (i := 1) dX7_alone_33 rfl rfl ?_
              refine V_icmp_eq (tgt := 47) (by omega) (by omega) dX7_alone_34 rfl (fun h_34_2 => ?_) (fun h_34_2 => ?_)
              · refine V_iinc (v := 2) dX7_alone_47 rfl (by decide) rfl rfl ?_
                dsimp only [List.set_cons_zero, List.set_cons_succ]
                refine V_goto (tgt := 27) dX7_alone_50 rfl ?_
                refine V_iload_n (i := 2) dX7_alone_27 rfl rfl ?_
                refine V_iconst (v := 3) dX7_alone_28 rfl ?_
                refine V_icmp_ge (tgt := 53) (by omega) (by omega) dX7_alone_29 rfl (fun h_29_3 => ?_) (fun h_29_3 => ?_)
                · exfalso; omega
                · refine V_iload_n (i := 2) dX7_alone_32 rfl rfl ?_
                  refine V_iload_n (i := 1) dX7_alone_33 rfl rfl ?_
                  refine V_icmp_eq (tgt := 47) (by omega) (by omega) dX7_alone_34 rfl (fun h_34_3 => ?_) (fun h_34_3 => ?_)
                  · exfalso; omega
                  · refine V_aload_n (i := 0) dX7_alone_37 rfl rfl ?_
                    refine V_get (C := RX7) (T := TX7) (N := 17) (ci := 6) (q := 0) (ref := "OrderChainsModel") 6 rfl il_X7_alone_X7 rfl rfl fl_X7_alone_19 rfl rfl dX7_alone_38 ?_
                    refine V_iload_n (i := 2) dX7_alone_41 rfl rfl ?_
                    refine V_iconst (v := 0) dX7_alone_42 rfl ?_
                    refine V_iconst (v := 0) dX7_alone_43 rfl ?_
                    refine V_callS (As := _) (rest := []) [2] (c_X7_begin l G (B 4) (rBegin 0 0 0 (rTry (va_up z 0 0) g t b).2.1) 2 0 0 (by decide)) vy_X7_begin gX7_alone_X7_begin rfl rfl rfl rfl ⟨rfl, rfl⟩ ⟨rfl, rfl⟩ ⟨Nat.zero_le _, Nat.zero_le _⟩ rfl dX7_alone_44 (fun v Y hE => ?_)
                    obtain ⟨rfl, rfl⟩ := hE
                    refine ⟨rfl, ?_⟩
                    dsimp only [vfill, List.set_cons_zero, List.set_cons_succ, Option.toList, List.cons_append, List.nil_append, Nat.add_zero]
                    refine V_iinc (v := 3) dX7_alone_47 rfl (by decide) rfl rfl ?_
                    dsimp only [List.set_cons_zero, List.set_cons_succ]
                    refine V_goto (tgt := 27) dX7_alone_50 rfl ?_
                    refine V_iload_n (i := 2) dX7_alone_27 rfl rfl ?_
                    refine V_iconst (v := 3) dX7_alone_28 rfl ?_
                    refine V_icmp_ge (tgt := 53) (by omega) (by omega) dX7_alone_29 rfl (fun h_29_4 => ?_) (fun h_29_4 => ?_)
                    · refine V_aload_n (i := 0) dX7_alone_53 rfl rfl ?_
                      refine V_aload_n (i := 0) dX7_alone_54 rfl rfl ?_
                      refine V_get (C := RX7) (T := TX7) (N := 17) (ci := 6) (q := 0) (ref := "OrderChainsModel") 6 rfl il_X7_alone_X7 rfl rfl fl_X7_alone_19 rfl rfl dX7_alone_55 ?_
                      refine V_sipush (v := 500) dX7_alone_58 (by decide) ?_
                      refine V_callV (C := RX7) (q := 0) (ci := 6) (As := _) (rest := []) [0, 2, 3] (c_X7_goOnFor l G B ((rTry (va_up z 0 0) g t b).1, alR 1 (rTry (va_up z 0 0) g t b).2.1, (rTry (va_up z 0 0) g t b).2.2).1 ((rTry (va_up z 0 0) g t b).1, alR 1 (rTry (va_up z 0 0) g t b).2.1, (rTry (va_up z 0 0) g t b).2.2).2.2 (B 4) ((rTry (va_up z 0 0) g t b).1, alR 1 (rTry (va_up z 0 0) g t b).2.1, (rTry (va_up z 0 0) g t b).2.2).2.1 500 (by decide) Q hQ1 hQ2 (hq 1 (by decide))) vy_X7_goOnFor gX7_alone_X7_goOnFor rfl rfl rfl rfl rfl rfl rfl ⟨rfl, rfl⟩ ⟨rfl, rfl⟩ ⟨Nat.zero_le _, Nat.zero_le _⟩ rfl dX7_alone_61 (fun v Y hE => ?_)
                      obtain ⟨rfl, rfl⟩ := hE
                      refine ⟨rfl, ?_⟩
                      dsimp only [vfill, w3, List.set_cons_zero, List.set_cons_succ, Option.toList, List.cons_append, List.nil_append, Nat.add_zero]
                      refine V_pop dX7_alone_64 rfl ?_
                      refine V_aload_n (i := 0) dX7_alone_65 rfl rfl ?_
                      refine V_get (C := RX7) (T := TX7) (N := 17) (ci := 6) (q := 0) (ref := "OrderChainsModel") 6 rfl il_X7_alone_X7 rfl rfl fl_X7_alone_19 rfl rfl dX7_alone_66 ?_
                      refine V_iload_n (i := 1) dX7_alone_69 rfl rfl ?_
                      refine V_callS (As := _) (rest := _) [] (c_X7_at l G (1)) vy_X7_at gX7_alone_X7_at rfl rfl rfl rfl ⟨rfl, rfl⟩ ⟨rfl, rfl⟩ ⟨Nat.zero_le _, Nat.zero_le _⟩ rfl dX7_alone_70 (fun v Y hE => ?_)
                      obtain ⟨rfl, rfl⟩ := hE
                      refine ⟨rfl, ?_⟩
                      dsimp only [vfill, List.set_cons_zero, List.set_cons_succ, Option.toList, List.cons_append, List.nil_append, Nat.add_zero]
                      refine V_bipush (v := 12) dX7_alone_73 (by decide) ?_
                      refine V_iadd dX7_alone_75 ?_
                      refine V_iald (q := 2) rfl (by omega) rfl dX7_alone_76 ?_
                      refine V_aload_n (i := 0) dX7_alone_77 rfl rfl ?_
                      refine V_get (C := RX7) (T := TX7) (N := 17) (ci := 6) (q := 0) (ref := "OrderChainsModel") 5 rfl il_X7_alone_X7 rfl rfl fl_X7_alone_16 rfl rfl dX7_alone_78 ?_
                      refine V_iload_n (i := 1) dX7_alone_81 rfl rfl ?_
                      refine V_callS (As := _) (rest := _) [] (c_X7_at l G (1)) vy_X7_at gX7_alone_X7_at rfl rfl rfl rfl ⟨rfl, rfl⟩ ⟨rfl, rfl⟩ ⟨Nat.zero_le _, Nat.zero_le _⟩ rfl dX7_alone_82 (fun v Y hE => ?_)
                      obtain ⟨rfl, rfl⟩ := hE
                      refine ⟨rfl, ?_⟩
                      dsimp only [vfill, List.set_cons_zero, List.set_cons_succ, Option.toList, List.cons_append, List.nil_append, Nat.add_zero]
                      refine V_bipush (v := 12) dX7_alone_85 (by decide) ?_
                      refine V_iadd dX7_alone_87 ?_
                      refine V_iald (q := 1) rfl (by omega) rfl dX7_alone_88 ?_
                      refine V_isubX dX7_alone_89 ?_
                      refine V_iret hR dX7_alone_90 hkc hks ?_
                      exact Or.inr ⟨by decide, rfl, rfl⟩
                    · exfalso; omega
              · exfalso; omega
      · refine V_aload_n (i := 0) dX7_alone_21 rfl rfl ?_
        refine V_callV (C := RX7) (q := 0) (ci := 6) (As := []) (rest := []) [0, 1, 2, 3] (c_X7_tryNow l G B (va_up z 0 0) g t b) vy_X7_tryNow gX7_alone_X7_tryNow rfl rfl rfl rfl rfl rfl rfl ⟨rfl, rfl⟩ ⟨rfl, rfl⟩ ⟨Nat.zero_le _, Nat.zero_le _⟩ rfl dX7_alone_22 (fun v Y hE => ?_)
        obtain ⟨rfl, rfl⟩ := hE
        refine ⟨rfl, ?_⟩
        dsimp only [vfill, List.set_cons_zero, List.set_cons_succ, Option.toList, List.cons_append, List.nil_append, Nat.add_zero]
        refine V_iconst (v := 0) dX7_alone_25 rfl ?_
        refine V_istore_n (i := 2) dX7_alone_26 rfl rfl rfl ?_
        dsimp only [List.set_cons_zero, List.set_cons_succ]
        refine V_iload_n (i := 2) dX7_alone_27 rfl rfl ?_
        refine V_iconst (v := 3) dX7_alone_28 rfl ?_
        refine V_icmp_ge (tgt := 53) (by omega) (by omega) dX7_alone_29 rfl (fun h_29 => ?_) (fun h_29 => ?_)
        · exfalso; omega
        · refine V_iload_n (i := 2) dX7_alone_32 rfl rfl ?_
          refine V_iload_n (i := 1) dX7_alone_33 rfl rfl ?_
          refine V_icmp_eq (tgt := 47) (by omega) (by omega) dX7_alone_34 rfl (fun h_34 => ?_) (fun h_34 => ?_)
          · exfalso; omega
          · refine V_aload_n (i := 0) dX7_alone_37 rfl rfl ?_
            refine V_get (C := RX7) (T := TX7) (N := 17) (ci := 6) (q := 0) (ref := "OrderChainsModel") 6 rfl il_X7_alone_X7 rfl rfl fl_X7_alone_19 rfl rfl dX7_alone_38 ?_
            refine V_iload_n (i := 2) dX7_alone_41 rfl rfl ?_
            refine V_iconst (v := 0) dX7_alone_42 rfl ?_
            refine V_iconst (v := 0) dX7_alone_43 rfl ?_
            refine V_callS (As := _) (rest := []) [2] (c_X7_begin l G (B 4) (rTry (va_up z 0 0) g t b).2.1 0 0 0 (by decide)) vy_X7_begin gX7_alone_X7_begin rfl rfl rfl rfl ⟨rfl, rfl⟩ ⟨rfl, rfl⟩ ⟨Nat.zero_le _, Nat.zero_le _⟩ rfl dX7_alone_44 (fun v Y hE => ?_)
            obtain ⟨rfl, rfl⟩ := hE
            refine ⟨rfl, ?_⟩
            dsimp only [vfill, List.set_cons_zero, List.set_cons_succ, Option.toList, List.cons_append, List.nil_append, Nat.add_zero]
            refine V_iinc (v := 1) dX7_alone_47 rfl (by decide) rfl rfl ?_
            dsimp only [List.set_cons_zero, List.set_cons_succ]
            refine V_goto (tgt := 27) dX7_alone_50 rfl ?_
            refine V_iload_n (i := 2) dX7_alone_27 rfl rfl ?_
            refine V_iconst (v := 3) dX7_alone_28 rfl ?_
            refine V_icmp_ge (tgt := 53) (by omega) (by omega) dX7_alone_29 rfl (fun h_29_2 => ?_) (fun h_29_2 => ?_)
            · exfalso; omega
            · refine V_iload_n (i := 2) dX7_alone_32 rfl rfl ?_
              refine V_iload_n (i := 1) dX7_alone_33 rfl rfl ?_
              refine V_icmp_eq (tgt := 47) (by omega) (by omega) dX7_alone_34 rfl (fun h_34_2 => ?_) (fun h_34_2 => ?_)
              · exfalso; omega
              · refine V_aload_n (i := 0) dX7_alone_37 rfl rfl ?_
                refine V_get (C := RX7) (T := TX7) (N := 17) (ci := 6) (q := 0) (ref := "OrderChainsModel") 6 rfl il_X7_alone_X7 rfl rfl fl_X7_alone_19 rfl rfl dX7_alone_38 ?_
                refine V_iload_n (i := 2) dX7_alone_41 rfl rfl ?_
                refine V_iconst (v := 0) dX7_alone_42 rfl ?_
                refine V_iconst (v := 0) dX7_alone_43 rfl ?_
                refine V_callS (As := _) (rest := []) [2] (c_X7_begin l G (B 4) (rBegin 0 0 0 (rTry (va_up z 0 0) g t b).2.1) 1 0 0 (by decide)) vy_X7_begin gX7_alone_X7_begin rfl rfl rfl rfl ⟨rfl, rfl⟩ ⟨rfl, rfl⟩ ⟨Nat.zero_le _, Nat.zero_le _⟩ rfl dX7_alone_44 (fun v Y hE => ?_)
                obtain ⟨rfl, rfl⟩ := hE
                refine ⟨rfl, ?_⟩
                dsimp only [vfill, List.set_cons_zero, List.set_cons_succ, Option.toList, List.cons_append, List.nil_append, Nat.add_zero]
                refine V_iinc (v := 2) dX7_alone_47 rfl (by decide) rfl rfl ?_
                dsimp only [List.set_cons_zero, List.set_cons_succ]
                refine V_goto (tgt := 27) dX7_alone_50 rfl ?_
                refine V_iload_n (i := 2) dX7_alone_27 rfl rfl ?_
                refine V_iconst (v := 3) dX7_alone_28 rfl ?_
                refine V_icmp_ge (tgt := 53) (by omega) (by omega) dX7_alone_29 rfl (fun h_29_3 => ?_) (fun h_29_3 => ?_)
                · exfalso; omega
                · refine V_iload_n (i := 2) dX7_alone_32 rfl rfl ?_
                  refine V_iload_n (i := 1) dX7_alone_33 rfl rfl ?_
                  refine V_icmp_eq (tgt := 47) (by omega) (by omega) dX7_alone_34 rfl (fun h_34_3 => ?_) (fun h_34_3 => ?_)
                  · refine V_iinc (v := 3) dX7_alone_47 rfl (by decide) rfl rfl ?_
                    dsimp only [List.set_cons_zero, List.set_cons_succ]
                    refine V_goto (tgt := 27) dX7_alone_50 rfl ?_
                    refine V_iload_n (i := 2) dX7_alone_27 rfl rfl ?_
                    refine V_iconst (v := 3) dX7_alone_28 rfl ?_
                    refine V_icmp_ge (tgt := 53) (by omega) (by omega) dX7_alone_29 rfl (fun h_29_4 => ?_) (fun h_29_4 => ?_)
                    · refine V_aload_n (i := 0) dX7_alone_53 rfl rfl ?_
                      refine V_aload_n (i := 0) dX7_alone_54 rfl rfl ?_
                      refine V_get (C := RX7) (T := TX7) (N := 17) (ci := 6) (q := 0) (ref := "OrderChainsModel") 6 rfl il_X7_alone_X7 rfl rfl fl_X7_alone_19 rfl rfl dX7_alone_55 ?_
                      refine V_sipush (v := 500) dX7_alone_58 (by decide) ?_
                      refine V_callV (C := RX7) (q := 0) (ci := 6) (As := _) (rest := []) [0, 2, 3] (c_X7_goOnFor l G B ((rTry (va_up z 0 0) g t b).1, alR 2 (rTry (va_up z 0 0) g t b).2.1, (rTry (va_up z 0 0) g t b).2.2).1 ((rTry (va_up z 0 0) g t b).1, alR 2 (rTry (va_up z 0 0) g t b).2.1, (rTry (va_up z 0 0) g t b).2.2).2.2 (B 4) ((rTry (va_up z 0 0) g t b).1, alR 2 (rTry (va_up z 0 0) g t b).2.1, (rTry (va_up z 0 0) g t b).2.2).2.1 500 (by decide) Q hQ1 hQ2 (hq 2 (by decide))) vy_X7_goOnFor gX7_alone_X7_goOnFor rfl rfl rfl rfl rfl rfl rfl ⟨rfl, rfl⟩ ⟨rfl, rfl⟩ ⟨Nat.zero_le _, Nat.zero_le _⟩ rfl dX7_alone_61 (fun v Y hE => ?_)
                      obtain ⟨rfl, rfl⟩ := hE
                      refine ⟨rfl, ?_⟩
                      dsimp only [vfill, w3, List.set_cons_zero, List.set_cons_succ, Option.toList, List.cons_append, List.nil_append, Nat.add_zero]
                      refine V_pop dX7_alone_64 rfl ?_
                      refine V_aload_n (i := 0) dX7_alone_65 rfl rfl ?_
                      refine V_get (C := RX7) (T := TX7) (N := 17) (ci := 6) (q := 0) (ref := "OrderChainsModel") 6 rfl il_X7_alone_X7 rfl rfl fl_X7_alone_19 rfl rfl dX7_alone_66 ?_
                      refine V_iload_n (i := 1) dX7_alone_69 rfl rfl ?_
                      refine V_callS (As := _) (rest := _) [] (c_X7_at l G (2)) vy_X7_at gX7_alone_X7_at rfl rfl rfl rfl ⟨rfl, rfl⟩ ⟨rfl, rfl⟩ ⟨Nat.zero_le _, Nat.zero_le _⟩ rfl dX7_alone_70 (fun v Y hE => ?_)
                      obtain ⟨rfl, rfl⟩ := hE
                      refine ⟨rfl, ?_⟩
                      dsimp only [vfill, List.set_cons_zero, List.set_cons_succ, Option.toList, List.cons_append, List.nil_append, Nat.add_zero]
                      refine V_bipush (v := 12) dX7_alone_73 (by decide) ?_
                      refine V_iadd dX7_alone_75 ?_
                      refine V_iald (q := 2) rfl (by omega) rfl dX7_alone_76 ?_
                      refine V_aload_n (i := 0) dX7_alone_77 rfl rfl ?_
                      refine V_get (C := RX7) (T := TX7) (N := 17) (ci := 6) (q := 0) (ref := "OrderChainsModel") 5 rfl il_X7_alone_X7 rfl rfl fl_X7_alone_16 rfl rfl dX7_alone_78 ?_
                      refine V_iload_n (i := 1) dX7_alone_81 rfl rfl ?_
                      refine V_callS (As := _) (rest := _) [] (c_X7_at l G (2)) vy_X7_at gX7_alone_X7_at rfl rfl rfl rfl ⟨rfl, rfl⟩ ⟨rfl, rfl⟩ ⟨Nat.zero_le _, Nat.zero_le _⟩ rfl dX7_alone_82 (fun v Y hE => ?_)
                      obtain ⟨rfl, rfl⟩ := hE
                      refine ⟨rfl, ?_⟩
                      dsimp only [vfill, List.set_cons_zero, List.set_cons_succ, Option.toList, List.cons_append, List.nil_append, Nat.add_zero]
                      refine V_bipush (v := 12) dX7_alone_85 (by decide) ?_
                      refine V_iadd dX7_alone_87 ?_
                      refine V_iald (q := 1) rfl (by omega) rfl dX7_alone_88 ?_
                      refine V_isubX dX7_alone_89 ?_
                      refine V_iret hR dX7_alone_90 hkc hks ?_
                      exact Or.inr ⟨by decide, rfl, rfl⟩
                    · exfalso; omega
                  · exfalso; omega
    · exfalso; omega

end REF7
