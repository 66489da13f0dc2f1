section REF17
theorem rLp_ok : ∀ (f : Nat) {z r tx : Nat → Nat}, pOk z r → pOk (rLp f z r tx).2.1 (rLp f z r tx).2.2
  | 0, _, _, _, h => h
  | f + 1, z, r, tx, h => by
    unfold rLp
    split
    · rename_i c
      split
      · exact (rPt_ok h c).1
      · exact rLp_ok f (rPt_ok h c).1
    · exact h
theorem rEg_s {z r tx : Nat → Nat} (h1 : z 1 ≤ 140) : ∀ h, h < 3 → (rEg z r tx).2.2 (384 + 13 * h) < 4 := by
  unfold rEg
  split
  · intro h hh
    show fiK 427 r (384 + 13 * h) < 4
    unfold fiK
    rw [if_pos (by omega)]
    decide
  · exact (rLp_ok 141 (rZ1_ok h1 (by omega))).2.2.2
theorem rLp_1 : ∀ (f : Nat) {z r tx : Nat → Nat}, (rLp f z r tx).1 < 2
  | 0, _, _, _ => (by decide : 1 < 2)
  | f + 1, z, r, tx => by
    unfold rLp
    split
    · split
      · exact (by decide : 0 < 2)
      · exact rLp_1 f
    · exact (by decide : 1 < 2)
theorem rEg_1 (z r tx : Nat → Nat) : (rEg z r tx).1 < 2 := by
  unfold rEg
  split
  · exact (by decide : 0 < 2)
  · exact rLp_1 141
theorem cpE_lt {n k ta fa : Nat} {f g : Nat → Nat} (h : ta ≤ k) (h2 : k < ta + n) : cpE n f fa g ta k = f (fa + (k - ta)) := by
  unfold cpE
  rw [if_pos ⟨h, h2⟩]
theorem cpE_cs {f g : Nat → Nat} (hs : ∀ h, h < 3 → f (384 + 13 * h) < 4) : ∀ h, h < 3 → cpE 427 f 0 g 0 (384 + 13 * h) < 4 := fun h hh => by
  rw [cpE_lt (by omega) (by omega), show 0 + (384 + 13 * h - 0) = 384 + 13 * h by omega]
  exact hs h hh

abbrev rX7_errorPosition : Room := { frames := 5, cells := 0, slots := 0, locals := 114 }
theorem vy_X7_errorPosition : vY yX7_errorPosition wsX7_errorPosition cX7_errorPosition 1 (some .int) 0 := ⟨⟨_, rfl⟩, by decide +kernel, by decide +kernel, by decide +kernel⟩
theorem fl_X7_errorPosition_106 : Cond.fieldLink RX7 106 "OrderChainsModel" "spot" "I" ∈ wsX7_errorPosition := List.mem_of_getElem? (i := 1) rfl
theorem il_X7_errorPosition_X7 : ∀ w ∈ wsX70, w ∈ wsX7_errorPosition := fun _ h => List.mem_cons_of_mem _ (List.mem_append_right _ h)
set_option maxHeartbeats 4000000 in
set_option maxRecDepth 100000 in
/-- errorPosition -/
theorem c_X7_errorPosition (l : Launch) (G : vG) (B z r tx : Nat → Nat) (h1 : z 1 ≤ 140) (ht : ∀ k, k < 140 → tx k < 256) : Kc l G yX7_errorPosition wsX7_errorPosition rX7_errorPosition [.ref (B 0)] [mO B z, iA G (B 1) 140 tx, iA G (B 2) 427 r] (fun v Y => v = some (.int (nI (if (rEg z r tx).1 = 0 then (rEg z r tx).2.1 2 else 4294967287))) ∧ Y = [mO B (rEg z r tx).2.1, iA G (B 1) 140 tx, iA G (B 2) 427 (rEg z r tx).2.2]) 0 0 := by
  refine V_enter (own := RX7) [some (.ref (B 0))] (by decide +kernel) rfl rfl (Nat.le_of_ble_eq_true rfl) rfl (fun Γ hR hin => ?_)
  have hkc : 0 ≤ 0 := Nat.le_refl 0
  have hks : 0 ≤ 0 := Nat.le_refl 0
  refine V_aload_n (i := 0) dX7_errorPosition_0 rfl rfl ?_
  refine V_callV (C := RX7) (q := 0) (ci := 6) (As := []) (rest := []) [0, 1, 2] (c_X7_readEngine l G B z r tx h1 ht) vy_X7_readEngine gX7_errorPosition_X7_readEngine rfl rfl rfl rfl rfl rfl rfl ⟨rfl, rfl⟩ ⟨rfl, rfl⟩ ⟨Nat.zero_le _, Nat.zero_le _⟩ rfl dX7_errorPosition_1 (fun v Y hE => ?_)
  obtain ⟨rfl, rfl⟩ := hE
  refine ⟨rfl, ?_⟩
  dsimp only [vfill, List.set_cons_zero, List.set_cons_succ, Option.toList, List.cons_append, List.nil_append, Nat.add_zero]
  refine V_if_eq (tgt := 12) (by have := rEg_1 z r tx; omega) dX7_errorPosition_4 rfl (fun h_4 => ?_) (fun h_4 => ?_)
  · refine V_aload_n (i := 0) dX7_errorPosition_12 rfl rfl ?_
    refine V_get (C := RX7) (T := TX7) (N := 17) (ci := 6) (q := 0) (ref := "OrderChainsModel") 3 rfl il_X7_errorPosition_X7 rfl rfl fl_X7_errorPosition_106 rfl rfl dX7_errorPosition_13 ?_
    refine V_iret hR dX7_errorPosition_16 hkc hks ?_
    first | (rw [if_pos h_4]; exact ⟨rfl, rfl⟩) | (rw [if_neg h_4]; exact ⟨rfl, rfl⟩)
  · refine V_bipush (v := 4294967287) dX7_errorPosition_7 (by decide) ?_
    refine V_goto (tgt := 16) dX7_errorPosition_9 rfl ?_
    refine V_iret hR dX7_errorPosition_16 hkc hks ?_
    first | (rw [if_pos h_4]; exact ⟨rfl, rfl⟩) | (rw [if_neg h_4]; exact ⟨rfl, rfl⟩)

abbrev rX7_load : Room := { frames := 5, cells := 0, slots := 0, locals := 114 }
theorem vy_X7_load : vY yX7_load wsX7_load cX7_load 1 (some .int) 0 := ⟨⟨_, rfl⟩, by decide +kernel, by decide +kernel, by decide +kernel⟩
theorem fl_X7_load_13 : Cond.fieldLink RX7 13 "OrderChainsModel" "read" "[I" ∈ wsX7_load := List.mem_of_getElem? (i := 1) rfl
theorem il_X7_load_X7 : ∀ w ∈ wsX70, w ∈ wsX7_load := fun _ h => List.mem_cons_of_mem _ (List.mem_append_right _ h)
theorem fl_X7_load_16 : Cond.fieldLink RX7 16 "OrderChainsModel" "now" "[I" ∈ wsX7_load := List.mem_of_getElem? (i := 2) rfl
theorem fl_X7_load_38 : Cond.fieldLink RX7 38 "OrderChainsModel" "acts" "I" ∈ wsX7_load := List.mem_of_getElem? (i := 3) rfl
theorem fl_X7_load_28 : Cond.fieldLink RX7 28 "OrderChainsModel" "isKept" "[Z" ∈ wsX7_load := List.mem_of_getElem? (i := 4) rfl
set_option maxHeartbeats 4000000 in
set_option maxRecDepth 100000 in
/-- load -/
theorem c_X7_load (l : Launch) (G : vG) (B z r tx g ik : Nat → Nat) (h1 : z 1 ≤ 140) (ht : ∀ k, k < 140 → tx k < 256) : Kc l G yX7_load wsX7_load rX7_load [.ref (B 0)] [mO B z, iA G (B 1) 140 tx, iA G (B 2) 427 r, iA G (B 3) 427 g, zA G (B 7) 2 ik] (fun v Y => ((rEg z r tx).1 = 0 ∧ v = some (.int (nI 0)) ∧ Y = [mO B (va_up (rEg z r tx).2.1 0 1), iA G (B 1) 140 tx, iA G (B 2) 427 (rEg z r tx).2.2, iA G (B 3) 427 g, zA G (B 7) 2 ik]) ∨ (¬ (rEg z r tx).1 = 0 ∧ v = some (.int (nI (rCs 1 (cpE 427 (rEg z r tx).2.2 0 g 0)))) ∧ Y = [mO B (va_up (va_up (rEg z r tx).2.1 0 0) 3 0), iA G (B 1) 140 tx, iA G (B 2) 427 (rEg z r tx).2.2, iA G (B 3) 427 (cpE 427 (rEg z r tx).2.2 0 g 0), zA G (B 7) 2 (va_up (va_up ik 0 0) 1 0)])) 0 0 := by
  refine V_enter (own := RX7) [some (.ref (B 0))] (by decide +kernel) rfl rfl (Nat.le_of_ble_eq_true rfl) rfl (fun Γ hR hin => ?_)
  have hkc : 0 ≤ 0 := Nat.le_refl 0
  have hks : 0 ≤ 0 := Nat.le_refl 0
  refine V_aload_n (i := 0) dX7_load_0 rfl rfl ?_
  refine V_aload_n (i := 0) dX7_load_1 rfl rfl ?_
  refine V_callV (C := RX7) (q := 0) (ci := 6) (As := []) (rest := _) [0, 1, 2] (c_X7_readEngine l G B z r tx h1 ht) vy_X7_readEngine gX7_load_X7_readEngine rfl rfl rfl rfl rfl rfl rfl ⟨rfl, rfl⟩ ⟨rfl, rfl⟩ ⟨Nat.zero_le _, Nat.zero_le _⟩ rfl dX7_load_2 (fun v Y hE => ?_)
  obtain ⟨rfl, rfl⟩ := hE
  refine ⟨rfl, ?_⟩
  dsimp only [vfill, List.set_cons_zero, List.set_cons_succ, Option.toList, List.cons_append, List.nil_append, Nat.add_zero]
  refine V_if_eq (tgt := 12) (by have := rEg_1 z r tx; omega) dX7_load_5 rfl (fun h_5 => ?_) (fun h_5 => ?_)
  · refine V_iconst (v := 1) dX7_load_12 rfl ?_
    refine V_callV (C := RX7) (q := 0) (ci := 6) (As := _) (rest := []) [0] (c_X7_refused l G B (rEg z r tx).2.1 1 (by decide)) vy_X7_refused gX7_load_X7_refused rfl rfl rfl rfl rfl rfl rfl ⟨rfl, rfl⟩ ⟨rfl, rfl⟩ ⟨Nat.zero_le _, Nat.zero_le _⟩ rfl dX7_load_13 (fun v Y hE => ?_)
    obtain ⟨rfl, rfl⟩ := hE
    refine ⟨rfl, ?_⟩
    dsimp only [vfill, List.set_cons_zero, List.set_cons_succ, Option.toList, List.cons_append, List.nil_append, Nat.add_zero]
    refine V_top (b := 1) (by decide) ?_
    refine V_if_eq (tgt := 21) (by omega) dX7_load_16 rfl (fun h_16 => ?_) (fun h_16 => ?_)
    · exfalso; omega
    · refine V_iconst (v := 0) dX7_load_19 rfl ?_
      refine V_iret hR dX7_load_20 hkc hks ?_
      exact Or.inl ⟨h_5, rfl, rfl⟩
  · refine V_iconst (v := 0) dX7_load_8 rfl ?_
    refine V_goto (tgt := 13) dX7_load_9 rfl ?_
    refine V_callV (C := RX7) (q := 0) (ci := 6) (As := _) (rest := []) [0] (c_X7_refused l G B (rEg z r tx).2.1 0 (by decide)) vy_X7_refused gX7_load_X7_refused rfl rfl rfl rfl rfl rfl rfl ⟨rfl, rfl⟩ ⟨rfl, rfl⟩ ⟨Nat.zero_le _, Nat.zero_le _⟩ rfl dX7_load_13 (fun v Y hE => ?_)
    obtain ⟨rfl, rfl⟩ := hE
    refine ⟨rfl, ?_⟩
    dsimp only [vfill, List.set_cons_zero, List.set_cons_succ, Option.toList, List.cons_append, List.nil_append, Nat.add_zero]
    refine V_top (b := 0) (by decide) ?_
    refine V_if_eq (tgt := 21) (by omega) dX7_load_16 rfl (fun h_16 => ?_) (fun h_16 => ?_)
    · refine V_aload_n (i := 0) dX7_load_21 rfl rfl ?_
      refine V_get (C := RX7) (T := TX7) (N := 17) (ci := 6) (q := 0) (ref := "OrderChainsModel") 4 rfl il_X7_load_X7 rfl rfl fl_X7_load_13 rfl rfl dX7_load_22 ?_
      refine V_iconst (v := 0) dX7_load_25 rfl ?_
      refine V_aload_n (i := 0) dX7_load_26 rfl rfl ?_
      refine V_get (C := RX7) (T := TX7) (N := 17) (ci := 6) (q := 0) (ref := "OrderChainsModel") 5 rfl il_X7_load_X7 rfl rfl fl_X7_load_16 rfl rfl dX7_load_27 ?_
      refine V_iconst (v := 0) dX7_load_30 rfl ?_
      refine V_callS (As := _) (rest := []) [2, 3] (c_X7_copyEngine l G (B 2) (B 3) 427 427 0 0 (rEg z r tx).2.2 g rfl rfl (by decide) (by decide)) vy_X7_copyEngine gX7_load_X7_copyEngine rfl rfl rfl rfl ⟨rfl, rfl⟩ ⟨rfl, rfl⟩ ⟨Nat.zero_le _, Nat.zero_le _⟩ rfl dX7_load_31 (fun v Y hE => ?_)
      obtain ⟨rfl, rfl⟩ := hE
      refine ⟨rfl, ?_⟩
      dsimp only [vfill, List.set_cons_zero, List.set_cons_succ, Option.toList, List.cons_append, List.nil_append, Nat.add_zero]
      refine V_aload_n (i := 0) dX7_load_34 rfl rfl ?_
      refine V_iconst (v := 0) dX7_load_35 rfl ?_
      refine V_put (C := RX7) (T := TX7) (N := 17) (ci := 6) (q := 0) (ref := "OrderChainsModel") (ty := .int) (ty0 := tyX7) 8 rfl il_X7_load_X7 tyX7_ok nmX7 rfl rfl fl_X7_load_38 rfl rfl rfl rfl rfl rfl dX7_load_36 ?_
      dsimp only [List.set_cons_zero, List.set_cons_succ]
      refine V_aload_n (i := 0) dX7_load_39 rfl rfl ?_
      refine V_get (C := RX7) (T := TX7) (N := 17) (ci := 6) (q := 0) (ref := "OrderChainsModel") 10 rfl il_X7_load_X7 rfl rfl fl_X7_load_28 rfl rfl dX7_load_40 ?_
      refine V_iconst (v := 0) dX7_load_43 rfl ?_
      refine V_iconst (v := 0) dX7_load_44 rfl ?_
      refine V_zast (q := 4) rfl (by omega) rfl (by omega) dX7_load_45 ?_
      dsimp only [List.set_cons_zero, List.set_cons_succ]
      refine V_aload_n (i := 0) dX7_load_46 rfl rfl ?_
      refine V_get (C := RX7) (T := TX7) (N := 17) (ci := 6) (q := 0) (ref := "OrderChainsModel") 10 rfl il_X7_load_X7 rfl rfl fl_X7_load_28 rfl rfl dX7_load_47 ?_
      refine V_iconst (v := 1) dX7_load_50 rfl ?_
      refine V_iconst (v := 0) dX7_load_51 rfl ?_
      refine V_zast (q := 4) rfl (by omega) rfl (by omega) dX7_load_52 ?_
      dsimp only [List.set_cons_zero, List.set_cons_succ]
      refine V_aload_n (i := 0) dX7_load_53 rfl rfl ?_
      refine V_get (C := RX7) (T := TX7) (N := 17) (ci := 6) (q := 0) (ref := "OrderChainsModel") 5 rfl il_X7_load_X7 rfl rfl fl_X7_load_16 rfl rfl dX7_load_54 ?_
      refine V_iconst (v := 1) dX7_load_57 rfl ?_
      refine V_callS (As := _) (rest := []) [3] (c_X7_channels l G (B 3) (cpE 427 (rEg z r tx).2.2 0 g 0) 1 (by decide) (cpE_cs (rEg_s h1))) vy_X7_channels gX7_load_X7_channels rfl rfl rfl rfl ⟨rfl, rfl⟩ ⟨rfl, rfl⟩ ⟨Nat.zero_le _, Nat.zero_le _⟩ rfl dX7_load_58 (fun v Y hE => ?_)
      obtain ⟨rfl, rfl⟩ := hE
      refine ⟨rfl, ?_⟩
      dsimp only [vfill, List.set_cons_zero, List.set_cons_succ, Option.toList, List.cons_append, List.nil_append, Nat.add_zero]
      refine V_iret hR dX7_load_61 hkc hks ?_
      exact Or.inr ⟨h_5, rfl, rfl⟩
    · exfalso; omega

def pw : Nat → Int64
  | 0 => 1
  | k + 1 => pw k * 100000
theorem pwI : ∀ (k : Nat), k ≤ 3 → (pw k).toInt = ((100000 ^ k : Nat) : Int)
  | 0, _ => by decide
  | 1, _ => by
    show (1 * 100000 : Int64).toInt = _
    rw [Int64.toInt_mul]
    decide
  | 2, _ => by
    show (pw 1 * 100000 : Int64).toInt = _
    rw [Int64.toInt_mul, pwI 1 (by decide)]
    decide
  | 3, _ => by
    show (pw 2 * 100000 : Int64).toInt = _
    rw [Int64.toInt_mul, pwI 2 (by decide)]
    decide
  | k + 4, h => absurd h (by omega)
theorem pw_div {k : Nat} (h : k < 3) : pw (k + 1) / 100000 = pw k := by
  apply Int64.toInt_inj.mp
  have hp : 0 < 100000 ^ k := Nat.pow_pos (by decide)
  have e := pwI (k + 1) (by omega)
  rw [Nat.pow_succ] at e
  rw [dv5 (by rw [e]; omega), e, pwI k (by omega)]
  omega
theorem pw_n {k : Nat} (h : k ≤ 3) : ¬ pw k = 0 := fun e => by
  have hp : 0 < 100000 ^ k := Nat.pow_pos (by decide)
  have := pwI k h
  rw [e, show (0 : Int64).toInt = 0 by decide] at this
  omega
theorem pw_1 {k : Nat} (h : k ≤ 3) : (pw k - 1).toInt = ((100000 ^ k : Nat) : Int) - 1 := by
  have hp : 0 < 100000 ^ k := Nat.pow_pos (by decide)
  have hq : 100000 ^ k ≤ 100000 ^ 3 := Nat.pow_le_pow_right (by decide) h
  rw [Int64.toInt_sub, pwI k h, show (1 : Int64).toInt = 1 by decide, Int.bmod_def]
  split <;> omega
theorem x_dv {x : Int64} {k : Nat} (hx : 0 ≤ x.toInt) (h : k ≤ 3) : (x / pw k).toInt = ((x.toInt.toNat / 100000 ^ k : Nat) : Int) := by
  have hp : 0 < 100000 ^ k := Nat.pow_pos (by decide)
  have h1 := i64_lt x
  obtain ⟨n, hn⟩ : ∃ n : Nat, x.toInt = n := ⟨x.toInt.toNat, by omega⟩
  rw [Int64.toInt_div, pwI k h, Int.tdiv_eq_ediv_of_nonneg hx, hn]
  have e : ((n : Int) / ((100000 ^ k : Nat) : Int)) = ((n / 100000 ^ k : Nat) : Int) := rfl
  rw [e, Int.toNat_natCast]
  have hle : n / 100000 ^ k ≤ n := Nat.div_le_self _ _
  generalize n / 100000 ^ k = q at hle ⊢
  rw [Int.bmod_def]
  split <;> omega
theorem x_g {x : Int64} {k : Nat} (hx : 0 ≤ x.toInt) (h : k ≤ 3) : (x / pw k - x / pw k / 100000 * 100000).toInt32 = nI (x.toInt.toNat / 100000 ^ k % 100000) := by
  have e := x_dv hx h
  generalize x.toInt.toNat / 100000 ^ k = q at e ⊢
  refine toI32 ?_
  rw [rm5 (by rw [e]; omega), e]
  omega
/-- the command of the group g -/
def rGc (g : Nat) (t : vR3) : Nat × vR3 := cmR (g / 10000) (g / 1000 % 10) (g / 100 % 10) (g / 10 % 10) (g % 10) t
def rLs (xs : Nat) : Nat → Nat → vR3 → Nat × vR3
  | 0, _, t => (4294967287, t)
  | f + 1, i, t => if (rGc (xs / 100000 ^ f % 100000) t).1 = 0 then (i, (rGc (xs / 100000 ^ f % 100000) t).2) else rLs xs f (i + 1) (rGc (xs / 100000 ^ f % 100000) t).2
theorem cmR_1 (how a b c d : Nat) (t : vR3) : (cmR how a b c d t).1 < 2 := by
  unfold cmR
  repeat' split
  all_goals first
    | exact (by decide : 0 < 2)
    | exact (by decide : 1 < 2)
theorem in_c {x lo hi : Int64} {a b : Int} (h1 : lo.toInt = a) (h2 : hi.toInt = b) : (if lo.toInt ≤ x.toInt ∧ x.toInt ≤ hi.toInt then 1 else 0 : Nat) = (if a ≤ x.toInt ∧ x.toInt ≤ b then 1 else 0) := by rw [h1, h2]
abbrev rX7_runScript : Room := { frames := 6, cells := 0, slots := 0, locals := 148 }
theorem vy_X7_runScript : vY yX7_runScript wsX7_runScript cX7_runScript 8 (some .int) 2 := ⟨⟨_, rfl⟩, by decide +kernel, by decide +kernel, by decide +kernel⟩
theorem kc_X7_runScript_185 : Cond.constantLong RX7 185 (100000) ∈ wsX7_runScript := List.mem_of_getElem? (i := 1) rfl
theorem kc_X7_runScript_151 : Cond.constantLong RX7 151 (3) ∈ wsX7_runScript := List.mem_of_getElem? (i := 2) rfl
set_option maxHeartbeats 4000000 in
set_option maxRecDepth 100000 in
/-- runScript -/
theorem c_X7_runScript (l : Launch) (G : vG) (B z g t b : Nat → Nat) (w : Nat) (x : Int64) (Q : vR3 → Prop) (hQ1 : ∀ t, Q t → gB t.2.1 ∧ t.1 5 < 4294967296) (hQ2 : ∀ t, Q t → Q (rTk t)) (hq : Q (rTry (va_up z 0 0) g t b)) (hQ5 : ∀ g t, g < 100000 → Q t → Q (rGc g t).2) (hw : w < 4294967296) : Kc l G yX7_runScript wsX7_runScript rX7_runScript [.ref (B 0), .int (nI w), .long x] [mO B z, iA G (B 3) 427 g, iA G (B 4) 427 t, iA G (B 8) 96 b] (fun v Y => (¬ (1 ≤ w ∧ w < 4 ∧ 0 ≤ x.toInt ∧ x.toInt.toNat < 100000 ^ w) ∧ v = some (.int (nI 0)) ∧ Y = [mO B (va_up z 0 1), iA G (B 3) 427 g, iA G (B 4) 427 t, iA G (B 8) 96 b]) ∨ ((1 ≤ w ∧ w < 4 ∧ 0 ≤ x.toInt ∧ x.toInt.toNat < 100000 ^ w) ∧ v = some (.int (nI (rLs x.toInt.toNat w 0 (rTry (va_up z 0 0) g t b)).1)) ∧ Y = [mO B (rLs x.toInt.toNat w 0 (rTry (va_up z 0 0) g t b)).2.1, iA G (B 3) 427 g, iA G (B 4) 427 (rLs x.toInt.toNat w 0 (rTry (va_up z 0 0) g t b)).2.2.1, iA G (B 8) 96 (rLs x.toInt.toNat w 0 (rTry (va_up z 0 0) g t b)).2.2.2])) 0 0 := by
  refine V_enter (own := RX7) [some (.ref (B 0)), some (.int (nI w)), some (.long x), none, none, none, none, none] (by decide +kernel) rfl rfl (Nat.le_of_ble_eq_true rfl) rfl (fun Γ hR hin => ?_)
  have hkc : 0 ≤ 0 := Nat.le_refl 0
  have hks : 0 ≤ 0 := Nat.le_refl 0
  have LP77 : ∀ (fuel : Nat) (i : Nat) (s : vR3) (u : Option Value), w + 1 ≤ i + fuel → (1 ≤ w ∧ w < 4 ∧ 0 ≤ x.toInt ∧ x.toInt.toNat < 100000 ^ w) → i ≤ w → Q s → (rLs x.toInt.toNat w 0 (rTry (va_up z 0 0) g t b)) = rLs x.toInt.toNat (w - i) i s → V l G (cX7_runScript, 8, wsX7_runScript, RX7, rX7_runScript) Γ 0 0 77 [some (.ref (B 0)), some (.int (nI w)), some (.long x), none, some (.long (pw (w - i))), none, some (.int (nI i)), u] [] [mO B s.1, iA G (B 3) 427 g, iA G (B 4) 427 s.2.1, iA G (B 8) 96 s.2.2] := by
    intro fuel
    induction fuel with
    | zero => intro i s u hf hc hi hqs hfl; exact absurd hf (by omega)
    | succ fuel ih =>
      intro i s u hf hc hi hqs hfl
      obtain ⟨hw1, hw4, hx0, hx1⟩ := id hc
      refine V_iload (i := 6) dX7_runScript_77 rfl ?_
      refine V_iload_n (i := 1) dX7_runScript_79 rfl rfl ?_
      refine V_icmp_ge (tgt := 154) (by omega) (by omega) dX7_runScript_80 rfl (fun h_80 => ?_) (fun h_80 => ?_)
      · refine V_bipush (v := 4294967287) dX7_runScript_154 (by decide) ?_
        refine V_iret hR dX7_runScript_156 hkc hks ?_
        rw [hfl, show w - i = 0 by omega]
        exact Or.inr ⟨hc, rfl, rfl⟩
      · obtain ⟨k9, hk9⟩ : ∃ k, w - i = k + 1 := ⟨w - i - 1, by omega⟩
        rw [hk9]
        refine V_lload (i := 4) dX7_runScript_83 rfl ?_
        refine V_ldc2 (v := 100000) dX7_runScript_85 kc_X7_runScript_185 ?_
        refine V_ldiv dX7_runScript_88 (by decide) ?_
        rw [pw_div (show k9 < 3 by omega)]
        refine V_lstore (i := 4) dX7_runScript_89 rfl rfl ?_
        dsimp only [List.set_cons_zero, List.set_cons_succ]
        refine V_lload_n (i := 2) dX7_runScript_91 rfl rfl ?_
        refine V_lload (i := 4) dX7_runScript_92 rfl ?_
        refine V_ldiv dX7_runScript_94 (pw_n (by omega)) ?_
        refine V_ldc2 (v := 100000) dX7_runScript_95 kc_X7_runScript_185 ?_
        refine V_lrem dX7_runScript_98 (by decide) ?_
        refine V_l2i dX7_runScript_99 (x_g hx0 (by omega)) ?_
        obtain ⟨g9, hg9⟩ : ∃ g, g = x.toInt.toNat / 100000 ^ k9 % 100000 := ⟨_, rfl⟩
        rw [← hg9]
        have hg5 : g9 < 100000 := by rw [hg9]; exact Nat.mod_lt _ (by decide)
        have hR9 : rLs x.toInt.toNat (w - i) i s = (if (rGc g9 s).1 = 0 then (i, (rGc g9 s).2) else rLs x.toInt.toNat k9 (i + 1) (rGc g9 s).2) := by
          rw [hk9, hg9]
          rfl
        refine V_istore (i := 7) dX7_runScript_100 rfl rfl ?_
        dsimp only [List.set_cons_zero, List.set_cons_succ]
        refine V_aload_n (i := 0) dX7_runScript_102 rfl rfl ?_
        refine V_iload (i := 7) dX7_runScript_103 rfl ?_
        refine V_sipush (v := 10000) dX7_runScript_105 (by decide) ?_
        refine V_idiv dX7_runScript_108 (by omega) (by omega) (by omega) ?_
        refine V_iload (i := 7) dX7_runScript_109 rfl ?_
        refine V_sipush (v := 1000) dX7_runScript_111 (by decide) ?_
        refine V_idiv dX7_runScript_114 (by omega) (by omega) (by omega) ?_
        refine V_bipush (v := 10) dX7_runScript_115 (by decide) ?_
        refine V_irem dX7_runScript_117 (by omega) (by omega) (by omega) ?_
        refine V_iload (i := 7) dX7_runScript_118 rfl ?_
        refine V_bipush (v := 100) dX7_runScript_120 (by decide) ?_
        refine V_idiv dX7_runScript_122 (by omega) (by omega) (by omega) ?_
        refine V_bipush (v := 10) dX7_runScript_123 (by decide) ?_
        refine V_irem dX7_runScript_125 (by omega) (by omega) (by omega) ?_
        refine V_iload (i := 7) dX7_runScript_126 rfl ?_
        refine V_bipush (v := 10) dX7_runScript_128 (by decide) ?_
        refine V_idiv dX7_runScript_130 (by omega) (by omega) (by omega) ?_
        refine V_bipush (v := 10) dX7_runScript_131 (by decide) ?_
        refine V_irem dX7_runScript_133 (by omega) (by omega) (by omega) ?_
        refine V_iload (i := 7) dX7_runScript_134 rfl ?_
        refine V_bipush (v := 10) dX7_runScript_136 (by decide) ?_
        refine V_irem dX7_runScript_138 (by omega) (by omega) (by omega) ?_
        refine V_callV (C := RX7) (q := 0) (ci := 6) (As := _) (rest := []) [0, 1, 2, 3] (c_X7_command l G B s.1 g s.2.1 s.2.2 (g9 / 10000) (g9 / 1000 % 10) (g9 / 100 % 10) (g9 / 10 % 10) (g9 % 10) Q hQ1 hQ2 hqs (by omega) (by omega) (by omega) (by omega) (by omega)) vy_X7_command gX7_runScript_X7_command rfl rfl rfl rfl rfl rfl rfl ⟨rfl, rfl⟩ ⟨rfl, rfl⟩ ⟨Nat.zero_le _, Nat.zero_le _⟩ rfl dX7_runScript_139 (fun v Y hE => ?_)
        obtain ⟨rfl, rfl⟩ := hE
        refine ⟨rfl, ?_⟩
        dsimp only [vfill, List.set_cons_zero, List.set_cons_succ, Option.toList, List.cons_append, List.nil_append, Nat.add_zero]
        refine V_if_ne (tgt := 148) (by have := cmR_1 (g9 / 10000) (g9 / 1000 % 10) (g9 / 100 % 10) (g9 / 10 % 10) (g9 % 10) (s.1, s.2.1, s.2.2); omega) dX7_runScript_142 rfl (fun h_142 => ?_) (fun h_142 => ?_)
        · refine V_iinc dX7_runScript_148 rfl (nI_1 _) rfl rfl ?_
          dsimp only [List.set_cons_zero, List.set_cons_succ]
          refine V_goto (tgt := 77) dX7_runScript_151 rfl ?_
          rw [show k9 = w - (i + 1) by omega]
          exact ih (i + 1) (rGc g9 s).2 (some _) (by omega) hc (by omega) (hQ5 g9 s hg5 hqs) (by rw [hfl, hR9, if_neg (show ¬ (rGc g9 s).1 = 0 from h_142), show w - (i + 1) = k9 by omega])
        · refine V_iload (i := 6) dX7_runScript_145 rfl ?_
          refine V_iret hR dX7_runScript_147 hkc hks ?_
          rw [hfl, hR9, if_pos (show (rGc g9 s).1 = 0 from h_142)]
          exact Or.inr ⟨hc, rfl, rfl⟩
  have LP6 : ∀ (fuel : Nat) (k : Nat) (u : Option Value), 4 ≤ k + fuel → k ≤ 3 → (1 ≤ w ∧ w ≤ 3 → k ≤ w) → V l G (cX7_runScript, 8, wsX7_runScript, RX7, rX7_runScript) Γ 0 0 6 [some (.ref (B 0)), some (.int (nI w)), some (.long x), none, some (.long (pw k)), none, some (.int (nI k)), u] [] [mO B z, iA G (B 3) 427 g, iA G (B 4) 427 t, iA G (B 8) 96 b] := by
    intro fuel
    induction fuel with
    | zero => intro k u hf hk hkw0; exact absurd hf (by omega)
    | succ fuel ih =>
      intro k u hf hk hkw0
      refine V_iload (i := 6) dX7_runScript_6 rfl ?_
      refine V_iload_n (i := 1) dX7_runScript_8 rfl rfl ?_
      refine V_icmp_geG (tgt := 32) dX7_runScript_9 rfl (fun h_9 => ?_) (fun h_9 => ?_)
      · refine V_aload_n (i := 0) dX7_runScript_32 rfl rfl ?_
        refine V_iload_n (i := 1) dX7_runScript_33 rfl rfl ?_
        refine V_i2l dX7_runScript_34 ?_
        refine V_lconst dX7_runScript_35 rfl ?_
        refine V_ldc2 (v := 3) dX7_runScript_36 kc_X7_runScript_151 ?_
        refine V_callS (As := _) (rest := _) [] (c_X7_inN l G (w) 1 3 _ _ (by decide) (by decide) hw (by decide)) vy_X7_in gX7_runScript_X7_in rfl rfl rfl rfl ⟨rfl, rfl⟩ ⟨rfl, rfl⟩ ⟨Nat.zero_le _, Nat.zero_le _⟩ rfl dX7_runScript_39 (fun v Y hE => ?_)
        obtain ⟨rfl, rfl⟩ := hE
        refine ⟨rfl, ?_⟩
        dsimp only [vfill, List.set_cons_zero, List.set_cons_succ, Option.toList, List.cons_append, List.nil_append, Nat.add_zero]
        refine V_if_eq (tgt := 61) (by split <;> decide) dX7_runScript_42 rfl (fun h_42 => ?_) (fun h_42 => ?_)
        · refine V_iconst (v := 1) dX7_runScript_61 rfl ?_
          refine V_callV (C := RX7) (q := 0) (ci := 6) (As := _) (rest := []) [0] (c_X7_refused l G B z 1 (by decide)) vy_X7_refused gX7_runScript_X7_refused rfl rfl rfl rfl rfl rfl rfl ⟨rfl, rfl⟩ ⟨rfl, rfl⟩ ⟨Nat.zero_le _, Nat.zero_le _⟩ rfl dX7_runScript_62 (fun v Y hE => ?_)
          obtain ⟨rfl, rfl⟩ := hE
          refine ⟨rfl, ?_⟩
          dsimp only [vfill, List.set_cons_zero, List.set_cons_succ, Option.toList, List.cons_append, List.nil_append, Nat.add_zero]
          refine V_top (b := 1) (by decide) ?_
          refine V_if_eq (tgt := 70) (by omega) dX7_runScript_65 rfl (fun h_65 => ?_) (fun h_65 => ?_)
          · exfalso; omega
          · refine V_iconst (v := 0) dX7_runScript_68 rfl ?_
            refine V_iret hR dX7_runScript_69 hkc hks ?_
            refine Or.inl ⟨fun y9 => ?_, rfl, rfl⟩
            first | exact b00 h_54 ⟨y9.2.2.1, by omega⟩ | exact b00 h_42 (by omega)
        · have hy := b01 h_42
          have hkw : k = w := by
            have hkw9 := hkw0 hy
            first
              | (have := (nI_leS (a := w) (b := k) (by omega) (by omega)).mp h_9; omega)
              | omega
          subst hkw
          refine V_lload_n (i := 2) dX7_runScript_45 rfl rfl ?_
          refine V_lconst dX7_runScript_46 rfl ?_
          refine V_lload (i := 4) dX7_runScript_47 rfl ?_
          refine V_lconst dX7_runScript_49 rfl ?_
          refine V_lsub dX7_runScript_50 ?_
          refine V_callS (As := _) (rest := _) [] (c_X7_in l G x 0 (pw k - 1)) vy_X7_in gX7_runScript_X7_in rfl rfl rfl rfl ⟨rfl, rfl⟩ ⟨rfl, rfl⟩ ⟨Nat.zero_le _, Nat.zero_le _⟩ rfl dX7_runScript_51 (fun v Y hE => ?_)
          obtain ⟨rfl, rfl⟩ := hE
          refine ⟨rfl, ?_⟩
          dsimp only [vfill, List.set_cons_zero, List.set_cons_succ, Option.toList, List.cons_append, List.nil_append, Nat.add_zero]
          rw [in_c (show (0 : Int64).toInt = 0 by decide) (pw_1 (show k ≤ 3 by omega))]
          refine V_if_eq (tgt := 61) (by split <;> decide) dX7_runScript_54 rfl (fun h_54 => ?_) (fun h_54 => ?_)
          · refine V_iconst (v := 1) dX7_runScript_61 rfl ?_
            refine V_callV (C := RX7) (q := 0) (ci := 6) (As := _) (rest := []) [0] (c_X7_refused l G B z 1 (by decide)) vy_X7_refused gX7_runScript_X7_refused rfl rfl rfl rfl rfl rfl rfl ⟨rfl, rfl⟩ ⟨rfl, rfl⟩ ⟨Nat.zero_le _, Nat.zero_le _⟩ rfl dX7_runScript_62 (fun v Y hE => ?_)
            obtain ⟨rfl, rfl⟩ := hE
            refine ⟨rfl, ?_⟩
            dsimp only [vfill, List.set_cons_zero, List.set_cons_succ, Option.toList, List.cons_append, List.nil_append, Nat.add_zero]
            refine V_top (b := 1) (by decide) ?_
            refine V_if_eq (tgt := 70) (by omega) dX7_runScript_65 rfl (fun h_65 => ?_) (fun h_65 => ?_)
            · exfalso; omega
            · refine V_iconst (v := 0) dX7_runScript_68 rfl ?_
              refine V_iret hR dX7_runScript_69 hkc hks ?_
              refine Or.inl ⟨fun y9 => ?_, rfl, rfl⟩
              first | exact b00 h_54 ⟨y9.2.2.1, by omega⟩ | exact b00 h_42 (by omega)
          · have hz := b01 h_54
            refine V_iconst (v := 0) dX7_runScript_57 rfl ?_
            refine V_goto (tgt := 62) dX7_runScript_58 rfl ?_
            refine V_callV (C := RX7) (q := 0) (ci := 6) (As := _) (rest := []) [0] (c_X7_refused l G B z 0 (by decide)) vy_X7_refused gX7_runScript_X7_refused rfl rfl rfl rfl rfl rfl rfl ⟨rfl, rfl⟩ ⟨rfl, rfl⟩ ⟨Nat.zero_le _, Nat.zero_le _⟩ rfl dX7_runScript_62 (fun v Y hE => ?_)
            obtain ⟨rfl, rfl⟩ := hE
            refine ⟨rfl, ?_⟩
            dsimp only [vfill, List.set_cons_zero, List.set_cons_succ, Option.toList, List.cons_append, List.nil_append, Nat.add_zero]
            refine V_top (b := 0) (by decide) ?_
            refine V_if_eq (tgt := 70) (by omega) dX7_runScript_65 rfl (fun h_65 => ?_) (fun h_65 => ?_)
            · refine V_aload_n (i := 0) dX7_runScript_70 rfl rfl ?_
              refine V_callV (C := RX7) (q := 0) (ci := 6) (As := []) (rest := []) [0, 1, 2, 3] (c_X7_tryNow l G B (va_up z 0 0) g t b) vy_X7_tryNow gX7_runScript_X7_tryNow rfl rfl rfl rfl rfl rfl rfl ⟨rfl, rfl⟩ ⟨rfl, rfl⟩ ⟨Nat.zero_le _, Nat.zero_le _⟩ rfl dX7_runScript_71 (fun v Y hE => ?_)
              obtain ⟨rfl, rfl⟩ := hE
              refine ⟨rfl, ?_⟩
              dsimp only [vfill, List.set_cons_zero, List.set_cons_succ, Option.toList, List.cons_append, List.nil_append, Nat.add_zero]
              refine V_iconst (v := 0) dX7_runScript_74 rfl ?_
              refine V_istore (i := 6) dX7_runScript_75 rfl rfl ?_
              dsimp only [List.set_cons_zero, List.set_cons_succ]
              exact LP77 (k + 1) 0 (rTry (va_up z 0 0) g t b) u (by omega) ⟨by omega, by omega, hz.1, by omega⟩ (Nat.zero_le _) hq rfl
            · exfalso; omega
      · refine V_iload (i := 6) dX7_runScript_12 rfl ?_
        refine V_iconst (v := 3) dX7_runScript_14 rfl ?_
        refine V_icmp_ge (tgt := 32) (by omega) (by omega) dX7_runScript_15 rfl (fun h_15 => ?_) (fun h_15 => ?_)
        · refine V_aload_n (i := 0) dX7_runScript_32 rfl rfl ?_
          refine V_iload_n (i := 1) dX7_runScript_33 rfl rfl ?_
          refine V_i2l dX7_runScript_34 ?_
          refine V_lconst dX7_runScript_35 rfl ?_
          refine V_ldc2 (v := 3) dX7_runScript_36 kc_X7_runScript_151 ?_
          refine V_callS (As := _) (rest := _) [] (c_X7_inN l G (w) 1 3 _ _ (by decide) (by decide) hw (by decide)) vy_X7_in gX7_runScript_X7_in rfl rfl rfl rfl ⟨rfl, rfl⟩ ⟨rfl, rfl⟩ ⟨Nat.zero_le _, Nat.zero_le _⟩ rfl dX7_runScript_39 (fun v Y hE => ?_)
          obtain ⟨rfl, rfl⟩ := hE
          refine ⟨rfl, ?_⟩
          dsimp only [vfill, List.set_cons_zero, List.set_cons_succ, Option.toList, List.cons_append, List.nil_append, Nat.add_zero]
          refine V_if_eq (tgt := 61) (by split <;> decide) dX7_runScript_42 rfl (fun h_42 => ?_) (fun h_42 => ?_)
          · refine V_iconst (v := 1) dX7_runScript_61 rfl ?_
            refine V_callV (C := RX7) (q := 0) (ci := 6) (As := _) (rest := []) [0] (c_X7_refused l G B z 1 (by decide)) vy_X7_refused gX7_runScript_X7_refused rfl rfl rfl rfl rfl rfl rfl ⟨rfl, rfl⟩ ⟨rfl, rfl⟩ ⟨Nat.zero_le _, Nat.zero_le _⟩ rfl dX7_runScript_62 (fun v Y hE => ?_)
            obtain ⟨rfl, rfl⟩ := hE
            refine ⟨rfl, ?_⟩
            dsimp only [vfill, List.set_cons_zero, List.set_cons_succ, Option.toList, List.cons_append, List.nil_append, Nat.add_zero]
            refine V_top (b := 1) (by decide) ?_
            refine V_if_eq (tgt := 70) (by omega) dX7_runScript_65 rfl (fun h_65 => ?_) (fun h_65 => ?_)
            · exfalso; omega
            · refine V_iconst (v := 0) dX7_runScript_68 rfl ?_
              refine V_iret hR dX7_runScript_69 hkc hks ?_
              refine Or.inl ⟨fun y9 => ?_, rfl, rfl⟩
              first | exact b00 h_54 ⟨y9.2.2.1, by omega⟩ | exact b00 h_42 (by omega)
          · have hy := b01 h_42
            have hkw : k = w := by
              have hkw9 := hkw0 hy
              first
                | (have := (nI_leS (a := w) (b := k) (by omega) (by omega)).mp h_9; omega)
                | omega
            subst hkw
            refine V_lload_n (i := 2) dX7_runScript_45 rfl rfl ?_
            refine V_lconst dX7_runScript_46 rfl ?_
            refine V_lload (i := 4) dX7_runScript_47 rfl ?_
            refine V_lconst dX7_runScript_49 rfl ?_
            refine V_lsub dX7_runScript_50 ?_
            refine V_callS (As := _) (rest := _) [] (c_X7_in l G x 0 (pw k - 1)) vy_X7_in gX7_runScript_X7_in rfl rfl rfl rfl ⟨rfl, rfl⟩ ⟨rfl, rfl⟩ ⟨Nat.zero_le _, Nat.zero_le _⟩ rfl dX7_runScript_51 (fun v Y hE => ?_)
            obtain ⟨rfl, rfl⟩ := hE
            refine ⟨rfl, ?_⟩
            dsimp only [vfill, List.set_cons_zero, List.set_cons_succ, Option.toList, List.cons_append, List.nil_append, Nat.add_zero]
            rw [in_c (show (0 : Int64).toInt = 0 by decide) (pw_1 (show k ≤ 3 by omega))]
            refine V_if_eq (tgt := 61) (by split <;> decide) dX7_runScript_54 rfl (fun h_54 => ?_) (fun h_54 => ?_)
            · refine V_iconst (v := 1) dX7_runScript_61 rfl ?_
              refine V_callV (C := RX7) (q := 0) (ci := 6) (As := _) (rest := []) [0] (c_X7_refused l G B z 1 (by decide)) vy_X7_refused gX7_runScript_X7_refused rfl rfl rfl rfl rfl rfl rfl ⟨rfl, rfl⟩ ⟨rfl, rfl⟩ ⟨Nat.zero_le _, Nat.zero_le _⟩ rfl dX7_runScript_62 (fun v Y hE => ?_)
              obtain ⟨rfl, rfl⟩ := hE
              refine ⟨rfl, ?_⟩
              dsimp only [vfill, List.set_cons_zero, List.set_cons_succ, Option.toList, List.cons_append, List.nil_append, Nat.add_zero]
              refine V_top (b := 1) (by decide) ?_
              refine V_if_eq (tgt := 70) (by omega) dX7_runScript_65 rfl (fun h_65 => ?_) (fun h_65 => ?_)
              · exfalso; omega
              · refine V_iconst (v := 0) dX7_runScript_68 rfl ?_
                refine V_iret hR dX7_runScript_69 hkc hks ?_
                refine Or.inl ⟨fun y9 => ?_, rfl, rfl⟩
                first | exact b00 h_54 ⟨y9.2.2.1, by omega⟩ | exact b00 h_42 (by omega)
            · have hz := b01 h_54
              refine V_iconst (v := 0) dX7_runScript_57 rfl ?_
              refine V_goto (tgt := 62) dX7_runScript_58 rfl ?_
              refine V_callV (C := RX7) (q := 0) (ci := 6) (As := _) (rest := []) [0] (c_X7_refused l G B z 0 (by decide)) vy_X7_refused gX7_runScript_X7_refused rfl rfl rfl rfl rfl rfl rfl ⟨rfl, rfl⟩ ⟨rfl, rfl⟩ ⟨Nat.zero_le _, Nat.zero_le _⟩ rfl dX7_runScript_62 (fun v Y hE => ?_)
              obtain ⟨rfl, rfl⟩ := hE
              refine ⟨rfl, ?_⟩
              dsimp only [vfill, List.set_cons_zero, List.set_cons_succ, Option.toList, List.cons_append, List.nil_append, Nat.add_zero]
              refine V_top (b := 0) (by decide) ?_
              refine V_if_eq (tgt := 70) (by omega) dX7_runScript_65 rfl (fun h_65 => ?_) (fun h_65 => ?_)
              · refine V_aload_n (i := 0) dX7_runScript_70 rfl rfl ?_
                refine V_callV (C := RX7) (q := 0) (ci := 6) (As := []) (rest := []) [0, 1, 2, 3] (c_X7_tryNow l G B (va_up z 0 0) g t b) vy_X7_tryNow gX7_runScript_X7_tryNow rfl rfl rfl rfl rfl rfl rfl ⟨rfl, rfl⟩ ⟨rfl, rfl⟩ ⟨Nat.zero_le _, Nat.zero_le _⟩ rfl dX7_runScript_71 (fun v Y hE => ?_)
                obtain ⟨rfl, rfl⟩ := hE
                refine ⟨rfl, ?_⟩
                dsimp only [vfill, List.set_cons_zero, List.set_cons_succ, Option.toList, List.cons_append, List.nil_append, Nat.add_zero]
                refine V_iconst (v := 0) dX7_runScript_74 rfl ?_
                refine V_istore (i := 6) dX7_runScript_75 rfl rfl ?_
                dsimp only [List.set_cons_zero, List.set_cons_succ]
                exact LP77 (k + 1) 0 (rTry (va_up z 0 0) g t b) u (by omega) ⟨by omega, by omega, hz.1, by omega⟩ (Nat.zero_le _) hq rfl
              · exfalso; omega
        · refine V_lload (i := 4) dX7_runScript_18 rfl ?_
          refine V_ldc2 (v := 100000) dX7_runScript_20 kc_X7_runScript_185 ?_
          refine V_lmul dX7_runScript_23 ?_
          refine V_lstore (i := 4) dX7_runScript_24 rfl rfl ?_
          dsimp only [List.set_cons_zero, List.set_cons_succ]
          refine V_iinc dX7_runScript_26 rfl (nI_1 _) rfl rfl ?_
          dsimp only [List.set_cons_zero, List.set_cons_succ]
          refine V_goto (tgt := 6) dX7_runScript_29 rfl ?_
          exact ih (k + 1) u (by omega) (by omega) (fun hy => by
            have hkw9 := hkw0 hy
            have : ¬ w ≤ k := fun z => h_9 ((nI_leS (a := w) (b := k) (by omega) (by omega)).mpr z)
            omega)
  refine V_lconst dX7_runScript_0 rfl ?_
  refine V_lstore (i := 4) dX7_runScript_1 rfl rfl ?_
  dsimp only [List.set_cons_zero, List.set_cons_succ]
  refine V_iconst (v := 0) dX7_runScript_3 rfl ?_
  refine V_istore (i := 6) dX7_runScript_4 rfl rfl ?_
  dsimp only [List.set_cons_zero, List.set_cons_succ]
  exact LP6 4 0 none (by omega) (by omega) (fun _ => Nat.zero_le _)

end REF17
