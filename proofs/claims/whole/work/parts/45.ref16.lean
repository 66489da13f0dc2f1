section REF16
def rLp : Nat → (Nat → Nat) → (Nat → Nat) → (Nat → Nat) → Nat × (Nat → Nat) × (Nat → Nat)
  | 0, z, r, _ => (1, z, r)
  | f + 1, z, r, tx => if z 2 < z 1 then (if (rPt z r tx).1 = 0 then (0, (rPt z r tx).2.1, (rPt z r tx).2.2) else rLp f (rPt z r tx).2.1 (rPt z r tx).2.2 tx) else (1, z, r)
def rZ0 (z : Nat → Nat) : Nat → Nat := va_up (va_up (va_up z 2 0) 6 0) 7 0
def rEg (z r tx : Nat → Nat) : Nat × (Nat → Nat) × (Nat → Nat) :=
  if z 1 = 0 ∨ ¬ tx 0 = 69 then (0, rZ0 z, fiK 427 r) else rLp 141 (va_up (rZ0 z) 2 1) (fiK 427 r) tx
theorem rZ0_1 (z : Nat → Nat) : rZ0 z 1 = z 1 := by
  show va_up (va_up (va_up z 2 0) 6 0) 7 0 1 = z 1
  rw [up_n (by decide), up_n (by decide), up_n (by decide)]
theorem rZ1_ok {z r : Nat → Nat} (h1 : z 1 ≤ 140) (h : ¬ z 1 = 0) : pOk (va_up (rZ0 z) 2 1) (fiK 427 r) := by
  refine ⟨?_, ?_, ?_, fun k hk => ?_⟩
  · rw [up_n (by decide), rZ0_1]; exact h1
  · rw [up_s, up_n (by decide), rZ0_1]; omega
  · show va_up (va_up (va_up (va_up z 2 0) 6 0) 7 0) 2 1 6 ≤ 96
    rw [up_n (by decide), up_n (by decide), up_s]; decide
  · unfold fiK
    rw [if_pos (by omega)]
    decide

abbrev rX7_readEngine : Room := { frames := 4, cells := 0, slots := 0, locals := 93 }
theorem vy_X7_readEngine : vY yX7_readEngine wsX7_readEngine cX7_readEngine 2 (some .boolean) 0 := ⟨⟨_, rfl⟩, by decide +kernel, by decide +kernel, by decide +kernel⟩
theorem fl_X7_readEngine_106 : Cond.fieldLink RX7 106 "OrderChainsModel" "spot" "I" ∈ wsX7_readEngine := List.mem_of_getElem? (i := 1) rfl
theorem il_X7_readEngine_X7 : ∀ w ∈ wsX70, w ∈ wsX7_readEngine := fun _ h => List.mem_cons_of_mem _ (List.mem_append_right _ h)
theorem fl_X7_readEngine_99 : Cond.fieldLink RX7 99 "OrderChainsModel" "size" "I" ∈ wsX7_readEngine := List.mem_of_getElem? (i := 5) rfl
theorem fl_X7_readEngine_116 : Cond.fieldLink RX7 116 "OrderChainsModel" "nextCell" "I" ∈ wsX7_readEngine := List.mem_of_getElem? (i := 3) rfl
theorem fl_X7_readEngine_122 : Cond.fieldLink RX7 122 "OrderChainsModel" "owner" "I" ∈ wsX7_readEngine := List.mem_of_getElem? (i := 4) rfl
theorem fl_X7_readEngine_7 : Cond.fieldLink RX7 7 "OrderChainsModel" "text" "[I" ∈ wsX7_readEngine := List.mem_of_getElem? (i := 6) rfl
theorem fl_X7_readEngine_13 : Cond.fieldLink RX7 13 "OrderChainsModel" "read" "[I" ∈ wsX7_readEngine := List.mem_of_getElem? (i := 2) rfl
set_option maxHeartbeats 4000000 in
set_option maxRecDepth 100000 in
/-- readEngine -/
theorem c_X7_readEngine (l : Launch) (G : vG) (B z r tx : Nat → Nat) (h1 : z 1 ≤ 140) (ht : ∀ k, k < 140 → tx k < 256) : Kc l G yX7_readEngine wsX7_readEngine rX7_readEngine [.ref (B 0)] [mO B z, iA G (B 1) 140 tx, iA G (B 2) 427 r] (fun v Y => v = some (.int (nI (rEg z r tx).1)) ∧ Y = [mO B (rEg z r tx).2.1, iA G (B 1) 140 tx, iA G (B 2) 427 (rEg z r tx).2.2]) 0 0 := by
  refine V_enter (own := RX7) [some (.ref (B 0)), none] (by decide +kernel) rfl rfl (Nat.le_of_ble_eq_true rfl) rfl (fun Γ hR hin => ?_)
  have hkc : 0 ≤ 0 := Nat.le_refl 0
  have hks : 0 ≤ 0 := Nat.le_refl 0
  have LP64 : ∀ (fuel : Nat) (f9 g9 : Nat) (zz rr : Nat → Nat), f9 < fuel → pOk zz rr → g9 ≤ 1 → (g9 = 0 ∨ zz 1 < f9 + zz 2) → (rEg z r tx) = (if g9 = 0 then (0, zz, rr) else rLp f9 zz rr tx) → V l G (cX7_readEngine, 2, wsX7_readEngine, RX7, rX7_readEngine) Γ 0 0 64 [some (.ref (B 0)), some (.int (nI g9))] [] [mO B zz, iA G (B 1) 140 tx, iA G (B 2) 427 rr] := by
    intro fuel
    induction fuel with
    | zero => intro f9 g9 zz rr hf hp hg hq hR0; exact absurd hf (by omega)
    | succ fuel ih =>
      intro f9 g9 zz rr hf hp hg hq hR0
      obtain ⟨p1, p2, p6, ps⟩ := id hp
      refine V_iload_n (i := 1) dX7_readEngine_64 rfl rfl ?_
      refine V_if_eq (tgt := 87) (by omega) dX7_readEngine_65 rfl (fun h_65 => ?_) (fun h_65 => ?_)
      · refine V_iload_n (i := 1) dX7_readEngine_87 rfl rfl ?_
        refine V_zret hR dX7_readEngine_88 (by first | exact Or.inl rfl | exact Or.inr rfl | omega) hkc hks ?_
        rw [hR0]
        first | (rw [if_pos (show g9 = 0 by omega)]; exact ⟨by rw [show g9 = 0 by omega], rfl⟩) | (rw [if_neg (show ¬ g9 = 0 by omega)]; obtain ⟨f, rfl⟩ : ∃ f, f9 = f + 1 := ⟨f9 - 1, by omega⟩; unfold rLp; rw [if_neg (show ¬ zz 2 < zz 1 by omega)]; exact ⟨by rw [show g9 = 1 by omega], rfl⟩)
      · refine V_aload_n (i := 0) dX7_readEngine_68 rfl rfl ?_
        refine V_get (C := RX7) (T := TX7) (N := 17) (ci := 6) (q := 0) (ref := "OrderChainsModel") 3 rfl il_X7_readEngine_X7 rfl rfl fl_X7_readEngine_106 rfl rfl dX7_readEngine_69 ?_
        refine V_aload_n (i := 0) dX7_readEngine_72 rfl rfl ?_
        refine V_get (C := RX7) (T := TX7) (N := 17) (ci := 6) (q := 0) (ref := "OrderChainsModel") 2 rfl il_X7_readEngine_X7 rfl rfl fl_X7_readEngine_99 rfl rfl dX7_readEngine_73 ?_
        refine V_icmp_ge (tgt := 87) (by omega) (by omega) dX7_readEngine_76 rfl (fun h_76 => ?_) (fun h_76 => ?_)
        · refine V_iload_n (i := 1) dX7_readEngine_87 rfl rfl ?_
          refine V_zret hR dX7_readEngine_88 (by first | exact Or.inl rfl | exact Or.inr rfl | omega) hkc hks ?_
          rw [hR0]
          first | (rw [if_pos (show g9 = 0 by omega)]; exact ⟨by rw [show g9 = 0 by omega], rfl⟩) | (rw [if_neg (show ¬ g9 = 0 by omega)]; obtain ⟨f, rfl⟩ : ∃ f, f9 = f + 1 := ⟨f9 - 1, by omega⟩; unfold rLp; rw [if_neg (show ¬ zz 2 < zz 1 by omega)]; exact ⟨by rw [show g9 = 1 by omega], rfl⟩)
        · refine V_aload_n (i := 0) dX7_readEngine_79 rfl rfl ?_
          refine V_callV (C := RX7) (q := 0) (ci := 6) (As := []) (rest := []) [0, 1, 2] (c_X7_readPart l G B zz rr tx p1 (by omega) ht p6 ps) vy_X7_readPart gX7_readEngine_X7_readPart rfl rfl rfl rfl rfl rfl rfl ⟨rfl, rfl⟩ ⟨rfl, rfl⟩ ⟨Nat.zero_le _, Nat.zero_le _⟩ rfl dX7_readEngine_80 (fun v Y hE => ?_)
          obtain ⟨rfl, rfl⟩ := hE
          refine ⟨rfl, ?_⟩
          dsimp only [vfill, List.set_cons_zero, List.set_cons_succ, Option.toList, List.cons_append, List.nil_append, Nat.add_zero]
          have po := rPt_ok (tx := tx) hp (by omega)
          obtain ⟨f, rfl⟩ : ∃ f, f9 = f + 1 := ⟨f9 - 1, by omega⟩
          refine V_istore_n (i := 1) dX7_readEngine_83 rfl rfl rfl ?_
          dsimp only [List.set_cons_zero, List.set_cons_succ]
          refine V_goto (tgt := 64) dX7_readEngine_84 rfl ?_
          have hn9 : (rPt zz rr tx).1 = 0 ∨ (rPt zz rr tx).2.1 1 < f + (rPt zz rr tx).2.1 2 := po.2.elim Or.inl (fun e => Or.inr (by rw [rPt_1]; omega))
          have hr9 : rEg z r tx = if (rPt zz rr tx).1 = 0 then (0, (rPt zz rr tx).2.1, (rPt zz rr tx).2.2) else rLp f (rPt zz rr tx).2.1 (rPt zz rr tx).2.2 tx := by
            rw [hR0, if_neg (show ¬ g9 = 0 by omega)]
            show (if _ then _ else _ : Nat × (Nat → Nat) × (Nat → Nat)) = _
            rw [if_pos (show zz 2 < zz 1 by omega)]
          exact ih f (rPt zz rr tx).1 (rPt zz rr tx).2.1 (rPt zz rr tx).2.2 (by omega) po.1 (po.2.elim (fun e => by omega) (fun e => by omega)) hn9 hr9
  have LP7 : ∀ (fuel : Nat) (k : Nat) (r9 : Nat → Nat), 428 ≤ k + fuel → k ≤ 427 → r9 = fiK k r → V l G (cX7_readEngine, 2, wsX7_readEngine, RX7, rX7_readEngine) Γ 0 0 7 [some (.ref (B 0)), some (.int (nI k))] [] [mO B (va_up z 2 0), iA G (B 1) 140 tx, iA G (B 2) 427 r9] := by
    intro fuel
    induction fuel with
    | zero => intro k r9 hf hk hr9; exact absurd hf (by omega)
    | succ fuel ih =>
      intro k r9 hf hk hr9
      refine V_iload_n (i := 1) dX7_readEngine_7 rfl rfl ?_
      refine V_sipush (v := 427) dX7_readEngine_8 (by decide) ?_
      refine V_icmp_ge (tgt := 27) (by omega) (by omega) dX7_readEngine_11 rfl (fun h_11 => ?_) (fun h_11 => ?_)
      · have hk9 : k = 427 := by omega
        subst hk9
        subst hr9
        have e1 : va_up z 2 0 1 = z 1 := up_n (by decide)
        have ht0 := ht 0 (by decide)
        refine V_aload_n (i := 0) dX7_readEngine_27 rfl rfl ?_
        refine V_iconst (v := 0) dX7_readEngine_28 rfl ?_
        refine V_put (C := RX7) (T := TX7) (N := 17) (ci := 6) (q := 0) (ref := "OrderChainsModel") (ty := .int) (ty0 := tyX7) 14 rfl il_X7_readEngine_X7 tyX7_ok nmX7 rfl rfl fl_X7_readEngine_116 rfl rfl rfl rfl rfl rfl dX7_readEngine_29 ?_
        dsimp only [List.set_cons_zero, List.set_cons_succ]
        refine V_aload_n (i := 0) dX7_readEngine_32 rfl rfl ?_
        refine V_iconst (v := 0) dX7_readEngine_33 rfl ?_
        refine V_put (C := RX7) (T := TX7) (N := 17) (ci := 6) (q := 0) (ref := "OrderChainsModel") (ty := .int) (ty0 := tyX7) 15 rfl il_X7_readEngine_X7 tyX7_ok nmX7 rfl rfl fl_X7_readEngine_122 rfl rfl rfl rfl rfl rfl dX7_readEngine_34 ?_
        dsimp only [List.set_cons_zero, List.set_cons_succ]
        refine V_aload_n (i := 0) dX7_readEngine_37 rfl rfl ?_
        refine V_get (C := RX7) (T := TX7) (N := 17) (ci := 6) (q := 0) (ref := "OrderChainsModel") 2 rfl il_X7_readEngine_X7 rfl rfl fl_X7_readEngine_99 rfl rfl dX7_readEngine_38 ?_
        refine V_if_eq (tgt := 55) (by omega) dX7_readEngine_41 rfl (fun h_41 => ?_) (fun h_41 => ?_)
        · refine V_iconst (v := 0) dX7_readEngine_55 rfl ?_
          refine V_zret hR dX7_readEngine_56 (by first | exact Or.inl rfl | exact Or.inr rfl | omega) hkc hks ?_
          unfold rEg
          rw [if_pos (show z 1 = 0 ∨ ¬ tx 0 = 69 by omega)]
          exact ⟨rfl, rfl⟩
        · refine V_aload_n (i := 0) dX7_readEngine_44 rfl rfl ?_
          refine V_get (C := RX7) (T := TX7) (N := 17) (ci := 6) (q := 0) (ref := "OrderChainsModel") 1 rfl il_X7_readEngine_X7 rfl rfl fl_X7_readEngine_7 rfl rfl dX7_readEngine_45 ?_
          refine V_iconst (v := 0) dX7_readEngine_48 rfl ?_
          refine V_iald (q := 1) rfl (by omega) rfl dX7_readEngine_49 ?_
          refine V_bipush (v := 69) dX7_readEngine_50 (by decide) ?_
          refine V_icmp_eq (tgt := 57) (by omega) (by omega) dX7_readEngine_52 rfl (fun h_52 => ?_) (fun h_52 => ?_)
          · refine V_aload_n (i := 0) dX7_readEngine_57 rfl rfl ?_
            refine V_iconst (v := 1) dX7_readEngine_58 rfl ?_
            refine V_put (C := RX7) (T := TX7) (N := 17) (ci := 6) (q := 0) (ref := "OrderChainsModel") (ty := .int) (ty0 := tyX7) 3 rfl il_X7_readEngine_X7 tyX7_ok nmX7 rfl rfl fl_X7_readEngine_106 rfl rfl rfl rfl rfl rfl dX7_readEngine_59 ?_
            dsimp only [List.set_cons_zero, List.set_cons_succ]
            refine V_iconst (v := 1) dX7_readEngine_62 rfl ?_
            refine V_istore_n (i := 1) dX7_readEngine_63 rfl rfl rfl ?_
            dsimp only [List.set_cons_zero, List.set_cons_succ]
            exact LP64 142 141 1 _ _ (by omega) (rZ1_ok h1 (by omega)) (by omega) (Or.inr (by rw [up_s]; have := rZ0_1 z; rw [up_n (by decide)]; omega)) (by unfold rEg; rw [if_neg (show ¬ (z 1 = 0 ∨ ¬ tx 0 = 69) by omega)]; rfl)
          · refine V_iconst (v := 0) dX7_readEngine_55 rfl ?_
            refine V_zret hR dX7_readEngine_56 (by first | exact Or.inl rfl | exact Or.inr rfl | omega) hkc hks ?_
            unfold rEg
            rw [if_pos (show z 1 = 0 ∨ ¬ tx 0 = 69 by omega)]
            exact ⟨rfl, rfl⟩
      · refine V_aload_n (i := 0) dX7_readEngine_14 rfl rfl ?_
        refine V_get (C := RX7) (T := TX7) (N := 17) (ci := 6) (q := 0) (ref := "OrderChainsModel") 4 rfl il_X7_readEngine_X7 rfl rfl fl_X7_readEngine_13 rfl rfl dX7_readEngine_15 ?_
        refine V_iload_n (i := 1) dX7_readEngine_18 rfl rfl ?_
        refine V_iconst (v := 0) dX7_readEngine_19 rfl ?_
        refine V_iast (q := 2) rfl (by omega) rfl dX7_readEngine_20 ?_
        dsimp only [List.set_cons_zero, List.set_cons_succ]
        refine V_iinc dX7_readEngine_21 rfl (nI_1 _) rfl rfl ?_
        dsimp only [List.set_cons_zero, List.set_cons_succ]
        refine V_goto (tgt := 7) dX7_readEngine_24 rfl ?_
        exact ih (k + 1) _ (by omega) (by omega) (by rw [hr9, fiK_s])
  refine V_aload_n (i := 0) dX7_readEngine_0 rfl rfl ?_
  refine V_iconst (v := 0) dX7_readEngine_1 rfl ?_
  refine V_put (C := RX7) (T := TX7) (N := 17) (ci := 6) (q := 0) (ref := "OrderChainsModel") (ty := .int) (ty0 := tyX7) 3 rfl il_X7_readEngine_X7 tyX7_ok nmX7 rfl rfl fl_X7_readEngine_106 rfl rfl rfl rfl rfl rfl dX7_readEngine_2 ?_
  dsimp only [List.set_cons_zero, List.set_cons_succ]
  refine V_iconst (v := 0) dX7_readEngine_5 rfl ?_
  refine V_istore_n (i := 1) dX7_readEngine_6 rfl rfl rfl ?_
  dsimp only [List.set_cons_zero, List.set_cons_succ]
  exact LP7 428 0 r (by omega) (by omega) (fiK_0 r).symm

end REF16
