abbrev rX2_isForeign : Room := { frames := 0, cells := 0, slots := 0, locals := 0 }
theorem vy_X2_isForeign : vY yX2_isForeign wsX2_isForeign cX2_isForeign 3 (some .boolean) 2 := ⟨⟨_, rfl⟩, by decide +kernel, by decide +kernel, by decide +kernel⟩
theorem fl_X2_isForeign_15 : Cond.fieldLink RX2 15 "OrderChains$Engine" "owners" "[I" ∈ wsX2_isForeign := List.mem_of_getElem? (i := 1) rfl
theorem il_X2_isForeign_X2 : ∀ w ∈ wsX20, w ∈ wsX2_isForeign := fun _ h => List.mem_cons_of_mem _ (List.mem_append_right _ h)
set_option maxHeartbeats 4000000 in
set_option maxRecDepth 100000 in
/-- Engine.isForeign -/
theorem c_X2_isForeign (l : Launch) (G : vG) (a own s : Nat → Nat) (h c : Nat) (hh : h < 3) (hc : c < 96) (ho : own c < 4294967296) : Kc l G yX2_isForeign wsX2_isForeign rX2_isForeign [.ref (a 0), .int (nI h), .int (nI c)] [eO a s, iA G (a 2) 96 own] (fun r Y => r = some (.int (nI (forn own h c))) ∧ Y = [eO a s, iA G (a 2) 96 own]) 0 0 := by
  refine V_enter (own := RX2) [some (.ref (a 0)), some (.int (nI h)), some (.int (nI c))] (by decide +kernel) rfl rfl (Nat.le_of_ble_eq_true rfl) rfl (fun Γ hR hin => ?_)
  have hkc : 0 ≤ 0 := Nat.le_refl 0
  have hks : 0 ≤ 0 := Nat.le_refl 0
  refine V_aload_n (i := 0) dX2_isForeign_0 rfl rfl ?_
  refine V_get (C := RX2) (T := TX2) (N := 11) (ci := 2) (q := 0) (ref := "OrderChains$Engine") 1 rfl il_X2_isForeign_X2 rfl rfl fl_X2_isForeign_15 rfl rfl dX2_isForeign_1 ?_
  refine V_iload_n (i := 2) dX2_isForeign_4 rfl rfl ?_
  refine V_iald (q := 1) rfl (by omega) rfl dX2_isForeign_5 ?_
  refine V_if_eq (tgt := 25) ho dX2_isForeign_6 rfl (fun h_6 => ?_) (fun h_6 => ?_)
  · refine V_iconst (v := 0) dX2_isForeign_25 rfl ?_
    refine V_zret hR dX2_isForeign_26 (by first | exact Or.inl rfl | exact Or.inr rfl | omega) hkc hks ?_
    refine ⟨?_, rfl⟩
    unfold forn
    first | (rw [if_pos (Or.inl h_6)]; done) | (rw [if_pos (Or.inr h_18)]; done) | (rw [if_neg (fun z => z.elim h_6 h_18)]; done)
  · refine V_aload_n (i := 0) dX2_isForeign_9 rfl rfl ?_
    refine V_get (C := RX2) (T := TX2) (N := 11) (ci := 2) (q := 0) (ref := "OrderChains$Engine") 1 rfl il_X2_isForeign_X2 rfl rfl fl_X2_isForeign_15 rfl rfl dX2_isForeign_10 ?_
    refine V_iload_n (i := 2) dX2_isForeign_13 rfl rfl ?_
    refine V_iald (q := 1) rfl (by omega) rfl dX2_isForeign_14 ?_
    refine V_iload_n (i := 1) dX2_isForeign_15 rfl rfl ?_
    refine V_iconst (v := 1) dX2_isForeign_16 rfl ?_
    refine V_iadd dX2_isForeign_17 ?_
    refine V_icmp_eq (tgt := 25) ho (by omega) dX2_isForeign_18 rfl (fun h_18 => ?_) (fun h_18 => ?_)
    · refine V_iconst (v := 0) dX2_isForeign_25 rfl ?_
      refine V_zret hR dX2_isForeign_26 (by first | exact Or.inl rfl | exact Or.inr rfl | omega) hkc hks ?_
      refine ⟨?_, rfl⟩
      unfold forn
      first | (rw [if_pos (Or.inl h_6)]; done) | (rw [if_pos (Or.inr h_18)]; done) | (rw [if_neg (fun z => z.elim h_6 h_18)]; done)
    · refine V_iconst (v := 1) dX2_isForeign_21 rfl ?_
      refine V_goto (tgt := 26) dX2_isForeign_22 rfl ?_
      refine V_zret hR dX2_isForeign_26 (by first | exact Or.inl rfl | exact Or.inr rfl | omega) hkc hks ?_
      refine ⟨?_, rfl⟩
      unfold forn
      first | (rw [if_pos (Or.inl h_6)]; done) | (rw [if_pos (Or.inr h_18)]; done) | (rw [if_neg (fun z => z.elim h_6 h_18)]; done)

