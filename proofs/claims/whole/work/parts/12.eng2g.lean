abbrev rX2_choose : Room := { frames := 2, cells := 0, slots := 0, locals := 42 }
theorem vy_X2_choose : vY yX2_choose wsX2_choose cX2_choose 3 none 1 := ⟨⟨_, rfl⟩, by decide +kernel, by decide +kernel, by decide +kernel⟩
theorem fl_X2_choose_136 : Cond.fieldLink RX2 136 "OrderChains$Channel" "from" "I" ∈ wsX2_choose := List.mem_of_getElem? (i := 1) rfl
theorem il_X2_choose_X1 : ∀ w ∈ wsX10, w ∈ wsX2_choose := fun _ h => List.mem_cons_of_mem _ (List.mem_append_left _ (List.mem_append_right _ h))
theorem fl_X2_choose_9 : Cond.fieldLink RX2 9 "OrderChains$Engine" "values" "[I" ∈ wsX2_choose := List.mem_of_getElem? (i := 2) rfl
theorem il_X2_choose_X2 : ∀ w ∈ wsX20, w ∈ wsX2_choose := fun _ h => List.mem_cons_of_mem _ (List.mem_append_right _ h)
theorem fl_X2_choose_130 : Cond.fieldLink RX2 130 "OrderChains$Channel" "to" "I" ∈ wsX2_choose := List.mem_of_getElem? (i := 3) rfl
theorem fl_X2_choose_147 : Cond.fieldLink RX2 147 "OrderChains$Channel" "place" "I" ∈ wsX2_choose := List.mem_of_getElem? (i := 5) rfl
theorem fl_X2_choose_118 : Cond.fieldLink RX2 118 "OrderChains$Channel" "next" "I" ∈ wsX2_choose := List.mem_of_getElem? (i := 4) rfl
set_option maxHeartbeats 4000000 in
set_option maxRecDepth 100000 in
/-- Engine.choose -/
theorem c_X2_choose (l : Launch) (G : vG) (a val s q : Nat → Nat) (b : Nat) (h5 : q 5 < 4294967296) (h8 : q 8 < 100) (h9 : q 9 < 100) (hv : ∀ k, k < 96 → val k < 100) : Kc l G yX2_choose wsX2_choose rX2_choose [.ref (a 0), .ref b] [eO a s, iA G (a 1) 96 val, cX b q] (fun r Y => r = none ∧ Y = [eO a s, iA G (a 1) 96 val, cX b (chC val q)]) 0 0 := by
  refine V_enter (own := RX2) [some (.ref (a 0)), some (.ref b), none] (by decide +kernel) rfl rfl (Nat.le_of_ble_eq_true rfl) rfl (fun Γ hR hin => ?_)
  have hkc : 0 ≤ 0 := Nat.le_refl 0
  have hks : 0 ≤ 0 := Nat.le_refl 0
  refine V_aload_n (i := 1) dX2_choose_0 rfl rfl ?_
  refine V_get (C := RX1) (T := TX1) (N := 13) (ci := 1) (q := 2) (ref := "OrderChains$Channel") 8 rfl il_X2_choose_X1 rfl rfl fl_X2_choose_136 rfl rfl dX2_choose_1 ?_
  refine V_bipush (v := 96) dX2_choose_4 (by decide) ?_
  refine V_icmp_lt (tgt := 15) (by omega) (by omega) dX2_choose_6 rfl (fun h_6 => ?_) (fun h_6 => ?_)
  · refine V_aload_n (i := 0) dX2_choose_15 rfl rfl ?_
    refine V_get (C := RX2) (T := TX2) (N := 11) (ci := 2) (q := 0) (ref := "OrderChains$Engine") 0 rfl il_X2_choose_X2 rfl rfl fl_X2_choose_9 rfl rfl dX2_choose_16 ?_
    refine V_aload_n (i := 1) dX2_choose_19 rfl rfl ?_
    refine V_get (C := RX1) (T := TX1) (N := 13) (ci := 1) (q := 2) (ref := "OrderChains$Channel") 8 rfl il_X2_choose_X1 rfl rfl fl_X2_choose_136 rfl rfl dX2_choose_20 ?_
    refine V_iald (q := 1) rfl (by omega) rfl dX2_choose_23 ?_
    refine V_aload_n (i := 1) dX2_choose_24 rfl rfl ?_
    refine V_get (C := RX1) (T := TX1) (N := 13) (ci := 1) (q := 2) (ref := "OrderChains$Channel") 9 rfl il_X2_choose_X1 rfl rfl fl_X2_choose_130 rfl rfl dX2_choose_25 ?_
    refine V_icmp_ne (tgt := 35) (by have := hv (q 8) (by omega); omega) (by have := hv (q 8) (by omega); omega) dX2_choose_28 rfl (fun h_28 => ?_) (fun h_28 => ?_)
    · refine V_iconst (v := 0) dX2_choose_35 rfl ?_
      refine V_istore_n (i := 2) dX2_choose_36 rfl rfl rfl ?_
      dsimp only [List.set_cons_zero, List.set_cons_succ]
      refine V_aload_n (i := 1) dX2_choose_37 rfl rfl ?_
      refine V_iload_n (i := 2) dX2_choose_38 rfl rfl ?_
      refine V_if_eq (tgt := 49) (by omega) dX2_choose_39 rfl (fun h_39 => ?_) (fun h_39 => ?_)
      · refine V_aload_n (i := 1) dX2_choose_49 rfl rfl ?_
        refine V_get (C := RX1) (T := TX1) (N := 13) (ci := 1) (q := 2) (ref := "OrderChains$Channel") 5 rfl il_X2_choose_X1 rfl rfl fl_X2_choose_147 rfl rfl dX2_choose_50 ?_
        refine V_bipush (v := 6) dX2_choose_53 (by decide) ?_
        refine V_iadd dX2_choose_55 ?_
        refine V_callV (C := RX1) (q := 0) (ci := 1) (As := _) (rest := []) [2] (c_X1_goOnAt l G b _ q) vy_X1_goOnAt gX2_choose_X1_goOnAt rfl rfl rfl rfl rfl rfl rfl ⟨rfl, rfl⟩ ⟨rfl, rfl⟩ ⟨Nat.zero_le _, Nat.zero_le _⟩ rfl dX2_choose_56 (fun v Y hE => ?_)
        obtain ⟨rfl, rfl⟩ := hE
        refine ⟨rfl, ?_⟩
        dsimp only [vfill, List.set_cons_zero, List.set_cons_succ, Option.toList, List.cons_append, List.nil_append, Nat.add_zero]
        refine V_vret hR dX2_choose_59 hkc hks ?_
        refine ⟨rfl, ?_⟩
        unfold chC
        first | (rw [if_pos (by omega)]; done) | (rw [if_neg (by omega), if_pos h_28]; done) | (rw [if_neg (by omega), if_neg h_28]; done)
      · exfalso; omega
    · refine V_iconst (v := 1) dX2_choose_31 rfl ?_
      refine V_goto (tgt := 36) dX2_choose_32 rfl ?_
      refine V_istore_n (i := 2) dX2_choose_36 rfl rfl rfl ?_
      dsimp only [List.set_cons_zero, List.set_cons_succ]
      refine V_aload_n (i := 1) dX2_choose_37 rfl rfl ?_
      refine V_iload_n (i := 2) dX2_choose_38 rfl rfl ?_
      refine V_if_eq (tgt := 49) (by omega) dX2_choose_39 rfl (fun h_39 => ?_) (fun h_39 => ?_)
      · exfalso; omega
      · refine V_aload_n (i := 1) dX2_choose_42 rfl rfl ?_
        refine V_get (C := RX1) (T := TX1) (N := 13) (ci := 1) (q := 2) (ref := "OrderChains$Channel") 12 rfl il_X2_choose_X1 rfl rfl fl_X2_choose_118 rfl rfl dX2_choose_43 ?_
        refine V_goto (tgt := 56) dX2_choose_46 rfl ?_
        refine V_callV (C := RX1) (q := 0) (ci := 1) (As := _) (rest := []) [2] (c_X1_goOnAt l G b _ q) vy_X1_goOnAt gX2_choose_X1_goOnAt rfl rfl rfl rfl rfl rfl rfl ⟨rfl, rfl⟩ ⟨rfl, rfl⟩ ⟨Nat.zero_le _, Nat.zero_le _⟩ rfl dX2_choose_56 (fun v Y hE => ?_)
        obtain ⟨rfl, rfl⟩ := hE
        refine ⟨rfl, ?_⟩
        dsimp only [vfill, List.set_cons_zero, List.set_cons_succ, Option.toList, List.cons_append, List.nil_append, Nat.add_zero]
        refine V_vret hR dX2_choose_59 hkc hks ?_
        refine ⟨rfl, ?_⟩
        unfold chC
        first | (rw [if_pos (by omega)]; done) | (rw [if_neg (by omega), if_pos h_28]; done) | (rw [if_neg (by omega), if_neg h_28]; done)
  · refine V_aload_n (i := 1) dX2_choose_9 rfl rfl ?_
    refine V_iconst (v := 3) dX2_choose_10 rfl ?_
    refine V_callV (C := RX1) (q := 0) (ci := 1) (As := _) (rest := []) [2] (c_X1_fail l G b 3 q) vy_X1_fail gX2_choose_X1_fail rfl rfl rfl rfl rfl rfl rfl ⟨rfl, rfl⟩ ⟨rfl, rfl⟩ ⟨Nat.zero_le _, Nat.zero_le _⟩ rfl dX2_choose_11 (fun v Y hE => ?_)
    obtain ⟨rfl, rfl⟩ := hE
    refine ⟨rfl, ?_⟩
    dsimp only [vfill, List.set_cons_zero, List.set_cons_succ, Option.toList, List.cons_append, List.nil_append, Nat.add_zero]
    refine V_vret hR dX2_choose_14 hkc hks ?_
    refine ⟨rfl, ?_⟩
    unfold chC
    first | (rw [if_pos (by omega)]; done) | (rw [if_neg (by omega), if_pos h_28]; done) | (rw [if_neg (by omega), if_neg h_28]; done)

