abbrev rX2_write : Room := { frames := 0, cells := 0, slots := 0, locals := 0 }
theorem vy_X2_write : vY yX2_write wsX2_write cX2_write 4 none 3 := ⟨⟨_, rfl⟩, by decide +kernel, by decide +kernel, by decide +kernel⟩
theorem fl_X2_write_18 : Cond.fieldLink RX2 18 "OrderChains$Engine" "marks" "[I" ∈ wsX2_write := List.mem_of_getElem? (i := 1) rfl
theorem il_X2_write_X2 : ∀ w ∈ wsX20, w ∈ wsX2_write := fun _ h => List.mem_cons_of_mem _ (List.mem_append_left _ (List.mem_append_right _ h))
theorem fl_X2_write_9 : Cond.fieldLink RX2 9 "OrderChains$Engine" "values" "[I" ∈ wsX2_write := List.mem_of_getElem? (i := 4) rfl
theorem fl_X2_write_21 : Cond.fieldLink RX2 21 "OrderChains$Engine" "lastWriters" "[I" ∈ wsX2_write := List.mem_of_getElem? (i := 5) rfl
theorem fl_X2_write_43 : Cond.fieldLink RX2 43 "OrderChains$Engine" "writerBits" "[I" ∈ wsX2_write := List.mem_of_getElem? (i := 6) rfl
theorem fl_X2_write_40 : Cond.fieldLink RX2 40 "OrderChains$Engine" "writes" "I" ∈ wsX2_write := List.mem_of_getElem? (i := 7) rfl
theorem fl_X2_write_26 : Cond.fieldLink RX2 26 "OrderChains$Engine" "channels" "[LOrderChains$Channel;" ∈ wsX2_write := List.mem_of_getElem? (i := 8) rfl
theorem fl_X2_write_157 : Cond.fieldLink RX2 157 "OrderChains$Channel" "cellsWritten" "I" ∈ wsX2_write := List.mem_of_getElem? (i := 9) rfl
theorem il_X2_write_X1 : ∀ w ∈ wsX10, w ∈ wsX2_write := fun _ h => List.mem_cons_of_mem _ (List.mem_append_right _ h)
theorem fl_X2_write_37 : Cond.fieldLink RX2 37 "OrderChains$Engine" "edits" "I" ∈ wsX2_write := List.mem_of_getElem? (i := 2) rfl
theorem fl_X2_write_46 : Cond.fieldLink RX2 46 "OrderChains$Engine" "earliestEdit" "I" ∈ wsX2_write := List.mem_of_getElem? (i := 3) rfl
set_option maxHeartbeats 4000000 in
set_option maxRecDepth 100000 in
/-- Engine.write -/
theorem c_X2_write (l : Launch) (G : vG) (a own mark val lw bits s q : Nat → Nat) (h c v : Nat) (hh : h < 3) (hc : c < 96) (hm : mark c < 4294967296) (hs : s 4 < 4294967296) : Kc l G yX2_write wsX2_write rX2_write [.ref (a 0), .int (nI h), .int (nI c), .int (nI v)] [eO a s, iA G (a 1) 96 val, iA G (a 2) 96 own, iA G (a 3) 96 mark, iA G (a 4) 96 lw, eC G a, cX (a (6 + h)) q, iA G (a 9) 96 bits] (fun r Y => r = none ∧ Y = eW G a own mark h (wrC mark h c v (val, lw, bits, s, q))) 0 0 := by
  refine V_enter (own := RX2) [some (.ref (a 0)), some (.int (nI h)), some (.int (nI c)), some (.int (nI v))] (by decide +kernel) rfl rfl (Nat.le_of_ble_eq_true rfl) rfl (fun Γ hR hin => ?_)
  have hkc : 0 ≤ 0 := Nat.le_refl 0
  have hks : 0 ≤ 0 := Nat.le_refl 0
  refine V_aload_n (i := 0) dX2_write_0 rfl rfl ?_
  refine V_get (C := RX2) (T := TX2) (N := 11) (ci := 2) (q := 0) (ref := "OrderChains$Engine") 2 rfl il_X2_write_X2 rfl rfl fl_X2_write_18 rfl rfl dX2_write_1 ?_
  refine V_iload_n (i := 2) dX2_write_4 rfl rfl ?_
  refine V_iald (q := 3) rfl (by omega) rfl dX2_write_5 ?_
  refine V_iconst (v := 1) dX2_write_6 rfl ?_
  refine V_icmp_ne (tgt := 39) hm (by omega) dX2_write_7 rfl (fun h_7 => ?_) (fun h_7 => ?_)
  · refine V_aload_n (i := 0) dX2_write_39 rfl rfl ?_
    refine V_get (C := RX2) (T := TX2) (N := 11) (ci := 2) (q := 0) (ref := "OrderChains$Engine") 0 rfl il_X2_write_X2 rfl rfl fl_X2_write_9 rfl rfl dX2_write_40 ?_
    refine V_iload_n (i := 2) dX2_write_43 rfl rfl ?_
    refine V_iload_n (i := 3) dX2_write_44 rfl rfl ?_
    refine V_iast (q := 1) rfl (by omega) rfl dX2_write_45 ?_
    dsimp only [List.set_cons_zero, List.set_cons_succ]
    refine V_aload_n (i := 0) dX2_write_46 rfl rfl ?_
    refine V_get (C := RX2) (T := TX2) (N := 11) (ci := 2) (q := 0) (ref := "OrderChains$Engine") 3 rfl il_X2_write_X2 rfl rfl fl_X2_write_21 rfl rfl dX2_write_47 ?_
    refine V_iload_n (i := 2) dX2_write_50 rfl rfl ?_
    refine V_iload_n (i := 1) dX2_write_51 rfl rfl ?_
    refine V_iast (q := 4) rfl (by omega) rfl dX2_write_52 ?_
    dsimp only [List.set_cons_zero, List.set_cons_succ]
    refine V_aload_n (i := 0) dX2_write_53 rfl rfl ?_
    refine V_get (C := RX2) (T := TX2) (N := 11) (ci := 2) (q := 0) (ref := "OrderChains$Engine") 9 rfl il_X2_write_X2 rfl rfl fl_X2_write_43 rfl rfl dX2_write_54 ?_
    refine V_iload_n (i := 2) dX2_write_57 rfl rfl ?_
    refine V_dup2 dX2_write_58 rfl rfl ?_
    refine V_iald (q := 7) rfl (by omega) rfl dX2_write_59 ?_
    refine V_iconst (v := 1) dX2_write_60 rfl ?_
    refine V_iload_n (i := 1) dX2_write_61 rfl rfl ?_
    refine V_ishlG dX2_write_62 (nI_sh1 hh) ?_
    refine V_iorG dX2_write_63 (nI_or _ _) ?_
    refine V_iast (q := 7) rfl (by omega) rfl dX2_write_64 ?_
    dsimp only [List.set_cons_zero, List.set_cons_succ]
    refine V_aload_n (i := 0) dX2_write_65 rfl rfl ?_
    refine V_dup dX2_write_66 rfl ?_
    refine V_get (C := RX2) (T := TX2) (N := 11) (ci := 2) (q := 0) (ref := "OrderChains$Engine") 8 rfl il_X2_write_X2 rfl rfl fl_X2_write_40 rfl rfl dX2_write_67 ?_
    refine V_iconst (v := 1) dX2_write_70 rfl ?_
    refine V_iadd dX2_write_71 ?_
    refine V_put (C := RX2) (T := TX2) (N := 11) (ci := 2) (q := 0) (ref := "OrderChains$Engine") (ty := .int) (ty0 := tyX2) 8 rfl il_X2_write_X2 tyX2_ok nmX2 rfl rfl fl_X2_write_40 rfl rfl rfl rfl rfl rfl dX2_write_72 ?_
    dsimp only [List.set_cons_zero, List.set_cons_succ]
    refine V_aload_n (i := 0) dX2_write_75 rfl rfl ?_
    refine V_get (C := RX2) (T := TX2) (N := 11) (ci := 2) (q := 0) (ref := "OrderChains$Engine") 4 rfl il_X2_write_X2 rfl rfl fl_X2_write_26 rfl rfl dX2_write_76 ?_
    refine V_iload_n (i := 1) dX2_write_79 rfl rfl ?_
    refine V_aaldC (q := 5) rfl (by omega) rfl dX2_write_80 ?_
    refine V_dup dX2_write_81 rfl ?_
    refine V_get (C := RX1) (T := TX1) (N := 13) (ci := 1) (q := 6) (ref := "OrderChains$Channel") 4 rfl il_X2_write_X1 rfl rfl fl_X2_write_157 rfl rfl dX2_write_82 ?_
    refine V_iconst (v := 1) dX2_write_85 rfl ?_
    refine V_iadd dX2_write_86 ?_
    refine V_put (C := RX1) (T := TX1) (N := 13) (ci := 1) (q := 6) (ref := "OrderChains$Channel") (ty := .int) (ty0 := tyX1) 4 rfl il_X2_write_X1 tyX1_ok nmX1 rfl rfl fl_X2_write_157 rfl rfl rfl rfl rfl rfl dX2_write_87 ?_
    dsimp only [List.set_cons_zero, List.set_cons_succ]
    refine V_vret hR dX2_write_90 hkc hks ?_
    refine ⟨rfl, ?_⟩
    simp only [eW, wrC, wS]
    first | (rw [if_neg h_7]; rfl) | (rw [if_pos h_7, if_neg h_26]; rfl) | (rw [if_pos h_7, if_pos h_26]; rfl)
  · refine V_aload_n (i := 0) dX2_write_10 rfl rfl ?_
    refine V_dup dX2_write_11 rfl ?_
    refine V_get (C := RX2) (T := TX2) (N := 11) (ci := 2) (q := 0) (ref := "OrderChains$Engine") 7 rfl il_X2_write_X2 rfl rfl fl_X2_write_37 rfl rfl dX2_write_12 ?_
    refine V_iconst (v := 1) dX2_write_15 rfl ?_
    refine V_iadd dX2_write_16 ?_
    refine V_put (C := RX2) (T := TX2) (N := 11) (ci := 2) (q := 0) (ref := "OrderChains$Engine") (ty := .int) (ty0 := tyX2) 7 rfl il_X2_write_X2 tyX2_ok nmX2 rfl rfl fl_X2_write_37 rfl rfl rfl rfl rfl rfl dX2_write_17 ?_
    dsimp only [List.set_cons_zero, List.set_cons_succ]
    refine V_aload_n (i := 0) dX2_write_20 rfl rfl ?_
    refine V_get (C := RX2) (T := TX2) (N := 11) (ci := 2) (q := 0) (ref := "OrderChains$Engine") 10 rfl il_X2_write_X2 rfl rfl fl_X2_write_46 rfl rfl dX2_write_21 ?_
    refine V_bipush (v := 4294967287) dX2_write_24 (by decide) ?_
    refine V_icmp_ne (tgt := 39) hs (by omega) dX2_write_26 rfl (fun h_26 => ?_) (fun h_26 => ?_)
    · refine V_aload_n (i := 0) dX2_write_39 rfl rfl ?_
      refine V_get (C := RX2) (T := TX2) (N := 11) (ci := 2) (q := 0) (ref := "OrderChains$Engine") 0 rfl il_X2_write_X2 rfl rfl fl_X2_write_9 rfl rfl dX2_write_40 ?_
      refine V_iload_n (i := 2) dX2_write_43 rfl rfl ?_
      refine V_iload_n (i := 3) dX2_write_44 rfl rfl ?_
      refine V_iast (q := 1) rfl (by omega) rfl dX2_write_45 ?_
      dsimp only [List.set_cons_zero, List.set_cons_succ]
      refine V_aload_n (i := 0) dX2_write_46 rfl rfl ?_
      refine V_get (C := RX2) (T := TX2) (N := 11) (ci := 2) (q := 0) (ref := "OrderChains$Engine") 3 rfl il_X2_write_X2 rfl rfl fl_X2_write_21 rfl rfl dX2_write_47 ?_
      refine V_iload_n (i := 2) dX2_write_50 rfl rfl ?_
      refine V_iload_n (i := 1) dX2_write_51 rfl rfl ?_
      refine V_iast (q := 4) rfl (by omega) rfl dX2_write_52 ?_
      dsimp only [List.set_cons_zero, List.set_cons_succ]
      refine V_aload_n (i := 0) dX2_write_53 rfl rfl ?_
      refine V_get (C := RX2) (T := TX2) (N := 11) (ci := 2) (q := 0) (ref := "OrderChains$Engine") 9 rfl il_X2_write_X2 rfl rfl fl_X2_write_43 rfl rfl dX2_write_54 ?_
      refine V_iload_n (i := 2) dX2_write_57 rfl rfl ?_
      refine V_dup2 dX2_write_58 rfl rfl ?_
      refine V_iald (q := 7) rfl (by omega) rfl dX2_write_59 ?_
      refine V_iconst (v := 1) dX2_write_60 rfl ?_
      refine V_iload_n (i := 1) dX2_write_61 rfl rfl ?_
      refine V_ishlG dX2_write_62 (nI_sh1 hh) ?_
      refine V_iorG dX2_write_63 (nI_or _ _) ?_
      refine V_iast (q := 7) rfl (by omega) rfl dX2_write_64 ?_
      dsimp only [List.set_cons_zero, List.set_cons_succ]
      refine V_aload_n (i := 0) dX2_write_65 rfl rfl ?_
      refine V_dup dX2_write_66 rfl ?_
      refine V_get (C := RX2) (T := TX2) (N := 11) (ci := 2) (q := 0) (ref := "OrderChains$Engine") 8 rfl il_X2_write_X2 rfl rfl fl_X2_write_40 rfl rfl dX2_write_67 ?_
      refine V_iconst (v := 1) dX2_write_70 rfl ?_
      refine V_iadd dX2_write_71 ?_
      refine V_put (C := RX2) (T := TX2) (N := 11) (ci := 2) (q := 0) (ref := "OrderChains$Engine") (ty := .int) (ty0 := tyX2) 8 rfl il_X2_write_X2 tyX2_ok nmX2 rfl rfl fl_X2_write_40 rfl rfl rfl rfl rfl rfl dX2_write_72 ?_
      dsimp only [List.set_cons_zero, List.set_cons_succ]
      refine V_aload_n (i := 0) dX2_write_75 rfl rfl ?_
      refine V_get (C := RX2) (T := TX2) (N := 11) (ci := 2) (q := 0) (ref := "OrderChains$Engine") 4 rfl il_X2_write_X2 rfl rfl fl_X2_write_26 rfl rfl dX2_write_76 ?_
      refine V_iload_n (i := 1) dX2_write_79 rfl rfl ?_
      refine V_aaldC (q := 5) rfl (by omega) rfl dX2_write_80 ?_
      refine V_dup dX2_write_81 rfl ?_
      refine V_get (C := RX1) (T := TX1) (N := 13) (ci := 1) (q := 6) (ref := "OrderChains$Channel") 4 rfl il_X2_write_X1 rfl rfl fl_X2_write_157 rfl rfl dX2_write_82 ?_
      refine V_iconst (v := 1) dX2_write_85 rfl ?_
      refine V_iadd dX2_write_86 ?_
      refine V_put (C := RX1) (T := TX1) (N := 13) (ci := 1) (q := 6) (ref := "OrderChains$Channel") (ty := .int) (ty0 := tyX1) 4 rfl il_X2_write_X1 tyX1_ok nmX1 rfl rfl fl_X2_write_157 rfl rfl rfl rfl rfl rfl dX2_write_87 ?_
      dsimp only [List.set_cons_zero, List.set_cons_succ]
      refine V_vret hR dX2_write_90 hkc hks ?_
      refine ⟨rfl, ?_⟩
      simp only [eW, wrC, wS]
      first | (rw [if_neg h_7]; rfl) | (rw [if_pos h_7, if_neg h_26]; rfl) | (rw [if_pos h_7, if_pos h_26]; rfl)
    · refine V_aload_n (i := 0) dX2_write_29 rfl rfl ?_
      refine V_bipush (v := 100) dX2_write_30 (by decide) ?_
      refine V_iload_n (i := 1) dX2_write_32 rfl rfl ?_
      refine V_imul dX2_write_33 ?_
      refine V_iload_n (i := 2) dX2_write_34 rfl rfl ?_
      refine V_iadd dX2_write_35 ?_
      refine V_put (C := RX2) (T := TX2) (N := 11) (ci := 2) (q := 0) (ref := "OrderChains$Engine") (ty := .int) (ty0 := tyX2) 10 rfl il_X2_write_X2 tyX2_ok nmX2 rfl rfl fl_X2_write_46 rfl rfl rfl rfl rfl rfl dX2_write_36 ?_
      dsimp only [List.set_cons_zero, List.set_cons_succ]
      refine V_aload_n (i := 0) dX2_write_39 rfl rfl ?_
      refine V_get (C := RX2) (T := TX2) (N := 11) (ci := 2) (q := 0) (ref := "OrderChains$Engine") 0 rfl il_X2_write_X2 rfl rfl fl_X2_write_9 rfl rfl dX2_write_40 ?_
      refine V_iload_n (i := 2) dX2_write_43 rfl rfl ?_
      refine V_iload_n (i := 3) dX2_write_44 rfl rfl ?_
      refine V_iast (q := 1) rfl (by omega) rfl dX2_write_45 ?_
      dsimp only [List.set_cons_zero, List.set_cons_succ]
      refine V_aload_n (i := 0) dX2_write_46 rfl rfl ?_
      refine V_get (C := RX2) (T := TX2) (N := 11) (ci := 2) (q := 0) (ref := "OrderChains$Engine") 3 rfl il_X2_write_X2 rfl rfl fl_X2_write_21 rfl rfl dX2_write_47 ?_
      refine V_iload_n (i := 2) dX2_write_50 rfl rfl ?_
      refine V_iload_n (i := 1) dX2_write_51 rfl rfl ?_
      refine V_iast (q := 4) rfl (by omega) rfl dX2_write_52 ?_
      dsimp only [List.set_cons_zero, List.set_cons_succ]
      refine V_aload_n (i := 0) dX2_write_53 rfl rfl ?_
      refine V_get (C := RX2) (T := TX2) (N := 11) (ci := 2) (q := 0) (ref := "OrderChains$Engine") 9 rfl il_X2_write_X2 rfl rfl fl_X2_write_43 rfl rfl dX2_write_54 ?_
      refine V_iload_n (i := 2) dX2_write_57 rfl rfl ?_
      refine V_dup2 dX2_write_58 rfl rfl ?_
      refine V_iald (q := 7) rfl (by omega) rfl dX2_write_59 ?_
      refine V_iconst (v := 1) dX2_write_60 rfl ?_
      refine V_iload_n (i := 1) dX2_write_61 rfl rfl ?_
      refine V_ishlG dX2_write_62 (nI_sh1 hh) ?_
      refine V_iorG dX2_write_63 (nI_or _ _) ?_
      refine V_iast (q := 7) rfl (by omega) rfl dX2_write_64 ?_
      dsimp only [List.set_cons_zero, List.set_cons_succ]
      refine V_aload_n (i := 0) dX2_write_65 rfl rfl ?_
      refine V_dup dX2_write_66 rfl ?_
      refine V_get (C := RX2) (T := TX2) (N := 11) (ci := 2) (q := 0) (ref := "OrderChains$Engine") 8 rfl il_X2_write_X2 rfl rfl fl_X2_write_40 rfl rfl dX2_write_67 ?_
      refine V_iconst (v := 1) dX2_write_70 rfl ?_
      refine V_iadd dX2_write_71 ?_
      refine V_put (C := RX2) (T := TX2) (N := 11) (ci := 2) (q := 0) (ref := "OrderChains$Engine") (ty := .int) (ty0 := tyX2) 8 rfl il_X2_write_X2 tyX2_ok nmX2 rfl rfl fl_X2_write_40 rfl rfl rfl rfl rfl rfl dX2_write_72 ?_
      dsimp only [List.set_cons_zero, List.set_cons_succ]
      refine V_aload_n (i := 0) dX2_write_75 rfl rfl ?_
      refine V_get (C := RX2) (T := TX2) (N := 11) (ci := 2) (q := 0) (ref := "OrderChains$Engine") 4 rfl il_X2_write_X2 rfl rfl fl_X2_write_26 rfl rfl dX2_write_76 ?_
      refine V_iload_n (i := 1) dX2_write_79 rfl rfl ?_
      refine V_aaldC (q := 5) rfl (by omega) rfl dX2_write_80 ?_
      refine V_dup dX2_write_81 rfl ?_
      refine V_get (C := RX1) (T := TX1) (N := 13) (ci := 1) (q := 6) (ref := "OrderChains$Channel") 4 rfl il_X2_write_X1 rfl rfl fl_X2_write_157 rfl rfl dX2_write_82 ?_
      refine V_iconst (v := 1) dX2_write_85 rfl ?_
      refine V_iadd dX2_write_86 ?_
      refine V_put (C := RX1) (T := TX1) (N := 13) (ci := 1) (q := 6) (ref := "OrderChains$Channel") (ty := .int) (ty0 := tyX1) 4 rfl il_X2_write_X1 tyX1_ok nmX1 rfl rfl fl_X2_write_157 rfl rfl rfl rfl rfl rfl dX2_write_87 ?_
      dsimp only [List.set_cons_zero, List.set_cons_succ]
      refine V_vret hR dX2_write_90 hkc hks ?_
      refine ⟨rfl, ?_⟩
      simp only [eW, wrC, wS]
      first | (rw [if_neg h_7]; rfl) | (rw [if_pos h_7, if_neg h_26]; rfl) | (rw [if_pos h_7, if_pos h_26]; rfl)

