abbrev rX2_writeUnit : Room := { frames := 1, cells := 0, slots := 0, locals := 23 }
theorem vy_X2_writeUnit : vY yX2_writeUnit wsX2_writeUnit cX2_writeUnit 6 none 3 := ⟨⟨_, rfl⟩, by decide +kernel, by decide +kernel, by decide +kernel⟩
theorem fl_X2_writeUnit_9 : Cond.fieldLink RX2 9 "OrderChains$Engine" "values" "[I" ∈ wsX2_writeUnit := List.mem_of_getElem? (i := 1) rfl
theorem il_X2_writeUnit_X2 : ∀ w ∈ wsX20, w ∈ wsX2_writeUnit := fun _ h => List.mem_cons_of_mem _ (List.mem_append_left _ (List.mem_append_right _ h))
theorem fl_X2_writeUnit_26 : Cond.fieldLink RX2 26 "OrderChains$Engine" "channels" "[LOrderChains$Channel;" ∈ wsX2_writeUnit := List.mem_of_getElem? (i := 2) rfl
theorem fl_X2_writeUnit_109 : Cond.fieldLink RX2 109 "OrderChains$Channel" "kind" "I" ∈ wsX2_writeUnit := List.mem_of_getElem? (i := 3) rfl
theorem il_X2_writeUnit_X1 : ∀ w ∈ wsX10, w ∈ wsX2_writeUnit := fun _ h => List.mem_cons_of_mem _ (List.mem_append_right _ h)
theorem fl_X2_writeUnit_136 : Cond.fieldLink RX2 136 "OrderChains$Channel" "from" "I" ∈ wsX2_writeUnit := List.mem_of_getElem? (i := 4) rfl
set_option maxHeartbeats 4000000 in
set_option maxRecDepth 100000 in
/-- Engine.writeUnit -/
theorem c_X2_writeUnit (l : Launch) (G : vG) (a own mark val lw bits s q : Nat → Nat) (h sr tg : Nat) (hh : h < 3) (hsr : sr < 96) (htg : tg < 96) (hm : ∀ k, k < 96 → mark k < 4294967296) (hs : s 4 < 4294967296) (h7 : q 7 < 100) (h8 : q 8 < 100) (hv : ∀ k, k < 96 → val k < 100) : Kc l G yX2_writeUnit wsX2_writeUnit rX2_writeUnit [.ref (a 0), .int (nI h), .int (nI sr), .int (nI tg)] [eO a s, iA G (a 1) 96 val, iA G (a 2) 96 own, iA G (a 3) 96 mark, iA G (a 4) 96 lw, eC G a, cX (a (6 + h)) q, iA G (a 9) 96 bits] (fun r Y => r = none ∧ Y = eW G a own mark h (wuC mark h sr tg (val, lw, bits, s, q))) 0 0 := by
  refine V_enter (own := RX2) [some (.ref (a 0)), some (.int (nI h)), some (.int (nI sr)), some (.int (nI tg)), none, none] (by decide +kernel) rfl rfl (Nat.le_of_ble_eq_true rfl) rfl (fun Γ hR hin => ?_)
  have hkc : 0 ≤ 0 := Nat.le_refl 0
  have hks : 0 ≤ 0 := Nat.le_refl 0
  refine V_aload_n (i := 0) dX2_writeUnit_0 rfl rfl ?_
  refine V_get (C := RX2) (T := TX2) (N := 11) (ci := 2) (q := 0) (ref := "OrderChains$Engine") 0 rfl il_X2_writeUnit_X2 rfl rfl fl_X2_writeUnit_9 rfl rfl dX2_writeUnit_1 ?_
  refine V_iload_n (i := 2) dX2_writeUnit_4 rfl rfl ?_
  refine V_iald (q := 1) rfl (by omega) rfl dX2_writeUnit_5 ?_
  refine V_istore (i := 4) dX2_writeUnit_6 rfl rfl ?_
  dsimp only [List.set_cons_zero, List.set_cons_succ]
  refine V_aload_n (i := 0) dX2_writeUnit_8 rfl rfl ?_
  refine V_get (C := RX2) (T := TX2) (N := 11) (ci := 2) (q := 0) (ref := "OrderChains$Engine") 0 rfl il_X2_writeUnit_X2 rfl rfl fl_X2_writeUnit_9 rfl rfl dX2_writeUnit_9 ?_
  refine V_iload_n (i := 3) dX2_writeUnit_12 rfl rfl ?_
  refine V_iald (q := 1) rfl (by omega) rfl dX2_writeUnit_13 ?_
  refine V_istore (i := 5) dX2_writeUnit_14 rfl rfl ?_
  dsimp only [List.set_cons_zero, List.set_cons_succ]
  refine V_aload_n (i := 0) dX2_writeUnit_16 rfl rfl ?_
  refine V_get (C := RX2) (T := TX2) (N := 11) (ci := 2) (q := 0) (ref := "OrderChains$Engine") 4 rfl il_X2_writeUnit_X2 rfl rfl fl_X2_writeUnit_26 rfl rfl dX2_writeUnit_17 ?_
  refine V_iload_n (i := 1) dX2_writeUnit_20 rfl rfl ?_
  refine V_aaldC (q := 5) rfl (by omega) rfl dX2_writeUnit_21 ?_
  refine V_get (C := RX1) (T := TX1) (N := 13) (ci := 1) (q := 6) (ref := "OrderChains$Channel") 7 rfl il_X2_writeUnit_X1 rfl rfl fl_X2_writeUnit_109 rfl rfl dX2_writeUnit_22 ?_
  rcases (show q 7 = 1 ∨ q 7 = 2 ∨ q 7 = 3 ∨ q 7 = 4 ∨ (q 7 = 0 ∨ 4 < q 7) by omega) with e7 | e7 | e7 | e7 | e7
  · refine V_top (b := 1) e7 ?_
    refine V_tableIn (tgt := 98) dX2_writeUnit_25 (by omega) (by omega) (by omega) rfl rfl ?_
    refine V_aload_n (i := 0) dX2_writeUnit_98 rfl rfl ?_
    refine V_iload_n (i := 1) dX2_writeUnit_99 rfl rfl ?_
    refine V_iload_n (i := 3) dX2_writeUnit_100 rfl rfl ?_
    refine V_iload (i := 4) dX2_writeUnit_101 rfl ?_
    refine V_callV (C := RX2) (q := 0) (ci := 2) (As := _) (rest := []) [0, 1, 2, 3, 4, 5, 6, 7] (c_X2_write l G a own mark val lw bits s q h (tg) (val sr) hh (by omega) (hm _ (by omega)) hs) vy_X2_write gX2_writeUnit_X2_write rfl rfl rfl rfl rfl rfl rfl ⟨rfl, rfl⟩ ⟨rfl, rfl⟩ ⟨Nat.zero_le _, Nat.zero_le _⟩ rfl dX2_writeUnit_103 (fun v Y hE => ?_)
    obtain ⟨rfl, rfl⟩ := hE
    refine ⟨rfl, ?_⟩
    dsimp only [vfill, eW, wrC, List.set_cons_zero, List.set_cons_succ, Option.toList, List.cons_append, List.nil_append, Nat.add_zero]
    refine V_goto (tgt := 130) dX2_writeUnit_106 rfl ?_
    refine V_vret hR dX2_writeUnit_130 hkc hks ?_
    refine ⟨rfl, ?_⟩
    unfold wuC
    dsimp only
    first | (rw [if_neg (show ¬ q 7 = 3 by omega), if_neg (show ¬ q 7 = 4 by omega), if_pos (show q 7 = 1 ∨ q 7 = 2 by omega)]; rfl) | (rw [if_pos (show q 7 = 3 by omega)]; rfl) | (rw [if_neg (show ¬ q 7 = 3 by omega), if_pos (show q 7 = 4 by omega)]; rfl) | (rw [if_neg (show ¬ q 7 = 3 by omega), if_neg (show ¬ q 7 = 4 by omega), if_neg (show ¬ (q 7 = 1 ∨ q 7 = 2) by omega), if_pos (show sr = tg by omega)]; rfl) | (rw [if_neg (show ¬ q 7 = 3 by omega), if_neg (show ¬ q 7 = 4 by omega), if_neg (show ¬ (q 7 = 1 ∨ q 7 = 2) by omega), if_neg (show ¬ sr = tg by omega)]; rfl)
  · refine V_top (b := 2) e7 ?_
    refine V_tableIn (tgt := 98) dX2_writeUnit_25 (by omega) (by omega) (by omega) rfl rfl ?_
    refine V_aload_n (i := 0) dX2_writeUnit_98 rfl rfl ?_
    refine V_iload_n (i := 1) dX2_writeUnit_99 rfl rfl ?_
    refine V_iload_n (i := 3) dX2_writeUnit_100 rfl rfl ?_
    refine V_iload (i := 4) dX2_writeUnit_101 rfl ?_
    refine V_callV (C := RX2) (q := 0) (ci := 2) (As := _) (rest := []) [0, 1, 2, 3, 4, 5, 6, 7] (c_X2_write l G a own mark val lw bits s q h (tg) (val sr) hh (by omega) (hm _ (by omega)) hs) vy_X2_write gX2_writeUnit_X2_write rfl rfl rfl rfl rfl rfl rfl ⟨rfl, rfl⟩ ⟨rfl, rfl⟩ ⟨Nat.zero_le _, Nat.zero_le _⟩ rfl dX2_writeUnit_103 (fun v Y hE => ?_)
    obtain ⟨rfl, rfl⟩ := hE
    refine ⟨rfl, ?_⟩
    dsimp only [vfill, eW, wrC, List.set_cons_zero, List.set_cons_succ, Option.toList, List.cons_append, List.nil_append, Nat.add_zero]
    refine V_goto (tgt := 130) dX2_writeUnit_106 rfl ?_
    refine V_vret hR dX2_writeUnit_130 hkc hks ?_
    refine ⟨rfl, ?_⟩
    unfold wuC
    dsimp only
    first | (rw [if_neg (show ¬ q 7 = 3 by omega), if_neg (show ¬ q 7 = 4 by omega), if_pos (show q 7 = 1 ∨ q 7 = 2 by omega)]; rfl) | (rw [if_pos (show q 7 = 3 by omega)]; rfl) | (rw [if_neg (show ¬ q 7 = 3 by omega), if_pos (show q 7 = 4 by omega)]; rfl) | (rw [if_neg (show ¬ q 7 = 3 by omega), if_neg (show ¬ q 7 = 4 by omega), if_neg (show ¬ (q 7 = 1 ∨ q 7 = 2) by omega), if_pos (show sr = tg by omega)]; rfl) | (rw [if_neg (show ¬ q 7 = 3 by omega), if_neg (show ¬ q 7 = 4 by omega), if_neg (show ¬ (q 7 = 1 ∨ q 7 = 2) by omega), if_neg (show ¬ sr = tg by omega)]; rfl)
  · refine V_top (b := 3) e7 ?_
    refine V_tableIn (tgt := 56) dX2_writeUnit_25 (by omega) (by omega) (by omega) rfl rfl ?_
    refine V_aload_n (i := 0) dX2_writeUnit_56 rfl rfl ?_
    refine V_iload_n (i := 1) dX2_writeUnit_57 rfl rfl ?_
    refine V_iload_n (i := 3) dX2_writeUnit_58 rfl rfl ?_
    refine V_aload_n (i := 0) dX2_writeUnit_59 rfl rfl ?_
    refine V_get (C := RX2) (T := TX2) (N := 11) (ci := 2) (q := 0) (ref := "OrderChains$Engine") 4 rfl il_X2_writeUnit_X2 rfl rfl fl_X2_writeUnit_26 rfl rfl dX2_writeUnit_60 ?_
    refine V_iload_n (i := 1) dX2_writeUnit_63 rfl rfl ?_
    refine V_aaldC (q := 5) rfl (by omega) rfl dX2_writeUnit_64 ?_
    refine V_get (C := RX1) (T := TX1) (N := 13) (ci := 1) (q := 6) (ref := "OrderChains$Channel") 8 rfl il_X2_writeUnit_X1 rfl rfl fl_X2_writeUnit_136 rfl rfl dX2_writeUnit_65 ?_
    refine V_callV (C := RX2) (q := 0) (ci := 2) (As := _) (rest := []) [0, 1, 2, 3, 4, 5, 6, 7] (c_X2_write l G a own mark val lw bits s q h (tg) (q 8) hh (by omega) (hm _ (by omega)) hs) vy_X2_write gX2_writeUnit_X2_write rfl rfl rfl rfl rfl rfl rfl ⟨rfl, rfl⟩ ⟨rfl, rfl⟩ ⟨Nat.zero_le _, Nat.zero_le _⟩ rfl dX2_writeUnit_68 (fun v Y hE => ?_)
    obtain ⟨rfl, rfl⟩ := hE
    refine ⟨rfl, ?_⟩
    dsimp only [vfill, eW, wrC, List.set_cons_zero, List.set_cons_succ, Option.toList, List.cons_append, List.nil_append, Nat.add_zero]
    refine V_goto (tgt := 130) dX2_writeUnit_71 rfl ?_
    refine V_vret hR dX2_writeUnit_130 hkc hks ?_
    refine ⟨rfl, ?_⟩
    unfold wuC
    dsimp only
    first | (rw [if_neg (show ¬ q 7 = 3 by omega), if_neg (show ¬ q 7 = 4 by omega), if_pos (show q 7 = 1 ∨ q 7 = 2 by omega)]; rfl) | (rw [if_pos (show q 7 = 3 by omega)]; rfl) | (rw [if_neg (show ¬ q 7 = 3 by omega), if_pos (show q 7 = 4 by omega)]; rfl) | (rw [if_neg (show ¬ q 7 = 3 by omega), if_neg (show ¬ q 7 = 4 by omega), if_neg (show ¬ (q 7 = 1 ∨ q 7 = 2) by omega), if_pos (show sr = tg by omega)]; rfl) | (rw [if_neg (show ¬ q 7 = 3 by omega), if_neg (show ¬ q 7 = 4 by omega), if_neg (show ¬ (q 7 = 1 ∨ q 7 = 2) by omega), if_neg (show ¬ sr = tg by omega)]; rfl)
  · refine V_top (b := 4) e7 ?_
    refine V_tableIn (tgt := 74) dX2_writeUnit_25 (by omega) (by omega) (by omega) rfl rfl ?_
    refine V_aload_n (i := 0) dX2_writeUnit_74 rfl rfl ?_
    refine V_iload_n (i := 1) dX2_writeUnit_75 rfl rfl ?_
    refine V_iload_n (i := 3) dX2_writeUnit_76 rfl rfl ?_
    refine V_iload (i := 5) dX2_writeUnit_77 rfl ?_
    refine V_aload_n (i := 0) dX2_writeUnit_79 rfl rfl ?_
    refine V_get (C := RX2) (T := TX2) (N := 11) (ci := 2) (q := 0) (ref := "OrderChains$Engine") 4 rfl il_X2_writeUnit_X2 rfl rfl fl_X2_writeUnit_26 rfl rfl dX2_writeUnit_80 ?_
    refine V_iload_n (i := 1) dX2_writeUnit_83 rfl rfl ?_
    refine V_aaldC (q := 5) rfl (by omega) rfl dX2_writeUnit_84 ?_
    refine V_get (C := RX1) (T := TX1) (N := 13) (ci := 1) (q := 6) (ref := "OrderChains$Channel") 8 rfl il_X2_writeUnit_X1 rfl rfl fl_X2_writeUnit_136 rfl rfl dX2_writeUnit_85 ?_
    refine V_iadd dX2_writeUnit_88 ?_
    refine V_bipush (v := 100) dX2_writeUnit_89 (by decide) ?_
    refine V_irem dX2_writeUnit_91 (by have := hv tg htg; omega) (by have := hv tg htg; omega) (by have := hv tg htg; omega) ?_
    refine V_callV (C := RX2) (q := 0) (ci := 2) (As := _) (rest := []) [0, 1, 2, 3, 4, 5, 6, 7] (c_X2_write l G a own mark val lw bits s q h (tg) ((val tg + q 8) % 100) hh (by omega) (hm _ (by omega)) hs) vy_X2_write gX2_writeUnit_X2_write rfl rfl rfl rfl rfl rfl rfl ⟨rfl, rfl⟩ ⟨rfl, rfl⟩ ⟨Nat.zero_le _, Nat.zero_le _⟩ rfl dX2_writeUnit_92 (fun v Y hE => ?_)
    obtain ⟨rfl, rfl⟩ := hE
    refine ⟨rfl, ?_⟩
    dsimp only [vfill, eW, wrC, List.set_cons_zero, List.set_cons_succ, Option.toList, List.cons_append, List.nil_append, Nat.add_zero]
    refine V_goto (tgt := 130) dX2_writeUnit_95 rfl ?_
    refine V_vret hR dX2_writeUnit_130 hkc hks ?_
    refine ⟨rfl, ?_⟩
    unfold wuC
    dsimp only
    first | (rw [if_neg (show ¬ q 7 = 3 by omega), if_neg (show ¬ q 7 = 4 by omega), if_pos (show q 7 = 1 ∨ q 7 = 2 by omega)]; rfl) | (rw [if_pos (show q 7 = 3 by omega)]; rfl) | (rw [if_neg (show ¬ q 7 = 3 by omega), if_pos (show q 7 = 4 by omega)]; rfl) | (rw [if_neg (show ¬ q 7 = 3 by omega), if_neg (show ¬ q 7 = 4 by omega), if_neg (show ¬ (q 7 = 1 ∨ q 7 = 2) by omega), if_pos (show sr = tg by omega)]; rfl) | (rw [if_neg (show ¬ q 7 = 3 by omega), if_neg (show ¬ q 7 = 4 by omega), if_neg (show ¬ (q 7 = 1 ∨ q 7 = 2) by omega), if_neg (show ¬ sr = tg by omega)]; rfl)
  · skip
    refine V_tableOut (tgt := 109) dX2_writeUnit_25 (by rw [nI_sm (by omega)]; omega) rfl ?_
    refine V_iload_n (i := 2) dX2_writeUnit_109 rfl rfl ?_
    refine V_iload_n (i := 3) dX2_writeUnit_110 rfl rfl ?_
    refine V_icmp_eq (tgt := 130) (by omega) (by omega) dX2_writeUnit_111 rfl (fun h_111 => ?_) (fun h_111 => ?_)
    · refine V_vret hR dX2_writeUnit_130 hkc hks ?_
      refine ⟨rfl, ?_⟩
      unfold wuC
      dsimp only
      first | (rw [if_neg (show ¬ q 7 = 3 by omega), if_neg (show ¬ q 7 = 4 by omega), if_pos (show q 7 = 1 ∨ q 7 = 2 by omega)]; rfl) | (rw [if_pos (show q 7 = 3 by omega)]; rfl) | (rw [if_neg (show ¬ q 7 = 3 by omega), if_pos (show q 7 = 4 by omega)]; rfl) | (rw [if_neg (show ¬ q 7 = 3 by omega), if_neg (show ¬ q 7 = 4 by omega), if_neg (show ¬ (q 7 = 1 ∨ q 7 = 2) by omega), if_pos (show sr = tg by omega)]; rfl) | (rw [if_neg (show ¬ q 7 = 3 by omega), if_neg (show ¬ q 7 = 4 by omega), if_neg (show ¬ (q 7 = 1 ∨ q 7 = 2) by omega), if_neg (show ¬ sr = tg by omega)]; rfl)
    · refine V_aload_n (i := 0) dX2_writeUnit_114 rfl rfl ?_
      refine V_iload_n (i := 1) dX2_writeUnit_115 rfl rfl ?_
      refine V_iload_n (i := 2) dX2_writeUnit_116 rfl rfl ?_
      refine V_iload (i := 5) dX2_writeUnit_117 rfl ?_
      refine V_callV (C := RX2) (q := 0) (ci := 2) (As := _) (rest := []) [0, 1, 2, 3, 4, 5, 6, 7] (c_X2_write l G a own mark val lw bits s q h (sr) (val tg) hh (by omega) (hm _ (by omega)) hs) vy_X2_write gX2_writeUnit_X2_write rfl rfl rfl rfl rfl rfl rfl ⟨rfl, rfl⟩ ⟨rfl, rfl⟩ ⟨Nat.zero_le _, Nat.zero_le _⟩ rfl dX2_writeUnit_119 (fun v Y hE => ?_)
      obtain ⟨rfl, rfl⟩ := hE
      refine ⟨rfl, ?_⟩
      dsimp only [vfill, eW, wrC, List.set_cons_zero, List.set_cons_succ, Option.toList, List.cons_append, List.nil_append, Nat.add_zero]
      refine V_aload_n (i := 0) dX2_writeUnit_122 rfl rfl ?_
      refine V_iload_n (i := 1) dX2_writeUnit_123 rfl rfl ?_
      refine V_iload_n (i := 3) dX2_writeUnit_124 rfl rfl ?_
      refine V_iload (i := 4) dX2_writeUnit_125 rfl ?_
      refine V_callV (C := RX2) (q := 0) (ci := 2) (As := _) (rest := []) [0, 1, 2, 3, 4, 5, 6, 7] (c_X2_write l G a own mark (va_up val sr (val tg)) (va_up lw sr h) (va_up bits sr (bits sr ||| 2 ^ h)) (wS mark h sr s) (va_up q 4 (q 4 + 1)) h tg (val sr) hh htg (hm _ htg) (wS_4 hs hh hsr)) vy_X2_write gX2_writeUnit_X2_write rfl rfl rfl rfl rfl rfl rfl ⟨rfl, rfl⟩ ⟨rfl, rfl⟩ ⟨Nat.zero_le _, Nat.zero_le _⟩ rfl dX2_writeUnit_127 (fun v Y hE => ?_)
      obtain ⟨rfl, rfl⟩ := hE
      refine ⟨rfl, ?_⟩
      dsimp only [vfill, eW, wrC, List.set_cons_zero, List.set_cons_succ, Option.toList, List.cons_append, List.nil_append, Nat.add_zero]
      refine V_vret hR dX2_writeUnit_130 hkc hks ?_
      refine ⟨rfl, ?_⟩
      unfold wuC
      dsimp only
      first | (rw [if_neg (show ¬ q 7 = 3 by omega), if_neg (show ¬ q 7 = 4 by omega), if_pos (show q 7 = 1 ∨ q 7 = 2 by omega)]; rfl) | (rw [if_pos (show q 7 = 3 by omega)]; rfl) | (rw [if_neg (show ¬ q 7 = 3 by omega), if_pos (show q 7 = 4 by omega)]; rfl) | (rw [if_neg (show ¬ q 7 = 3 by omega), if_neg (show ¬ q 7 = 4 by omega), if_neg (show ¬ (q 7 = 1 ∨ q 7 = 2) by omega), if_pos (show sr = tg by omega)]; rfl) | (rw [if_neg (show ¬ q 7 = 3 by omega), if_neg (show ¬ q 7 = 4 by omega), if_neg (show ¬ (q 7 = 1 ∨ q 7 = 2) by omega), if_neg (show ¬ sr = tg by omega)]; rfl)

