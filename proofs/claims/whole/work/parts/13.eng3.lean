section ENG3
def rdM (mark q : Nat → Nat) : Nat → Nat := if 90 < q 1 then mark else fun k => if q 1 ≤ k ∧ k < q 1 + 6 then 1 else mark k
def rdQ (val q : Nat → Nat) : Nat → Nat := if 90 < q 1 then qFail 1 q else if val (q 1) = 0 then qBc 2 (qTake val q) else if 6 < val (q 1) then qFail 2 (qTake val q) else if val (q 1) ≠ 6 ∧ val (q 1 + 3) = 0 then qGo (val (q 1 + 5)) (qTake val q) else qTake val q
theorem mark_step (mark : Nat → Nat) (b c : Nat) (h : b ≤ c) : va_up (fun k => if b ≤ k ∧ k < c then 1 else mark k) c 1 = fun k => if b ≤ k ∧ k < c + 1 then 1 else mark k := by
  funext k
  unfold va_up
  by_cases e : k = c
  · rw [if_pos e, if_pos (by omega)]
  · rw [if_neg e]
    show (if b ≤ k ∧ k < c then 1 else mark k) = _
    by_cases h2 : b ≤ k ∧ k < c
    · rw [if_pos h2, if_pos (by omega)]
    · rw [if_neg h2, if_neg (by omega)]
/-- what a channel's numbers keep -/
def qB (q : Nat → Nat) : Prop := q 0 < 4 ∧ q 1 < 100 ∧ q 2 < 4294967296 ∧ ((q 5 = 4294967287 ∧ q 6 = 0) ∨ (q 5 ≤ 90 ∧ 1 ≤ q 7 ∧ q 7 ≤ 6 ∧ (q 7 ≠ 6 → q 6 < q 10))) ∧ q 6 < 100 ∧ q 7 < 100 ∧ q 8 < 100 ∧ q 9 < 100 ∧ q 10 < 100 ∧ q 11 < 100 ∧ q 12 < 100
theorem wuC_q (mark : Nat → Nat) (h sr tg : Nat) (t : vT5) (i : Nat) (hi : i ≠ 4) : (wuC mark h sr tg t).2.2.2.2 i = t.2.2.2.2 i := by
  unfold wuC
  split
  · exact up_n hi
  · split
    · exact up_n hi
    · split
      · exact up_n hi
      · split
        · rfl
        · exact (up_n hi).trans (up_n hi)

abbrev rX2_readOrder : Room := { frames := 2, cells := 0, slots := 0, locals := 42 }
theorem vy_X2_readOrder : vY yX2_readOrder wsX2_readOrder cX2_readOrder 3 none 1 := ⟨⟨_, rfl⟩, by decide +kernel, by decide +kernel, by decide +kernel⟩
theorem fl_X2_readOrder_99 : Cond.fieldLink RX2 99 "OrderChains$Channel" "head" "I" ∈ wsX2_readOrder := List.mem_of_getElem? (i := 1) rfl
theorem il_X2_readOrder_X1 : ∀ w ∈ wsX10, w ∈ wsX2_readOrder := fun _ h => List.mem_cons_of_mem _ (List.mem_append_left _ (List.mem_append_right _ h))
theorem fl_X2_readOrder_9 : Cond.fieldLink RX2 9 "OrderChains$Engine" "values" "[I" ∈ wsX2_readOrder := List.mem_of_getElem? (i := 3) rfl
theorem il_X2_readOrder_X2 : ∀ w ∈ wsX20, w ∈ wsX2_readOrder := fun _ h => List.mem_cons_of_mem _ (List.mem_append_right _ h)
theorem fl_X2_readOrder_109 : Cond.fieldLink RX2 109 "OrderChains$Channel" "kind" "I" ∈ wsX2_readOrder := List.mem_of_getElem? (i := 4) rfl
theorem fl_X2_readOrder_115 : Cond.fieldLink RX2 115 "OrderChains$Channel" "count" "I" ∈ wsX2_readOrder := List.mem_of_getElem? (i := 5) rfl
theorem fl_X2_readOrder_118 : Cond.fieldLink RX2 118 "OrderChains$Channel" "next" "I" ∈ wsX2_readOrder := List.mem_of_getElem? (i := 6) rfl
theorem fl_X2_readOrder_18 : Cond.fieldLink RX2 18 "OrderChains$Engine" "marks" "[I" ∈ wsX2_readOrder := List.mem_of_getElem? (i := 2) rfl
set_option maxHeartbeats 4000000 in
set_option maxRecDepth 100000 in
/-- Engine.readOrder -/
theorem c_X2_readOrder (l : Launch) (G : vG) (a val mark s q : Nat → Nat) (b : Nat) (h1 : q 1 < 100) (hv : ∀ k, k < 96 → val k < 100) : Kc l G yX2_readOrder wsX2_readOrder rX2_readOrder [.ref (a 0), .ref b] [eO a s, iA G (a 1) 96 val, iA G (a 3) 96 mark, cX b q] (fun r Y => r = none ∧ Y = [eO a s, iA G (a 1) 96 val, iA G (a 3) 96 (rdM mark q), cX b (rdQ val q)]) 0 0 := by
  refine V_enter (own := RX2) [some (.ref (a 0)), some (.ref b), none] (by decide +kernel) rfl rfl (Nat.le_of_ble_eq_true rfl) rfl (fun Γ hR hin => ?_)
  have hkc : 0 ≤ 0 := Nat.le_refl 0
  have hks : 0 ≤ 0 := Nat.le_refl 0
  have LP20 : ∀ (fuel : Nat) (c : Nat), q 1 + 7 ≤ c + fuel → q 1 ≤ c → c ≤ q 1 + 6 → q 1 ≤ 90 → V l G (cX2_readOrder, 3, wsX2_readOrder, RX2, rX2_readOrder) Γ 0 0 20 [some (.ref (a 0)), some (.ref b), some (.int (nI c))] [] [eO a s, iA G (a 1) 96 val, iA G (a 3) 96 (fun k => if q 1 ≤ k ∧ k < c then 1 else mark k), cX b q] := by
    intro fuel
    induction fuel with
    | zero => intro c hf hc1 hc2 hq; exact absurd hf (by omega)
    | succ fuel ih =>
      intro c hf hc1 hc2 hq
      refine V_iload_n (i := 2) dX2_readOrder_20 rfl rfl ?_
      refine V_aload_n (i := 1) dX2_readOrder_21 rfl rfl ?_
      refine V_get (C := RX1) (T := TX1) (N := 13) (ci := 1) (q := 3) (ref := "OrderChains$Channel") 1 rfl il_X2_readOrder_X1 rfl rfl fl_X2_readOrder_99 rfl rfl dX2_readOrder_22 ?_
      refine V_bipush (v := 6) dX2_readOrder_25 (by decide) ?_
      refine V_iadd dX2_readOrder_27 ?_
      refine V_icmp_ge (tgt := 44) (by omega) (by omega) dX2_readOrder_28 rfl (fun h_28 => ?_) (fun h_28 => ?_)
      · obtain rfl : c = q 1 + 6 := by omega
        refine V_aload_n (i := 1) dX2_readOrder_44 rfl rfl ?_
        refine V_aload_n (i := 0) dX2_readOrder_45 rfl rfl ?_
        refine V_get (C := RX2) (T := TX2) (N := 11) (ci := 2) (q := 0) (ref := "OrderChains$Engine") 0 rfl il_X2_readOrder_X2 rfl rfl fl_X2_readOrder_9 rfl rfl dX2_readOrder_46 ?_
        refine V_callV (C := RX1) (q := 0) (ci := 1) (As := _) (rest := []) [3, 1] (c_X1_takeOrder l G b (a 1) q val (by omega)) vy_X1_takeOrder gX2_readOrder_X1_takeOrder rfl rfl rfl rfl rfl rfl rfl ⟨rfl, rfl⟩ ⟨rfl, rfl⟩ ⟨Nat.zero_le _, Nat.zero_le _⟩ rfl dX2_readOrder_49 (fun v Y hE => ?_)
        obtain ⟨rfl, rfl⟩ := hE
        refine ⟨rfl, ?_⟩
        dsimp only [vfill, List.set_cons_zero, List.set_cons_succ, Option.toList, List.cons_append, List.nil_append, Nat.add_zero]
        refine V_aload_n (i := 1) dX2_readOrder_52 rfl rfl ?_
        refine V_get (C := RX1) (T := TX1) (N := 13) (ci := 1) (q := 3) (ref := "OrderChains$Channel") 7 rfl il_X2_readOrder_X1 rfl rfl fl_X2_readOrder_109 rfl rfl dX2_readOrder_53 ?_
        refine V_if_ne (tgt := 67) (by show val (q 1) < _; have := hv (q 1) (by omega); omega) dX2_readOrder_56 rfl (fun h_56 => ?_) (fun h_56 => ?_)
        · refine V_aload_n (i := 1) dX2_readOrder_67 rfl rfl ?_
          refine V_get (C := RX1) (T := TX1) (N := 13) (ci := 1) (q := 3) (ref := "OrderChains$Channel") 7 rfl il_X2_readOrder_X1 rfl rfl fl_X2_readOrder_109 rfl rfl dX2_readOrder_68 ?_
          refine V_bipush (v := 6) dX2_readOrder_71 (by decide) ?_
          refine V_icmp_le (tgt := 84) (by show val (q 1) < _; have := hv (q 1) (by omega); omega) (by omega) dX2_readOrder_73 rfl (fun h_73 => ?_) (fun h_73 => ?_)
          · refine V_aload_n (i := 1) dX2_readOrder_84 rfl rfl ?_
            refine V_get (C := RX1) (T := TX1) (N := 13) (ci := 1) (q := 3) (ref := "OrderChains$Channel") 7 rfl il_X2_readOrder_X1 rfl rfl fl_X2_readOrder_109 rfl rfl dX2_readOrder_85 ?_
            refine V_bipush (v := 6) dX2_readOrder_88 (by decide) ?_
            refine V_icmp_eq (tgt := 108) (by show val (q 1) < _; have := hv (q 1) (by omega); omega) (by omega) dX2_readOrder_90 rfl (fun h_90 => ?_) (fun h_90 => ?_)
            · refine V_vret hR dX2_readOrder_108 hkc hks ?_
              refine ⟨rfl, ?_⟩
              unfold rdM rdQ
              rw [if_neg (show ¬ 90 < q 1 by omega), if_neg (show ¬ 90 < q 1 by omega)]
              first | (rw [if_pos (show val (q 1) = 0 from h_56)]; done) | (rw [if_neg (show ¬ val (q 1) = 0 from h_56), if_pos (show 6 < val (q 1) from Nat.lt_of_not_le h_73)]; done) | (rw [if_neg (show ¬ val (q 1) = 0 from h_56), if_neg (show ¬ 6 < val (q 1) from Nat.not_lt.mpr h_73), if_neg (fun z => z.1 h_90)]; done) | (rw [if_neg (show ¬ val (q 1) = 0 from h_56), if_neg (show ¬ 6 < val (q 1) from Nat.not_lt.mpr h_73), if_pos ⟨h_90, h_97⟩]; done) | (rw [if_neg (show ¬ val (q 1) = 0 from h_56), if_neg (show ¬ 6 < val (q 1) from Nat.not_lt.mpr h_73), if_neg (fun z => h_97 z.2)]; done)
            · refine V_aload_n (i := 1) dX2_readOrder_93 rfl rfl ?_
              refine V_get (C := RX1) (T := TX1) (N := 13) (ci := 1) (q := 3) (ref := "OrderChains$Channel") 10 rfl il_X2_readOrder_X1 rfl rfl fl_X2_readOrder_115 rfl rfl dX2_readOrder_94 ?_
              refine V_if_ne (tgt := 108) (by show val (q 1 + 3) < _; have := hv (q 1 + 3) (by omega); omega) dX2_readOrder_97 rfl (fun h_97 => ?_) (fun h_97 => ?_)
              · refine V_vret hR dX2_readOrder_108 hkc hks ?_
                refine ⟨rfl, ?_⟩
                unfold rdM rdQ
                rw [if_neg (show ¬ 90 < q 1 by omega), if_neg (show ¬ 90 < q 1 by omega)]
                first | (rw [if_pos (show val (q 1) = 0 from h_56)]; done) | (rw [if_neg (show ¬ val (q 1) = 0 from h_56), if_pos (show 6 < val (q 1) from Nat.lt_of_not_le h_73)]; done) | (rw [if_neg (show ¬ val (q 1) = 0 from h_56), if_neg (show ¬ 6 < val (q 1) from Nat.not_lt.mpr h_73), if_neg (fun z => z.1 h_90)]; done) | (rw [if_neg (show ¬ val (q 1) = 0 from h_56), if_neg (show ¬ 6 < val (q 1) from Nat.not_lt.mpr h_73), if_pos ⟨h_90, h_97⟩]; done) | (rw [if_neg (show ¬ val (q 1) = 0 from h_56), if_neg (show ¬ 6 < val (q 1) from Nat.not_lt.mpr h_73), if_neg (fun z => h_97 z.2)]; done)
              · refine V_aload_n (i := 1) dX2_readOrder_100 rfl rfl ?_
                refine V_aload_n (i := 1) dX2_readOrder_101 rfl rfl ?_
                refine V_get (C := RX1) (T := TX1) (N := 13) (ci := 1) (q := 3) (ref := "OrderChains$Channel") 12 rfl il_X2_readOrder_X1 rfl rfl fl_X2_readOrder_118 rfl rfl dX2_readOrder_102 ?_
                refine V_callV (C := RX1) (q := 0) (ci := 1) (As := _) (rest := []) [3] (c_X1_goOnAt l G b (val (q 1 + 5)) (qTake val q)) vy_X1_goOnAt gX2_readOrder_X1_goOnAt rfl rfl rfl rfl rfl rfl rfl ⟨rfl, rfl⟩ ⟨rfl, rfl⟩ ⟨Nat.zero_le _, Nat.zero_le _⟩ rfl dX2_readOrder_105 (fun v Y hE => ?_)
                obtain ⟨rfl, rfl⟩ := hE
                refine ⟨rfl, ?_⟩
                dsimp only [vfill, List.set_cons_zero, List.set_cons_succ, Option.toList, List.cons_append, List.nil_append, Nat.add_zero]
                refine V_vret hR dX2_readOrder_108 hkc hks ?_
                refine ⟨rfl, ?_⟩
                unfold rdM rdQ
                rw [if_neg (show ¬ 90 < q 1 by omega), if_neg (show ¬ 90 < q 1 by omega)]
                first | (rw [if_pos (show val (q 1) = 0 from h_56)]; done) | (rw [if_neg (show ¬ val (q 1) = 0 from h_56), if_pos (show 6 < val (q 1) from Nat.lt_of_not_le h_73)]; done) | (rw [if_neg (show ¬ val (q 1) = 0 from h_56), if_neg (show ¬ 6 < val (q 1) from Nat.not_lt.mpr h_73), if_neg (fun z => z.1 h_90)]; done) | (rw [if_neg (show ¬ val (q 1) = 0 from h_56), if_neg (show ¬ 6 < val (q 1) from Nat.not_lt.mpr h_73), if_pos ⟨h_90, h_97⟩]; done) | (rw [if_neg (show ¬ val (q 1) = 0 from h_56), if_neg (show ¬ 6 < val (q 1) from Nat.not_lt.mpr h_73), if_neg (fun z => h_97 z.2)]; done)
          · refine V_aload_n (i := 1) dX2_readOrder_76 rfl rfl ?_
            refine V_iconst (v := 2) dX2_readOrder_77 rfl ?_
            refine V_callV (C := RX1) (q := 0) (ci := 1) (As := _) (rest := []) [3] (c_X1_fail l G b 2 (qTake val q)) vy_X1_fail gX2_readOrder_X1_fail rfl rfl rfl rfl rfl rfl rfl ⟨rfl, rfl⟩ ⟨rfl, rfl⟩ ⟨Nat.zero_le _, Nat.zero_le _⟩ rfl dX2_readOrder_78 (fun v Y hE => ?_)
            obtain ⟨rfl, rfl⟩ := hE
            refine ⟨rfl, ?_⟩
            dsimp only [vfill, List.set_cons_zero, List.set_cons_succ, Option.toList, List.cons_append, List.nil_append, Nat.add_zero]
            refine V_goto (tgt := 108) dX2_readOrder_81 rfl ?_
            refine V_vret hR dX2_readOrder_108 hkc hks ?_
            refine ⟨rfl, ?_⟩
            unfold rdM rdQ
            rw [if_neg (show ¬ 90 < q 1 by omega), if_neg (show ¬ 90 < q 1 by omega)]
            first | (rw [if_pos (show val (q 1) = 0 from h_56)]; done) | (rw [if_neg (show ¬ val (q 1) = 0 from h_56), if_pos (show 6 < val (q 1) from Nat.lt_of_not_le h_73)]; done) | (rw [if_neg (show ¬ val (q 1) = 0 from h_56), if_neg (show ¬ 6 < val (q 1) from Nat.not_lt.mpr h_73), if_neg (fun z => z.1 h_90)]; done) | (rw [if_neg (show ¬ val (q 1) = 0 from h_56), if_neg (show ¬ 6 < val (q 1) from Nat.not_lt.mpr h_73), if_pos ⟨h_90, h_97⟩]; done) | (rw [if_neg (show ¬ val (q 1) = 0 from h_56), if_neg (show ¬ 6 < val (q 1) from Nat.not_lt.mpr h_73), if_neg (fun z => h_97 z.2)]; done)
        · refine V_aload_n (i := 1) dX2_readOrder_59 rfl rfl ?_
          refine V_iconst (v := 2) dX2_readOrder_60 rfl ?_
          refine V_callV (C := RX1) (q := 0) (ci := 1) (As := _) (rest := []) [3] (c_X1_become l G b 2 (qTake val q)) vy_X1_become gX2_readOrder_X1_become rfl rfl rfl rfl rfl rfl rfl ⟨rfl, rfl⟩ ⟨rfl, rfl⟩ ⟨Nat.zero_le _, Nat.zero_le _⟩ rfl dX2_readOrder_61 (fun v Y hE => ?_)
          obtain ⟨rfl, rfl⟩ := hE
          refine ⟨rfl, ?_⟩
          dsimp only [vfill, List.set_cons_zero, List.set_cons_succ, Option.toList, List.cons_append, List.nil_append, Nat.add_zero]
          refine V_goto (tgt := 108) dX2_readOrder_64 rfl ?_
          refine V_vret hR dX2_readOrder_108 hkc hks ?_
          refine ⟨rfl, ?_⟩
          unfold rdM rdQ
          rw [if_neg (show ¬ 90 < q 1 by omega), if_neg (show ¬ 90 < q 1 by omega)]
          first | (rw [if_pos (show val (q 1) = 0 from h_56)]; done) | (rw [if_neg (show ¬ val (q 1) = 0 from h_56), if_pos (show 6 < val (q 1) from Nat.lt_of_not_le h_73)]; done) | (rw [if_neg (show ¬ val (q 1) = 0 from h_56), if_neg (show ¬ 6 < val (q 1) from Nat.not_lt.mpr h_73), if_neg (fun z => z.1 h_90)]; done) | (rw [if_neg (show ¬ val (q 1) = 0 from h_56), if_neg (show ¬ 6 < val (q 1) from Nat.not_lt.mpr h_73), if_pos ⟨h_90, h_97⟩]; done) | (rw [if_neg (show ¬ val (q 1) = 0 from h_56), if_neg (show ¬ 6 < val (q 1) from Nat.not_lt.mpr h_73), if_neg (fun z => h_97 z.2)]; done)
      · refine V_aload_n (i := 0) dX2_readOrder_31 rfl rfl ?_
        refine V_get (C := RX2) (T := TX2) (N := 11) (ci := 2) (q := 0) (ref := "OrderChains$Engine") 2 rfl il_X2_readOrder_X2 rfl rfl fl_X2_readOrder_18 rfl rfl dX2_readOrder_32 ?_
        refine V_iload_n (i := 2) dX2_readOrder_35 rfl rfl ?_
        refine V_iconst (v := 1) dX2_readOrder_36 rfl ?_
        refine V_iast (q := 2) rfl (by omega) rfl dX2_readOrder_37 ?_
        dsimp only [List.set_cons_zero, List.set_cons_succ]
        refine V_iinc dX2_readOrder_38 rfl (nI_1 _) rfl rfl ?_
        dsimp only [List.set_cons_zero, List.set_cons_succ]
        refine V_goto (tgt := 20) dX2_readOrder_41 rfl ?_
        rw [mark_step mark (q 1) c hc1]
        exact ih (c + 1) (by omega) (by omega) (by omega) hq
  refine V_aload_n (i := 1) dX2_readOrder_0 rfl rfl ?_
  refine V_get (C := RX1) (T := TX1) (N := 13) (ci := 1) (q := 3) (ref := "OrderChains$Channel") 1 rfl il_X2_readOrder_X1 rfl rfl fl_X2_readOrder_99 rfl rfl dX2_readOrder_1 ?_
  refine V_bipush (v := 90) dX2_readOrder_4 (by decide) ?_
  refine V_icmp_le (tgt := 15) (by omega) (by omega) dX2_readOrder_6 rfl (fun h_6 => ?_) (fun h_6 => ?_)
  · refine V_aload_n (i := 1) dX2_readOrder_15 rfl rfl ?_
    refine V_get (C := RX1) (T := TX1) (N := 13) (ci := 1) (q := 3) (ref := "OrderChains$Channel") 1 rfl il_X2_readOrder_X1 rfl rfl fl_X2_readOrder_99 rfl rfl dX2_readOrder_16 ?_
    refine V_istore_n (i := 2) dX2_readOrder_19 rfl rfl rfl ?_
    dsimp only [List.set_cons_zero, List.set_cons_succ]
    have e0 : (fun k => if q 1 ≤ k ∧ k < q 1 then 1 else mark k) = mark := by funext k; rw [if_neg (by omega)]
    refine V_same (X' := [eO a s, iA G (a 1) 96 val, iA G (a 3) 96 (fun k => if q 1 ≤ k ∧ k < q 1 then 1 else mark k), cX b q]) (by rw [e0]) ?_
    exact LP20 7 (q 1) (by omega) (by omega) (by omega) (by omega)
  · refine V_aload_n (i := 1) dX2_readOrder_9 rfl rfl ?_
    refine V_iconst (v := 1) dX2_readOrder_10 rfl ?_
    refine V_callV (C := RX1) (q := 0) (ci := 1) (As := _) (rest := []) [3] (c_X1_fail l G b 1 q) vy_X1_fail gX2_readOrder_X1_fail rfl rfl rfl rfl rfl rfl rfl ⟨rfl, rfl⟩ ⟨rfl, rfl⟩ ⟨Nat.zero_le _, Nat.zero_le _⟩ rfl dX2_readOrder_11 (fun v Y hE => ?_)
    obtain ⟨rfl, rfl⟩ := hE
    refine ⟨rfl, ?_⟩
    dsimp only [vfill, List.set_cons_zero, List.set_cons_succ, Option.toList, List.cons_append, List.nil_append, Nat.add_zero]
    refine V_vret hR dX2_readOrder_14 hkc hks ?_
    refine ⟨rfl, ?_⟩
    unfold rdM rdQ
    rw [if_pos (show 90 < q 1 by omega), if_pos (show 90 < q 1 by omega)]

abbrev rX2_doUnit : Room := { frames := 3, cells := 0, slots := 0, locals := 64 }
theorem vy_X2_doUnit : vY yX2_doUnit wsX2_doUnit cX2_doUnit 7 none 1 := ⟨⟨_, rfl⟩, by decide +kernel, by decide +kernel, by decide +kernel⟩
theorem fl_X2_doUnit_26 : Cond.fieldLink RX2 26 "OrderChains$Engine" "channels" "[LOrderChains$Channel;" ∈ wsX2_doUnit := List.mem_of_getElem? (i := 1) rfl
theorem il_X2_doUnit_X2 : ∀ w ∈ wsX20, w ∈ wsX2_doUnit := fun _ h => List.mem_cons_of_mem _ (List.mem_append_left _ (List.mem_append_right _ h))
theorem fl_X2_doUnit_109 : Cond.fieldLink RX2 109 "OrderChains$Channel" "kind" "I" ∈ wsX2_doUnit := List.mem_of_getElem? (i := 2) rfl
theorem il_X2_doUnit_X1 : ∀ w ∈ wsX10, w ∈ wsX2_doUnit := fun _ h => List.mem_cons_of_mem _ (List.mem_append_right _ h)
theorem fl_X2_doUnit_127 : Cond.fieldLink RX2 127 "OrderChains$Channel" "units" "I" ∈ wsX2_doUnit := List.mem_of_getElem? (i := 4) rfl
theorem fl_X2_doUnit_130 : Cond.fieldLink RX2 130 "OrderChains$Channel" "to" "I" ∈ wsX2_doUnit := List.mem_of_getElem? (i := 5) rfl
theorem fl_X2_doUnit_136 : Cond.fieldLink RX2 136 "OrderChains$Channel" "from" "I" ∈ wsX2_doUnit := List.mem_of_getElem? (i := 7) rfl
theorem fl_X2_doUnit_115 : Cond.fieldLink RX2 115 "OrderChains$Channel" "count" "I" ∈ wsX2_doUnit := List.mem_of_getElem? (i := 3) rfl
theorem fl_X2_doUnit_118 : Cond.fieldLink RX2 118 "OrderChains$Channel" "next" "I" ∈ wsX2_doUnit := List.mem_of_getElem? (i := 8) rfl
theorem fl_X2_doUnit_133 : Cond.fieldLink RX2 133 "OrderChains$Channel" "stride" "I" ∈ wsX2_doUnit := List.mem_of_getElem? (i := 6) rfl
set_option maxHeartbeats 4000000 in
set_option maxRecDepth 100000 in
/-- Engine.doUnit -/
theorem c_X2_doUnit (l : Launch) (G : vG) (a own mark val lw bits s q : Nat → Nat) (h : Nat) (hh : h < 3) (hm : ∀ k, k < 96 → mark k < 2) (hs : s 4 < 4294967296) (ho : ∀ k, k < 96 → own k < 4) (hv : ∀ k, k < 96 → val k < 100) (hq : qB q) (h5 : q 5 ≠ 4294967287) : Kc l G yX2_doUnit wsX2_doUnit rX2_doUnit [.ref (a 0), .int (nI h)] [eO a s, iA G (a 1) 96 val, iA G (a 2) 96 own, iA G (a 3) 96 mark, iA G (a 4) 96 lw, eC G a, cX (a (6 + h)) q, iA G (a 9) 96 bits] (fun r Y => r = none ∧ Y = eW G a own mark h (duC own mark h (val, lw, bits, s, q))) 0 0 := by
  refine V_enter (own := RX2) [some (.ref (a 0)), some (.int (nI h)), none, none, none, none, none] (by decide +kernel) rfl rfl (Nat.le_of_ble_eq_true rfl) rfl (fun Γ hR hin => ?_)
  have hkc : 0 ≤ 0 := Nat.le_refl 0
  have hks : 0 ≤ 0 := Nat.le_refl 0
  obtain ⟨q0, q1, q2, q5, q6, q7, q8, q9, q10, q11, q12⟩ := hq
  obtain ⟨q5, q71, q76, q6k⟩ := q5.resolve_left (fun z => h5 z.1)
  rcases (show q 7 = 1 ∨ q 7 = 2 ∨ q 7 = 3 ∨ q 7 = 4 ∨ q 7 = 5 ∨ q 7 = 6 by omega) with e7 | e7 | e7 | e7 | e7 | e7
  · have hmu : q 6 * q 11 ≤ 9801 := Nat.mul_le_mul (show q 6 ≤ 99 by omega) (show q 11 ≤ 99 by omega)
    have hS : dSr q = q 8 + q 6 := by simp [dSr, dTg, dI, e7]
    have hT : dTg q = q 9 + q 6 := by simp [dTg, dI, e7]
    refine V_aload_n (i := 0) dX2_doUnit_0 rfl rfl ?_
    refine V_get (C := RX2) (T := TX2) (N := 11) (ci := 2) (q := 0) (ref := "OrderChains$Engine") 4 rfl il_X2_doUnit_X2 rfl rfl fl_X2_doUnit_26 rfl rfl dX2_doUnit_1 ?_
    refine V_iload_n (i := 1) dX2_doUnit_4 rfl rfl ?_
    refine V_aaldC (q := 5) rfl (by omega) rfl dX2_doUnit_5 ?_
    refine V_astore_n (i := 2) dX2_doUnit_6 rfl rfl rfl ?_
    dsimp only [List.set_cons_zero, List.set_cons_succ]
    refine V_aload_n (i := 2) dX2_doUnit_7 rfl rfl ?_
    refine V_get (C := RX1) (T := TX1) (N := 13) (ci := 1) (q := 6) (ref := "OrderChains$Channel") 7 rfl il_X2_doUnit_X1 rfl rfl fl_X2_doUnit_109 rfl rfl dX2_doUnit_8 ?_
    refine V_top (b := 1) (by omega) ?_
    refine V_bipush (v := 6) dX2_doUnit_11 (by decide) ?_
    refine V_icmp_ne (tgt := 22) (by omega) (by omega) dX2_doUnit_13 rfl (fun h_13 => ?_) (fun h_13 => ?_)
    · refine V_aload_n (i := 2) dX2_doUnit_22 rfl rfl ?_
      refine V_get (C := RX1) (T := TX1) (N := 13) (ci := 1) (q := 6) (ref := "OrderChains$Channel") 7 rfl il_X2_doUnit_X1 rfl rfl fl_X2_doUnit_109 rfl rfl dX2_doUnit_23 ?_
      refine V_top (b := 1) (by omega) ?_
      refine V_iconst (v := 3) dX2_doUnit_26 rfl ?_
      refine V_icmp_eq (tgt := 38) (by omega) (by omega) dX2_doUnit_27 rfl (fun h_27 => ?_) (fun h_27 => ?_)
      · exfalso; omega
      · refine V_aload_n (i := 2) dX2_doUnit_30 rfl rfl ?_
        refine V_get (C := RX1) (T := TX1) (N := 13) (ci := 1) (q := 6) (ref := "OrderChains$Channel") 7 rfl il_X2_doUnit_X1 rfl rfl fl_X2_doUnit_109 rfl rfl dX2_doUnit_31 ?_
        refine V_top (b := 1) (by omega) ?_
        refine V_iconst (v := 4) dX2_doUnit_34 rfl ?_
        refine V_icmp_ne (tgt := 42) (by omega) (by omega) dX2_doUnit_35 rfl (fun h_35 => ?_) (fun h_35 => ?_)
        · refine V_iconst (v := 0) dX2_doUnit_42 rfl ?_
          refine V_istore_n (i := 3) dX2_doUnit_43 rfl rfl rfl ?_
          dsimp only [List.set_cons_zero, List.set_cons_succ]
          refine V_aload_n (i := 2) dX2_doUnit_44 rfl rfl ?_
          refine V_get (C := RX1) (T := TX1) (N := 13) (ci := 1) (q := 6) (ref := "OrderChains$Channel") 7 rfl il_X2_doUnit_X1 rfl rfl fl_X2_doUnit_109 rfl rfl dX2_doUnit_45 ?_
          refine V_top (b := 1) (by omega) ?_
          refine V_iconst (v := 2) dX2_doUnit_48 rfl ?_
          refine V_icmp_ne (tgt := 66) (by omega) (by omega) dX2_doUnit_49 rfl (fun h_49 => ?_) (fun h_49 => ?_)
          · refine V_aload_n (i := 2) dX2_doUnit_66 rfl rfl ?_
            refine V_get (C := RX1) (T := TX1) (N := 13) (ci := 1) (q := 6) (ref := "OrderChains$Channel") 6 rfl il_X2_doUnit_X1 rfl rfl fl_X2_doUnit_127 rfl rfl dX2_doUnit_67 ?_
            refine V_istore (i := 4) dX2_doUnit_70 rfl rfl ?_
            dsimp only [List.set_cons_zero, List.set_cons_succ]
            refine V_aload_n (i := 2) dX2_doUnit_72 rfl rfl ?_
            refine V_get (C := RX1) (T := TX1) (N := 13) (ci := 1) (q := 6) (ref := "OrderChains$Channel") 9 rfl il_X2_doUnit_X1 rfl rfl fl_X2_doUnit_130 rfl rfl dX2_doUnit_73 ?_
            refine V_iload_n (i := 3) dX2_doUnit_76 rfl rfl ?_
            refine V_if_eq (tgt := 90) (by omega) dX2_doUnit_77 rfl (fun h_77 => ?_) (fun h_77 => ?_)
            · refine V_iload (i := 4) dX2_doUnit_90 rfl ?_
              refine V_iadd dX2_doUnit_92 ?_
              refine V_istore (i := 5) dX2_doUnit_93 rfl rfl ?_
              dsimp only [List.set_cons_zero, List.set_cons_succ]
              refine V_iload_n (i := 3) dX2_doUnit_95 rfl rfl ?_
              refine V_if_eq (tgt := 104) (by omega) dX2_doUnit_96 rfl (fun h_96 => ?_) (fun h_96 => ?_)
              · refine V_aload_n (i := 2) dX2_doUnit_104 rfl rfl ?_
                refine V_get (C := RX1) (T := TX1) (N := 13) (ci := 1) (q := 6) (ref := "OrderChains$Channel") 8 rfl il_X2_doUnit_X1 rfl rfl fl_X2_doUnit_136 rfl rfl dX2_doUnit_105 ?_
                refine V_iload (i := 4) dX2_doUnit_108 rfl ?_
                refine V_iadd dX2_doUnit_110 ?_
                refine V_istore (i := 6) dX2_doUnit_111 rfl rfl ?_
                dsimp only [List.set_cons_zero, List.set_cons_succ]
                refine V_iload (i := 6) dX2_doUnit_113 rfl ?_
                refine V_bipush (v := 96) dX2_doUnit_115 (by decide) ?_
                refine V_icmp_ge (tgt := 127) (by omega) (by omega) dX2_doUnit_117 rfl (fun h_117 => ?_) (fun h_117 => ?_)
                · refine V_aload_n (i := 2) dX2_doUnit_127 rfl rfl ?_
                  refine V_iconst (v := 3) dX2_doUnit_128 rfl ?_
                  refine V_callV (C := RX1) (q := 0) (ci := 1) (As := _) (rest := []) [6] (c_X1_fail l G (a (6 + h)) 3 q) vy_X1_fail gX2_doUnit_X1_fail rfl rfl rfl rfl rfl rfl rfl ⟨rfl, rfl⟩ ⟨rfl, rfl⟩ ⟨Nat.zero_le _, Nat.zero_le _⟩ rfl dX2_doUnit_129 (fun v Y hE => ?_)
                  obtain ⟨rfl, rfl⟩ := hE
                  refine ⟨rfl, ?_⟩
                  dsimp only [vfill, List.set_cons_zero, List.set_cons_succ, Option.toList, List.cons_append, List.nil_append, Nat.add_zero]
                  refine V_vret hR dX2_doUnit_132 hkc hks ?_
                  refine ⟨rfl, ?_⟩
                  rw [show duC own mark h (val, lw, bits, s, q) = sQ (qFail 3) (val, lw, bits, s, q) by
                      unfold duC unC
                      dsimp only
                      rw [if_neg (show ¬ q 7 = 6 by omega), hS, hT, if_pos (show 96 ≤ q 8 + q 6 ∨ 96 ≤ q 9 + q 6 by omega)]]
                  rfl
                · refine V_iload (i := 5) dX2_doUnit_120 rfl ?_
                  refine V_bipush (v := 96) dX2_doUnit_122 (by decide) ?_
                  refine V_icmp_lt (tgt := 133) (by omega) (by omega) dX2_doUnit_124 rfl (fun h_124 => ?_) (fun h_124 => ?_)
                  · refine V_aload_n (i := 0) dX2_doUnit_133 rfl rfl ?_
                    refine V_iload_n (i := 1) dX2_doUnit_134 rfl rfl ?_
                    refine V_iload (i := 6) dX2_doUnit_135 rfl ?_
                    refine V_iload (i := 5) dX2_doUnit_137 rfl ?_
                    refine V_callV (C := RX2) (q := 0) (ci := 2) (As := _) (rest := []) [0, 2, 5, 6] (c_X2_isForbidden l G a own s q h (q 8 + q 6) (q 9 + q 6) hh (by omega) (by omega) (fun k hk => by have := ho k hk; omega) (by omega)) vy_X2_isForbidden gX2_doUnit_X2_isForbidden rfl rfl rfl rfl rfl rfl rfl ⟨rfl, rfl⟩ ⟨rfl, rfl⟩ ⟨Nat.zero_le _, Nat.zero_le _⟩ rfl dX2_doUnit_139 (fun v Y hE => ?_)
                    obtain ⟨rfl, rfl⟩ := hE
                    refine ⟨rfl, ?_⟩
                    dsimp only [vfill, List.set_cons_zero, List.set_cons_succ, Option.toList, List.cons_append, List.nil_append, Nat.add_zero]
                    have hfb := forb_01 own h (q 7) (q 8 + q 6) (q 9 + q 6)
                    refine V_if_eq (tgt := 151) (by omega) dX2_doUnit_142 rfl (fun h_142 => ?_) (fun h_142 => ?_)
                    · refine V_aload_n (i := 0) dX2_doUnit_151 rfl rfl ?_
                      refine V_iload_n (i := 1) dX2_doUnit_152 rfl rfl ?_
                      refine V_iload (i := 6) dX2_doUnit_153 rfl ?_
                      refine V_iload (i := 5) dX2_doUnit_155 rfl ?_
                      refine V_callV (C := RX2) (q := 0) (ci := 2) (As := _) (rest := []) [0, 1, 2, 3, 4, 5, 6, 7] (c_X2_writeUnit l G a own mark val lw bits s q h (q 8 + q 6) (q 9 + q 6) hh (by omega) (by omega) (fun k hk => by have := hm k hk; omega) hs (by omega) (by omega) hv) vy_X2_writeUnit gX2_doUnit_X2_writeUnit rfl rfl rfl rfl rfl rfl rfl ⟨rfl, rfl⟩ ⟨rfl, rfl⟩ ⟨Nat.zero_le _, Nat.zero_le _⟩ rfl dX2_doUnit_157 (fun v Y hE => ?_)
                      obtain ⟨rfl, rfl⟩ := hE
                      refine ⟨rfl, ?_⟩
                      dsimp only [vfill, eW, List.set_cons_zero, List.set_cons_succ, Option.toList, List.cons_append, List.nil_append, Nat.add_zero]
                      refine V_aload_n (i := 2) dX2_doUnit_160 rfl rfl ?_
                      refine V_dup dX2_doUnit_161 rfl ?_
                      refine V_get (C := RX1) (T := TX1) (N := 13) (ci := 1) (q := 6) (ref := "OrderChains$Channel") 6 rfl il_X2_doUnit_X1 rfl rfl fl_X2_doUnit_127 rfl rfl dX2_doUnit_162 ?_
                      refine V_iconst (v := 1) dX2_doUnit_165 rfl ?_
                      refine V_iadd dX2_doUnit_166 ?_
                      refine V_put (C := RX1) (T := TX1) (N := 13) (ci := 1) (q := 6) (ref := "OrderChains$Channel") (ty := .int) (ty0 := tyX1) 6 rfl il_X2_doUnit_X1 tyX1_ok nmX1 rfl rfl fl_X2_doUnit_127 rfl rfl rfl rfl rfl rfl dX2_doUnit_167 ?_
                      dsimp only [List.set_cons_zero, List.set_cons_succ]
                      refine V_aload_n (i := 2) dX2_doUnit_170 rfl rfl ?_
                      refine V_get (C := RX1) (T := TX1) (N := 13) (ci := 1) (q := 6) (ref := "OrderChains$Channel") 6 rfl il_X2_doUnit_X1 rfl rfl fl_X2_doUnit_127 rfl rfl dX2_doUnit_171 ?_
                      refine V_aload_n (i := 2) dX2_doUnit_174 rfl rfl ?_
                      refine V_get (C := RX1) (T := TX1) (N := 13) (ci := 1) (q := 6) (ref := "OrderChains$Channel") 10 rfl il_X2_doUnit_X1 rfl rfl fl_X2_doUnit_115 rfl rfl dX2_doUnit_175 ?_
                      refine V_icmp_lt (tgt := 189) (by rw [wuC_q _ _ _ _ _ _ (by decide)]; show q 6 + 1 < _; omega) (by rw [wuC_q _ _ _ _ _ _ (by decide)]; show q 10 < _; omega) dX2_doUnit_178 rfl (fun h_178 => ?_) (fun h_178 => ?_)
                      · refine V_vret hR dX2_doUnit_189 hkc hks ?_
                        refine ⟨rfl, ?_⟩
                        have hf0 : ¬ forb own h (q 7) (q 8 + q 6) (q 9 + q 6) = 1 := by omega
                        rw [show duC own mark h (val, lw, bits, s, q) = sQ qNext (wuC mark h (q 8 + q 6) (q 9 + q 6) (val, lw, bits, s, q)) by
                            unfold duC unC
                            dsimp only
                            rw [if_neg (show ¬ q 7 = 6 by omega), hS, hT, if_neg (show ¬ (96 ≤ q 8 + q 6 ∨ 96 ≤ q 9 + q 6) by omega), if_neg hf0]]
                        unfold sQ qNext
                        first | (rw [if_pos h_178]; rfl) | (rw [if_neg h_178]; rfl)
                      · refine V_aload_n (i := 2) dX2_doUnit_181 rfl rfl ?_
                        refine V_aload_n (i := 2) dX2_doUnit_182 rfl rfl ?_
                        refine V_get (C := RX1) (T := TX1) (N := 13) (ci := 1) (q := 6) (ref := "OrderChains$Channel") 12 rfl il_X2_doUnit_X1 rfl rfl fl_X2_doUnit_118 rfl rfl dX2_doUnit_183 ?_
                        refine V_callV (C := RX1) (q := 0) (ci := 1) (As := _) (rest := []) [6] (c_X1_goOnAt l G (a (6 + h)) ((wuC mark h (q 8 + q 6) (q 9 + q 6) (val, lw, bits, s, q)).2.2.2.2 12) (va_up (wuC mark h (q 8 + q 6) (q 9 + q 6) (val, lw, bits, s, q)).2.2.2.2 6 ((wuC mark h (q 8 + q 6) (q 9 + q 6) (val, lw, bits, s, q)).2.2.2.2 6 + 1))) vy_X1_goOnAt gX2_doUnit_X1_goOnAt rfl rfl rfl rfl rfl rfl rfl ⟨rfl, rfl⟩ ⟨rfl, rfl⟩ ⟨Nat.zero_le _, Nat.zero_le _⟩ rfl dX2_doUnit_186 (fun v Y hE => ?_)
                        obtain ⟨rfl, rfl⟩ := hE
                        refine ⟨rfl, ?_⟩
                        dsimp only [vfill, List.set_cons_zero, List.set_cons_succ, Option.toList, List.cons_append, List.nil_append, Nat.add_zero]
                        refine V_vret hR dX2_doUnit_189 hkc hks ?_
                        refine ⟨rfl, ?_⟩
                        have hf0 : ¬ forb own h (q 7) (q 8 + q 6) (q 9 + q 6) = 1 := by omega
                        rw [show duC own mark h (val, lw, bits, s, q) = sQ qNext (wuC mark h (q 8 + q 6) (q 9 + q 6) (val, lw, bits, s, q)) by
                            unfold duC unC
                            dsimp only
                            rw [if_neg (show ¬ q 7 = 6 by omega), hS, hT, if_neg (show ¬ (96 ≤ q 8 + q 6 ∨ 96 ≤ q 9 + q 6) by omega), if_neg hf0]]
                        unfold sQ qNext
                        first | (rw [if_pos h_178]; rfl) | (rw [if_neg h_178]; rfl)
                    · refine V_aload_n (i := 2) dX2_doUnit_145 rfl rfl ?_
                      refine V_iconst (v := 4) dX2_doUnit_146 rfl ?_
                      refine V_callV (C := RX1) (q := 0) (ci := 1) (As := _) (rest := []) [6] (c_X1_fail l G (a (6 + h)) 4 q) vy_X1_fail gX2_doUnit_X1_fail rfl rfl rfl rfl rfl rfl rfl ⟨rfl, rfl⟩ ⟨rfl, rfl⟩ ⟨Nat.zero_le _, Nat.zero_le _⟩ rfl dX2_doUnit_147 (fun v Y hE => ?_)
                      obtain ⟨rfl, rfl⟩ := hE
                      refine ⟨rfl, ?_⟩
                      dsimp only [vfill, List.set_cons_zero, List.set_cons_succ, Option.toList, List.cons_append, List.nil_append, Nat.add_zero]
                      refine V_vret hR dX2_doUnit_150 hkc hks ?_
                      refine ⟨rfl, ?_⟩
                      have hf1 : forb own h (q 7) (q 8 + q 6) (q 9 + q 6) = 1 := by omega
                      rw [show duC own mark h (val, lw, bits, s, q) = sQ (qFail 4) (val, lw, bits, s, q) by
                          unfold duC unC
                          dsimp only
                          rw [if_neg (show ¬ q 7 = 6 by omega), hS, hT, if_neg (show ¬ (96 ≤ q 8 + q 6 ∨ 96 ≤ q 9 + q 6) by omega), if_pos hf1]]
                      rfl
                  · refine V_aload_n (i := 2) dX2_doUnit_127 rfl rfl ?_
                    refine V_iconst (v := 3) dX2_doUnit_128 rfl ?_
                    refine V_callV (C := RX1) (q := 0) (ci := 1) (As := _) (rest := []) [6] (c_X1_fail l G (a (6 + h)) 3 q) vy_X1_fail gX2_doUnit_X1_fail rfl rfl rfl rfl rfl rfl rfl ⟨rfl, rfl⟩ ⟨rfl, rfl⟩ ⟨Nat.zero_le _, Nat.zero_le _⟩ rfl dX2_doUnit_129 (fun v Y hE => ?_)
                    obtain ⟨rfl, rfl⟩ := hE
                    refine ⟨rfl, ?_⟩
                    dsimp only [vfill, List.set_cons_zero, List.set_cons_succ, Option.toList, List.cons_append, List.nil_append, Nat.add_zero]
                    refine V_vret hR dX2_doUnit_132 hkc hks ?_
                    refine ⟨rfl, ?_⟩
                    rw [show duC own mark h (val, lw, bits, s, q) = sQ (qFail 3) (val, lw, bits, s, q) by
                        unfold duC unC
                        dsimp only
                        rw [if_neg (show ¬ q 7 = 6 by omega), hS, hT, if_pos (show 96 ≤ q 8 + q 6 ∨ 96 ≤ q 9 + q 6 by omega)]]
                    rfl
              · exfalso; omega
            · exfalso; omega
          · exfalso; omega
        · exfalso; omega
    · exfalso; omega
  · have hmu : q 6 * q 11 ≤ 9801 := Nat.mul_le_mul (show q 6 ≤ 99 by omega) (show q 11 ≤ 99 by omega)
    have hS : dSr q = q 8 + (q 10 - 1 - q 6) := by simp [dSr, dTg, dI, e7]
    have hT : dTg q = q 9 + (q 10 - 1 - q 6) := by simp [dTg, dI, e7]
    refine V_aload_n (i := 0) dX2_doUnit_0 rfl rfl ?_
    refine V_get (C := RX2) (T := TX2) (N := 11) (ci := 2) (q := 0) (ref := "OrderChains$Engine") 4 rfl il_X2_doUnit_X2 rfl rfl fl_X2_doUnit_26 rfl rfl dX2_doUnit_1 ?_
    refine V_iload_n (i := 1) dX2_doUnit_4 rfl rfl ?_
    refine V_aaldC (q := 5) rfl (by omega) rfl dX2_doUnit_5 ?_
    refine V_astore_n (i := 2) dX2_doUnit_6 rfl rfl rfl ?_
    dsimp only [List.set_cons_zero, List.set_cons_succ]
    refine V_aload_n (i := 2) dX2_doUnit_7 rfl rfl ?_
    refine V_get (C := RX1) (T := TX1) (N := 13) (ci := 1) (q := 6) (ref := "OrderChains$Channel") 7 rfl il_X2_doUnit_X1 rfl rfl fl_X2_doUnit_109 rfl rfl dX2_doUnit_8 ?_
    refine V_top (b := 2) (by omega) ?_
    refine V_bipush (v := 6) dX2_doUnit_11 (by decide) ?_
    refine V_icmp_ne (tgt := 22) (by omega) (by omega) dX2_doUnit_13 rfl (fun h_13 => ?_) (fun h_13 => ?_)
    · refine V_aload_n (i := 2) dX2_doUnit_22 rfl rfl ?_
      refine V_get (C := RX1) (T := TX1) (N := 13) (ci := 1) (q := 6) (ref := "OrderChains$Channel") 7 rfl il_X2_doUnit_X1 rfl rfl fl_X2_doUnit_109 rfl rfl dX2_doUnit_23 ?_
      refine V_top (b := 2) (by omega) ?_
      refine V_iconst (v := 3) dX2_doUnit_26 rfl ?_
      refine V_icmp_eq (tgt := 38) (by omega) (by omega) dX2_doUnit_27 rfl (fun h_27 => ?_) (fun h_27 => ?_)
      · exfalso; omega
      · refine V_aload_n (i := 2) dX2_doUnit_30 rfl rfl ?_
        refine V_get (C := RX1) (T := TX1) (N := 13) (ci := 1) (q := 6) (ref := "OrderChains$Channel") 7 rfl il_X2_doUnit_X1 rfl rfl fl_X2_doUnit_109 rfl rfl dX2_doUnit_31 ?_
        refine V_top (b := 2) (by omega) ?_
        refine V_iconst (v := 4) dX2_doUnit_34 rfl ?_
        refine V_icmp_ne (tgt := 42) (by omega) (by omega) dX2_doUnit_35 rfl (fun h_35 => ?_) (fun h_35 => ?_)
        · refine V_iconst (v := 0) dX2_doUnit_42 rfl ?_
          refine V_istore_n (i := 3) dX2_doUnit_43 rfl rfl rfl ?_
          dsimp only [List.set_cons_zero, List.set_cons_succ]
          refine V_aload_n (i := 2) dX2_doUnit_44 rfl rfl ?_
          refine V_get (C := RX1) (T := TX1) (N := 13) (ci := 1) (q := 6) (ref := "OrderChains$Channel") 7 rfl il_X2_doUnit_X1 rfl rfl fl_X2_doUnit_109 rfl rfl dX2_doUnit_45 ?_
          refine V_top (b := 2) (by omega) ?_
          refine V_iconst (v := 2) dX2_doUnit_48 rfl ?_
          refine V_icmp_ne (tgt := 66) (by omega) (by omega) dX2_doUnit_49 rfl (fun h_49 => ?_) (fun h_49 => ?_)
          · exfalso; omega
          · refine V_aload_n (i := 2) dX2_doUnit_52 rfl rfl ?_
            refine V_get (C := RX1) (T := TX1) (N := 13) (ci := 1) (q := 6) (ref := "OrderChains$Channel") 10 rfl il_X2_doUnit_X1 rfl rfl fl_X2_doUnit_115 rfl rfl dX2_doUnit_53 ?_
            refine V_iconst (v := 1) dX2_doUnit_56 rfl ?_
            refine V_isub dX2_doUnit_57 (by omega) ?_
            refine V_aload_n (i := 2) dX2_doUnit_58 rfl rfl ?_
            refine V_get (C := RX1) (T := TX1) (N := 13) (ci := 1) (q := 6) (ref := "OrderChains$Channel") 6 rfl il_X2_doUnit_X1 rfl rfl fl_X2_doUnit_127 rfl rfl dX2_doUnit_59 ?_
            refine V_isub dX2_doUnit_62 (by omega) ?_
            refine V_goto (tgt := 70) dX2_doUnit_63 rfl ?_
            refine V_istore (i := 4) dX2_doUnit_70 rfl rfl ?_
            dsimp only [List.set_cons_zero, List.set_cons_succ]
            refine V_aload_n (i := 2) dX2_doUnit_72 rfl rfl ?_
            refine V_get (C := RX1) (T := TX1) (N := 13) (ci := 1) (q := 6) (ref := "OrderChains$Channel") 9 rfl il_X2_doUnit_X1 rfl rfl fl_X2_doUnit_130 rfl rfl dX2_doUnit_73 ?_
            refine V_iload_n (i := 3) dX2_doUnit_76 rfl rfl ?_
            refine V_if_eq (tgt := 90) (by omega) dX2_doUnit_77 rfl (fun h_77 => ?_) (fun h_77 => ?_)
            · refine V_iload (i := 4) dX2_doUnit_90 rfl ?_
              refine V_iadd dX2_doUnit_92 ?_
              refine V_istore (i := 5) dX2_doUnit_93 rfl rfl ?_
              dsimp only [List.set_cons_zero, List.set_cons_succ]
              refine V_iload_n (i := 3) dX2_doUnit_95 rfl rfl ?_
              refine V_if_eq (tgt := 104) (by omega) dX2_doUnit_96 rfl (fun h_96 => ?_) (fun h_96 => ?_)
              · refine V_aload_n (i := 2) dX2_doUnit_104 rfl rfl ?_
                refine V_get (C := RX1) (T := TX1) (N := 13) (ci := 1) (q := 6) (ref := "OrderChains$Channel") 8 rfl il_X2_doUnit_X1 rfl rfl fl_X2_doUnit_136 rfl rfl dX2_doUnit_105 ?_
                refine V_iload (i := 4) dX2_doUnit_108 rfl ?_
                refine V_iadd dX2_doUnit_110 ?_
                refine V_istore (i := 6) dX2_doUnit_111 rfl rfl ?_
                dsimp only [List.set_cons_zero, List.set_cons_succ]
                refine V_iload (i := 6) dX2_doUnit_113 rfl ?_
                refine V_bipush (v := 96) dX2_doUnit_115 (by decide) ?_
                refine V_icmp_ge (tgt := 127) (by omega) (by omega) dX2_doUnit_117 rfl (fun h_117 => ?_) (fun h_117 => ?_)
                · refine V_aload_n (i := 2) dX2_doUnit_127 rfl rfl ?_
                  refine V_iconst (v := 3) dX2_doUnit_128 rfl ?_
                  refine V_callV (C := RX1) (q := 0) (ci := 1) (As := _) (rest := []) [6] (c_X1_fail l G (a (6 + h)) 3 q) vy_X1_fail gX2_doUnit_X1_fail rfl rfl rfl rfl rfl rfl rfl ⟨rfl, rfl⟩ ⟨rfl, rfl⟩ ⟨Nat.zero_le _, Nat.zero_le _⟩ rfl dX2_doUnit_129 (fun v Y hE => ?_)
                  obtain ⟨rfl, rfl⟩ := hE
                  refine ⟨rfl, ?_⟩
                  dsimp only [vfill, List.set_cons_zero, List.set_cons_succ, Option.toList, List.cons_append, List.nil_append, Nat.add_zero]
                  refine V_vret hR dX2_doUnit_132 hkc hks ?_
                  refine ⟨rfl, ?_⟩
                  rw [show duC own mark h (val, lw, bits, s, q) = sQ (qFail 3) (val, lw, bits, s, q) by
                      unfold duC unC
                      dsimp only
                      rw [if_neg (show ¬ q 7 = 6 by omega), hS, hT, if_pos (show 96 ≤ q 8 + (q 10 - 1 - q 6) ∨ 96 ≤ q 9 + (q 10 - 1 - q 6) by omega)]]
                  rfl
                · refine V_iload (i := 5) dX2_doUnit_120 rfl ?_
                  refine V_bipush (v := 96) dX2_doUnit_122 (by decide) ?_
                  refine V_icmp_lt (tgt := 133) (by omega) (by omega) dX2_doUnit_124 rfl (fun h_124 => ?_) (fun h_124 => ?_)
                  · refine V_aload_n (i := 0) dX2_doUnit_133 rfl rfl ?_
                    refine V_iload_n (i := 1) dX2_doUnit_134 rfl rfl ?_
                    refine V_iload (i := 6) dX2_doUnit_135 rfl ?_
                    refine V_iload (i := 5) dX2_doUnit_137 rfl ?_
                    refine V_callV (C := RX2) (q := 0) (ci := 2) (As := _) (rest := []) [0, 2, 5, 6] (c_X2_isForbidden l G a own s q h (q 8 + (q 10 - 1 - q 6)) (q 9 + (q 10 - 1 - q 6)) hh (by omega) (by omega) (fun k hk => by have := ho k hk; omega) (by omega)) vy_X2_isForbidden gX2_doUnit_X2_isForbidden rfl rfl rfl rfl rfl rfl rfl ⟨rfl, rfl⟩ ⟨rfl, rfl⟩ ⟨Nat.zero_le _, Nat.zero_le _⟩ rfl dX2_doUnit_139 (fun v Y hE => ?_)
                    obtain ⟨rfl, rfl⟩ := hE
                    refine ⟨rfl, ?_⟩
                    dsimp only [vfill, List.set_cons_zero, List.set_cons_succ, Option.toList, List.cons_append, List.nil_append, Nat.add_zero]
                    have hfb := forb_01 own h (q 7) (q 8 + (q 10 - 1 - q 6)) (q 9 + (q 10 - 1 - q 6))
                    refine V_if_eq (tgt := 151) (by omega) dX2_doUnit_142 rfl (fun h_142 => ?_) (fun h_142 => ?_)
                    · refine V_aload_n (i := 0) dX2_doUnit_151 rfl rfl ?_
                      refine V_iload_n (i := 1) dX2_doUnit_152 rfl rfl ?_
                      refine V_iload (i := 6) dX2_doUnit_153 rfl ?_
                      refine V_iload (i := 5) dX2_doUnit_155 rfl ?_
                      refine V_callV (C := RX2) (q := 0) (ci := 2) (As := _) (rest := []) [0, 1, 2, 3, 4, 5, 6, 7] (c_X2_writeUnit l G a own mark val lw bits s q h (q 8 + (q 10 - 1 - q 6)) (q 9 + (q 10 - 1 - q 6)) hh (by omega) (by omega) (fun k hk => by have := hm k hk; omega) hs (by omega) (by omega) hv) vy_X2_writeUnit gX2_doUnit_X2_writeUnit rfl rfl rfl rfl rfl rfl rfl ⟨rfl, rfl⟩ ⟨rfl, rfl⟩ ⟨Nat.zero_le _, Nat.zero_le _⟩ rfl dX2_doUnit_157 (fun v Y hE => ?_)
                      obtain ⟨rfl, rfl⟩ := hE
                      refine ⟨rfl, ?_⟩
                      dsimp only [vfill, eW, List.set_cons_zero, List.set_cons_succ, Option.toList, List.cons_append, List.nil_append, Nat.add_zero]
                      refine V_aload_n (i := 2) dX2_doUnit_160 rfl rfl ?_
                      refine V_dup dX2_doUnit_161 rfl ?_
                      refine V_get (C := RX1) (T := TX1) (N := 13) (ci := 1) (q := 6) (ref := "OrderChains$Channel") 6 rfl il_X2_doUnit_X1 rfl rfl fl_X2_doUnit_127 rfl rfl dX2_doUnit_162 ?_
                      refine V_iconst (v := 1) dX2_doUnit_165 rfl ?_
                      refine V_iadd dX2_doUnit_166 ?_
                      refine V_put (C := RX1) (T := TX1) (N := 13) (ci := 1) (q := 6) (ref := "OrderChains$Channel") (ty := .int) (ty0 := tyX1) 6 rfl il_X2_doUnit_X1 tyX1_ok nmX1 rfl rfl fl_X2_doUnit_127 rfl rfl rfl rfl rfl rfl dX2_doUnit_167 ?_
                      dsimp only [List.set_cons_zero, List.set_cons_succ]
                      refine V_aload_n (i := 2) dX2_doUnit_170 rfl rfl ?_
                      refine V_get (C := RX1) (T := TX1) (N := 13) (ci := 1) (q := 6) (ref := "OrderChains$Channel") 6 rfl il_X2_doUnit_X1 rfl rfl fl_X2_doUnit_127 rfl rfl dX2_doUnit_171 ?_
                      refine V_aload_n (i := 2) dX2_doUnit_174 rfl rfl ?_
                      refine V_get (C := RX1) (T := TX1) (N := 13) (ci := 1) (q := 6) (ref := "OrderChains$Channel") 10 rfl il_X2_doUnit_X1 rfl rfl fl_X2_doUnit_115 rfl rfl dX2_doUnit_175 ?_
                      refine V_icmp_lt (tgt := 189) (by rw [wuC_q _ _ _ _ _ _ (by decide)]; show q 6 + 1 < _; omega) (by rw [wuC_q _ _ _ _ _ _ (by decide)]; show q 10 < _; omega) dX2_doUnit_178 rfl (fun h_178 => ?_) (fun h_178 => ?_)
                      · refine V_vret hR dX2_doUnit_189 hkc hks ?_
                        refine ⟨rfl, ?_⟩
                        have hf0 : ¬ forb own h (q 7) (q 8 + (q 10 - 1 - q 6)) (q 9 + (q 10 - 1 - q 6)) = 1 := by omega
                        rw [show duC own mark h (val, lw, bits, s, q) = sQ qNext (wuC mark h (q 8 + (q 10 - 1 - q 6)) (q 9 + (q 10 - 1 - q 6)) (val, lw, bits, s, q)) by
                            unfold duC unC
                            dsimp only
                            rw [if_neg (show ¬ q 7 = 6 by omega), hS, hT, if_neg (show ¬ (96 ≤ q 8 + (q 10 - 1 - q 6) ∨ 96 ≤ q 9 + (q 10 - 1 - q 6)) by omega), if_neg hf0]]
                        unfold sQ qNext
                        first | (rw [if_pos h_178]; rfl) | (rw [if_neg h_178]; rfl)
                      · refine V_aload_n (i := 2) dX2_doUnit_181 rfl rfl ?_
                        refine V_aload_n (i := 2) dX2_doUnit_182 rfl rfl ?_
                        refine V_get (C := RX1) (T := TX1) (N := 13) (ci := 1) (q := 6) (ref := "OrderChains$Channel") 12 rfl il_X2_doUnit_X1 rfl rfl fl_X2_doUnit_118 rfl rfl dX2_doUnit_183 ?_
                        refine V_callV (C := RX1) (q := 0) (ci := 1) (As := _) (rest := []) [6] (c_X1_goOnAt l G (a (6 + h)) ((wuC mark h (q 8 + (q 10 - 1 - q 6)) (q 9 + (q 10 - 1 - q 6)) (val, lw, bits, s, q)).2.2.2.2 12) (va_up (wuC mark h (q 8 + (q 10 - 1 - q 6)) (q 9 + (q 10 - 1 - q 6)) (val, lw, bits, s, q)).2.2.2.2 6 ((wuC mark h (q 8 + (q 10 - 1 - q 6)) (q 9 + (q 10 - 1 - q 6)) (val, lw, bits, s, q)).2.2.2.2 6 + 1))) vy_X1_goOnAt gX2_doUnit_X1_goOnAt rfl rfl rfl rfl rfl rfl rfl ⟨rfl, rfl⟩ ⟨rfl, rfl⟩ ⟨Nat.zero_le _, Nat.zero_le _⟩ rfl dX2_doUnit_186 (fun v Y hE => ?_)
                        obtain ⟨rfl, rfl⟩ := hE
                        refine ⟨rfl, ?_⟩
                        dsimp only [vfill, List.set_cons_zero, List.set_cons_succ, Option.toList, List.cons_append, List.nil_append, Nat.add_zero]
                        refine V_vret hR dX2_doUnit_189 hkc hks ?_
                        refine ⟨rfl, ?_⟩
                        have hf0 : ¬ forb own h (q 7) (q 8 + (q 10 - 1 - q 6)) (q 9 + (q 10 - 1 - q 6)) = 1 := by omega
                        rw [show duC own mark h (val, lw, bits, s, q) = sQ qNext (wuC mark h (q 8 + (q 10 - 1 - q 6)) (q 9 + (q 10 - 1 - q 6)) (val, lw, bits, s, q)) by
                            unfold duC unC
                            dsimp only
                            rw [if_neg (show ¬ q 7 = 6 by omega), hS, hT, if_neg (show ¬ (96 ≤ q 8 + (q 10 - 1 - q 6) ∨ 96 ≤ q 9 + (q 10 - 1 - q 6)) by omega), if_neg hf0]]
                        unfold sQ qNext
                        first | (rw [if_pos h_178]; rfl) | (rw [if_neg h_178]; rfl)
                    · refine V_aload_n (i := 2) dX2_doUnit_145 rfl rfl ?_
                      refine V_iconst (v := 4) dX2_doUnit_146 rfl ?_
                      refine V_callV (C := RX1) (q := 0) (ci := 1) (As := _) (rest := []) [6] (c_X1_fail l G (a (6 + h)) 4 q) vy_X1_fail gX2_doUnit_X1_fail rfl rfl rfl rfl rfl rfl rfl ⟨rfl, rfl⟩ ⟨rfl, rfl⟩ ⟨Nat.zero_le _, Nat.zero_le _⟩ rfl dX2_doUnit_147 (fun v Y hE => ?_)
                      obtain ⟨rfl, rfl⟩ := hE
                      refine ⟨rfl, ?_⟩
                      dsimp only [vfill, List.set_cons_zero, List.set_cons_succ, Option.toList, List.cons_append, List.nil_append, Nat.add_zero]
                      refine V_vret hR dX2_doUnit_150 hkc hks ?_
                      refine ⟨rfl, ?_⟩
                      have hf1 : forb own h (q 7) (q 8 + (q 10 - 1 - q 6)) (q 9 + (q 10 - 1 - q 6)) = 1 := by omega
                      rw [show duC own mark h (val, lw, bits, s, q) = sQ (qFail 4) (val, lw, bits, s, q) by
                          unfold duC unC
                          dsimp only
                          rw [if_neg (show ¬ q 7 = 6 by omega), hS, hT, if_neg (show ¬ (96 ≤ q 8 + (q 10 - 1 - q 6) ∨ 96 ≤ q 9 + (q 10 - 1 - q 6)) by omega), if_pos hf1]]
                      rfl
                  · refine V_aload_n (i := 2) dX2_doUnit_127 rfl rfl ?_
                    refine V_iconst (v := 3) dX2_doUnit_128 rfl ?_
                    refine V_callV (C := RX1) (q := 0) (ci := 1) (As := _) (rest := []) [6] (c_X1_fail l G (a (6 + h)) 3 q) vy_X1_fail gX2_doUnit_X1_fail rfl rfl rfl rfl rfl rfl rfl ⟨rfl, rfl⟩ ⟨rfl, rfl⟩ ⟨Nat.zero_le _, Nat.zero_le _⟩ rfl dX2_doUnit_129 (fun v Y hE => ?_)
                    obtain ⟨rfl, rfl⟩ := hE
                    refine ⟨rfl, ?_⟩
                    dsimp only [vfill, List.set_cons_zero, List.set_cons_succ, Option.toList, List.cons_append, List.nil_append, Nat.add_zero]
                    refine V_vret hR dX2_doUnit_132 hkc hks ?_
                    refine ⟨rfl, ?_⟩
                    rw [show duC own mark h (val, lw, bits, s, q) = sQ (qFail 3) (val, lw, bits, s, q) by
                        unfold duC unC
                        dsimp only
                        rw [if_neg (show ¬ q 7 = 6 by omega), hS, hT, if_pos (show 96 ≤ q 8 + (q 10 - 1 - q 6) ∨ 96 ≤ q 9 + (q 10 - 1 - q 6) by omega)]]
                    rfl
              · exfalso; omega
            · exfalso; omega
        · exfalso; omega
    · exfalso; omega
  · have hmu : q 6 * q 11 ≤ 9801 := Nat.mul_le_mul (show q 6 ≤ 99 by omega) (show q 11 ≤ 99 by omega)
    have hS : dSr q = q 9 + q 6 * q 11 := by simp [dSr, dTg, dI, e7]
    have hT : dTg q = q 9 + q 6 * q 11 := by simp [dTg, dI, e7]
    refine V_aload_n (i := 0) dX2_doUnit_0 rfl rfl ?_
    refine V_get (C := RX2) (T := TX2) (N := 11) (ci := 2) (q := 0) (ref := "OrderChains$Engine") 4 rfl il_X2_doUnit_X2 rfl rfl fl_X2_doUnit_26 rfl rfl dX2_doUnit_1 ?_
    refine V_iload_n (i := 1) dX2_doUnit_4 rfl rfl ?_
    refine V_aaldC (q := 5) rfl (by omega) rfl dX2_doUnit_5 ?_
    refine V_astore_n (i := 2) dX2_doUnit_6 rfl rfl rfl ?_
    dsimp only [List.set_cons_zero, List.set_cons_succ]
    refine V_aload_n (i := 2) dX2_doUnit_7 rfl rfl ?_
    refine V_get (C := RX1) (T := TX1) (N := 13) (ci := 1) (q := 6) (ref := "OrderChains$Channel") 7 rfl il_X2_doUnit_X1 rfl rfl fl_X2_doUnit_109 rfl rfl dX2_doUnit_8 ?_
    refine V_top (b := 3) (by omega) ?_
    refine V_bipush (v := 6) dX2_doUnit_11 (by decide) ?_
    refine V_icmp_ne (tgt := 22) (by omega) (by omega) dX2_doUnit_13 rfl (fun h_13 => ?_) (fun h_13 => ?_)
    · refine V_aload_n (i := 2) dX2_doUnit_22 rfl rfl ?_
      refine V_get (C := RX1) (T := TX1) (N := 13) (ci := 1) (q := 6) (ref := "OrderChains$Channel") 7 rfl il_X2_doUnit_X1 rfl rfl fl_X2_doUnit_109 rfl rfl dX2_doUnit_23 ?_
      refine V_top (b := 3) (by omega) ?_
      refine V_iconst (v := 3) dX2_doUnit_26 rfl ?_
      refine V_icmp_eq (tgt := 38) (by omega) (by omega) dX2_doUnit_27 rfl (fun h_27 => ?_) (fun h_27 => ?_)
      · refine V_iconst (v := 1) dX2_doUnit_38 rfl ?_
        refine V_goto (tgt := 43) dX2_doUnit_39 rfl ?_
        refine V_istore_n (i := 3) dX2_doUnit_43 rfl rfl rfl ?_
        dsimp only [List.set_cons_zero, List.set_cons_succ]
        refine V_aload_n (i := 2) dX2_doUnit_44 rfl rfl ?_
        refine V_get (C := RX1) (T := TX1) (N := 13) (ci := 1) (q := 6) (ref := "OrderChains$Channel") 7 rfl il_X2_doUnit_X1 rfl rfl fl_X2_doUnit_109 rfl rfl dX2_doUnit_45 ?_
        refine V_top (b := 3) (by omega) ?_
        refine V_iconst (v := 2) dX2_doUnit_48 rfl ?_
        refine V_icmp_ne (tgt := 66) (by omega) (by omega) dX2_doUnit_49 rfl (fun h_49 => ?_) (fun h_49 => ?_)
        · refine V_aload_n (i := 2) dX2_doUnit_66 rfl rfl ?_
          refine V_get (C := RX1) (T := TX1) (N := 13) (ci := 1) (q := 6) (ref := "OrderChains$Channel") 6 rfl il_X2_doUnit_X1 rfl rfl fl_X2_doUnit_127 rfl rfl dX2_doUnit_67 ?_
          refine V_istore (i := 4) dX2_doUnit_70 rfl rfl ?_
          dsimp only [List.set_cons_zero, List.set_cons_succ]
          refine V_aload_n (i := 2) dX2_doUnit_72 rfl rfl ?_
          refine V_get (C := RX1) (T := TX1) (N := 13) (ci := 1) (q := 6) (ref := "OrderChains$Channel") 9 rfl il_X2_doUnit_X1 rfl rfl fl_X2_doUnit_130 rfl rfl dX2_doUnit_73 ?_
          refine V_iload_n (i := 3) dX2_doUnit_76 rfl rfl ?_
          refine V_if_eq (tgt := 90) (by omega) dX2_doUnit_77 rfl (fun h_77 => ?_) (fun h_77 => ?_)
          · exfalso; omega
          · refine V_iload (i := 4) dX2_doUnit_80 rfl ?_
            refine V_aload_n (i := 2) dX2_doUnit_82 rfl rfl ?_
            refine V_get (C := RX1) (T := TX1) (N := 13) (ci := 1) (q := 6) (ref := "OrderChains$Channel") 11 rfl il_X2_doUnit_X1 rfl rfl fl_X2_doUnit_133 rfl rfl dX2_doUnit_83 ?_
            refine V_imul dX2_doUnit_86 ?_
            refine V_goto (tgt := 92) dX2_doUnit_87 rfl ?_
            refine V_iadd dX2_doUnit_92 ?_
            refine V_istore (i := 5) dX2_doUnit_93 rfl rfl ?_
            dsimp only [List.set_cons_zero, List.set_cons_succ]
            refine V_iload_n (i := 3) dX2_doUnit_95 rfl rfl ?_
            refine V_if_eq (tgt := 104) (by omega) dX2_doUnit_96 rfl (fun h_96 => ?_) (fun h_96 => ?_)
            · exfalso; omega
            · refine V_iload (i := 5) dX2_doUnit_99 rfl ?_
              refine V_goto (tgt := 111) dX2_doUnit_101 rfl ?_
              refine V_istore (i := 6) dX2_doUnit_111 rfl rfl ?_
              dsimp only [List.set_cons_zero, List.set_cons_succ]
              refine V_iload (i := 6) dX2_doUnit_113 rfl ?_
              refine V_bipush (v := 96) dX2_doUnit_115 (by decide) ?_
              refine V_icmp_ge (tgt := 127) (by omega) (by omega) dX2_doUnit_117 rfl (fun h_117 => ?_) (fun h_117 => ?_)
              · refine V_aload_n (i := 2) dX2_doUnit_127 rfl rfl ?_
                refine V_iconst (v := 3) dX2_doUnit_128 rfl ?_
                refine V_callV (C := RX1) (q := 0) (ci := 1) (As := _) (rest := []) [6] (c_X1_fail l G (a (6 + h)) 3 q) vy_X1_fail gX2_doUnit_X1_fail rfl rfl rfl rfl rfl rfl rfl ⟨rfl, rfl⟩ ⟨rfl, rfl⟩ ⟨Nat.zero_le _, Nat.zero_le _⟩ rfl dX2_doUnit_129 (fun v Y hE => ?_)
                obtain ⟨rfl, rfl⟩ := hE
                refine ⟨rfl, ?_⟩
                dsimp only [vfill, List.set_cons_zero, List.set_cons_succ, Option.toList, List.cons_append, List.nil_append, Nat.add_zero]
                refine V_vret hR dX2_doUnit_132 hkc hks ?_
                refine ⟨rfl, ?_⟩
                rw [show duC own mark h (val, lw, bits, s, q) = sQ (qFail 3) (val, lw, bits, s, q) by
                    unfold duC unC
                    dsimp only
                    rw [if_neg (show ¬ q 7 = 6 by omega), hS, hT, if_pos (show 96 ≤ q 9 + q 6 * q 11 ∨ 96 ≤ q 9 + q 6 * q 11 by omega)]]
                rfl
              · refine V_iload (i := 5) dX2_doUnit_120 rfl ?_
                refine V_bipush (v := 96) dX2_doUnit_122 (by decide) ?_
                refine V_icmp_lt (tgt := 133) (by omega) (by omega) dX2_doUnit_124 rfl (fun h_124 => ?_) (fun h_124 => ?_)
                · refine V_aload_n (i := 0) dX2_doUnit_133 rfl rfl ?_
                  refine V_iload_n (i := 1) dX2_doUnit_134 rfl rfl ?_
                  refine V_iload (i := 6) dX2_doUnit_135 rfl ?_
                  refine V_iload (i := 5) dX2_doUnit_137 rfl ?_
                  refine V_callV (C := RX2) (q := 0) (ci := 2) (As := _) (rest := []) [0, 2, 5, 6] (c_X2_isForbidden l G a own s q h (q 9 + q 6 * q 11) (q 9 + q 6 * q 11) hh (by omega) (by omega) (fun k hk => by have := ho k hk; omega) (by omega)) vy_X2_isForbidden gX2_doUnit_X2_isForbidden rfl rfl rfl rfl rfl rfl rfl ⟨rfl, rfl⟩ ⟨rfl, rfl⟩ ⟨Nat.zero_le _, Nat.zero_le _⟩ rfl dX2_doUnit_139 (fun v Y hE => ?_)
                  obtain ⟨rfl, rfl⟩ := hE
                  refine ⟨rfl, ?_⟩
                  dsimp only [vfill, List.set_cons_zero, List.set_cons_succ, Option.toList, List.cons_append, List.nil_append, Nat.add_zero]
                  have hfb := forb_01 own h (q 7) (q 9 + q 6 * q 11) (q 9 + q 6 * q 11)
                  refine V_if_eq (tgt := 151) (by omega) dX2_doUnit_142 rfl (fun h_142 => ?_) (fun h_142 => ?_)
                  · refine V_aload_n (i := 0) dX2_doUnit_151 rfl rfl ?_
                    refine V_iload_n (i := 1) dX2_doUnit_152 rfl rfl ?_
                    refine V_iload (i := 6) dX2_doUnit_153 rfl ?_
                    refine V_iload (i := 5) dX2_doUnit_155 rfl ?_
                    refine V_callV (C := RX2) (q := 0) (ci := 2) (As := _) (rest := []) [0, 1, 2, 3, 4, 5, 6, 7] (c_X2_writeUnit l G a own mark val lw bits s q h (q 9 + q 6 * q 11) (q 9 + q 6 * q 11) hh (by omega) (by omega) (fun k hk => by have := hm k hk; omega) hs (by omega) (by omega) hv) vy_X2_writeUnit gX2_doUnit_X2_writeUnit rfl rfl rfl rfl rfl rfl rfl ⟨rfl, rfl⟩ ⟨rfl, rfl⟩ ⟨Nat.zero_le _, Nat.zero_le _⟩ rfl dX2_doUnit_157 (fun v Y hE => ?_)
                    obtain ⟨rfl, rfl⟩ := hE
                    refine ⟨rfl, ?_⟩
                    dsimp only [vfill, eW, List.set_cons_zero, List.set_cons_succ, Option.toList, List.cons_append, List.nil_append, Nat.add_zero]
                    refine V_aload_n (i := 2) dX2_doUnit_160 rfl rfl ?_
                    refine V_dup dX2_doUnit_161 rfl ?_
                    refine V_get (C := RX1) (T := TX1) (N := 13) (ci := 1) (q := 6) (ref := "OrderChains$Channel") 6 rfl il_X2_doUnit_X1 rfl rfl fl_X2_doUnit_127 rfl rfl dX2_doUnit_162 ?_
                    refine V_iconst (v := 1) dX2_doUnit_165 rfl ?_
                    refine V_iadd dX2_doUnit_166 ?_
                    refine V_put (C := RX1) (T := TX1) (N := 13) (ci := 1) (q := 6) (ref := "OrderChains$Channel") (ty := .int) (ty0 := tyX1) 6 rfl il_X2_doUnit_X1 tyX1_ok nmX1 rfl rfl fl_X2_doUnit_127 rfl rfl rfl rfl rfl rfl dX2_doUnit_167 ?_
                    dsimp only [List.set_cons_zero, List.set_cons_succ]
                    refine V_aload_n (i := 2) dX2_doUnit_170 rfl rfl ?_
                    refine V_get (C := RX1) (T := TX1) (N := 13) (ci := 1) (q := 6) (ref := "OrderChains$Channel") 6 rfl il_X2_doUnit_X1 rfl rfl fl_X2_doUnit_127 rfl rfl dX2_doUnit_171 ?_
                    refine V_aload_n (i := 2) dX2_doUnit_174 rfl rfl ?_
                    refine V_get (C := RX1) (T := TX1) (N := 13) (ci := 1) (q := 6) (ref := "OrderChains$Channel") 10 rfl il_X2_doUnit_X1 rfl rfl fl_X2_doUnit_115 rfl rfl dX2_doUnit_175 ?_
                    refine V_icmp_lt (tgt := 189) (by rw [wuC_q _ _ _ _ _ _ (by decide)]; show q 6 + 1 < _; omega) (by rw [wuC_q _ _ _ _ _ _ (by decide)]; show q 10 < _; omega) dX2_doUnit_178 rfl (fun h_178 => ?_) (fun h_178 => ?_)
                    · refine V_vret hR dX2_doUnit_189 hkc hks ?_
                      refine ⟨rfl, ?_⟩
                      have hf0 : ¬ forb own h (q 7) (q 9 + q 6 * q 11) (q 9 + q 6 * q 11) = 1 := by omega
                      rw [show duC own mark h (val, lw, bits, s, q) = sQ qNext (wuC mark h (q 9 + q 6 * q 11) (q 9 + q 6 * q 11) (val, lw, bits, s, q)) by
                          unfold duC unC
                          dsimp only
                          rw [if_neg (show ¬ q 7 = 6 by omega), hS, hT, if_neg (show ¬ (96 ≤ q 9 + q 6 * q 11 ∨ 96 ≤ q 9 + q 6 * q 11) by omega), if_neg hf0]]
                      unfold sQ qNext
                      first | (rw [if_pos h_178]; rfl) | (rw [if_neg h_178]; rfl)
                    · refine V_aload_n (i := 2) dX2_doUnit_181 rfl rfl ?_
                      refine V_aload_n (i := 2) dX2_doUnit_182 rfl rfl ?_
                      refine V_get (C := RX1) (T := TX1) (N := 13) (ci := 1) (q := 6) (ref := "OrderChains$Channel") 12 rfl il_X2_doUnit_X1 rfl rfl fl_X2_doUnit_118 rfl rfl dX2_doUnit_183 ?_
                      refine V_callV (C := RX1) (q := 0) (ci := 1) (As := _) (rest := []) [6] (c_X1_goOnAt l G (a (6 + h)) ((wuC mark h (q 9 + q 6 * q 11) (q 9 + q 6 * q 11) (val, lw, bits, s, q)).2.2.2.2 12) (va_up (wuC mark h (q 9 + q 6 * q 11) (q 9 + q 6 * q 11) (val, lw, bits, s, q)).2.2.2.2 6 ((wuC mark h (q 9 + q 6 * q 11) (q 9 + q 6 * q 11) (val, lw, bits, s, q)).2.2.2.2 6 + 1))) vy_X1_goOnAt gX2_doUnit_X1_goOnAt rfl rfl rfl rfl rfl rfl rfl ⟨rfl, rfl⟩ ⟨rfl, rfl⟩ ⟨Nat.zero_le _, Nat.zero_le _⟩ rfl dX2_doUnit_186 (fun v Y hE => ?_)
                      obtain ⟨rfl, rfl⟩ := hE
                      refine ⟨rfl, ?_⟩
                      dsimp only [vfill, List.set_cons_zero, List.set_cons_succ, Option.toList, List.cons_append, List.nil_append, Nat.add_zero]
                      refine V_vret hR dX2_doUnit_189 hkc hks ?_
                      refine ⟨rfl, ?_⟩
                      have hf0 : ¬ forb own h (q 7) (q 9 + q 6 * q 11) (q 9 + q 6 * q 11) = 1 := by omega
                      rw [show duC own mark h (val, lw, bits, s, q) = sQ qNext (wuC mark h (q 9 + q 6 * q 11) (q 9 + q 6 * q 11) (val, lw, bits, s, q)) by
                          unfold duC unC
                          dsimp only
                          rw [if_neg (show ¬ q 7 = 6 by omega), hS, hT, if_neg (show ¬ (96 ≤ q 9 + q 6 * q 11 ∨ 96 ≤ q 9 + q 6 * q 11) by omega), if_neg hf0]]
                      unfold sQ qNext
                      first | (rw [if_pos h_178]; rfl) | (rw [if_neg h_178]; rfl)
                  · refine V_aload_n (i := 2) dX2_doUnit_145 rfl rfl ?_
                    refine V_iconst (v := 4) dX2_doUnit_146 rfl ?_
                    refine V_callV (C := RX1) (q := 0) (ci := 1) (As := _) (rest := []) [6] (c_X1_fail l G (a (6 + h)) 4 q) vy_X1_fail gX2_doUnit_X1_fail rfl rfl rfl rfl rfl rfl rfl ⟨rfl, rfl⟩ ⟨rfl, rfl⟩ ⟨Nat.zero_le _, Nat.zero_le _⟩ rfl dX2_doUnit_147 (fun v Y hE => ?_)
                    obtain ⟨rfl, rfl⟩ := hE
                    refine ⟨rfl, ?_⟩
                    dsimp only [vfill, List.set_cons_zero, List.set_cons_succ, Option.toList, List.cons_append, List.nil_append, Nat.add_zero]
                    refine V_vret hR dX2_doUnit_150 hkc hks ?_
                    refine ⟨rfl, ?_⟩
                    have hf1 : forb own h (q 7) (q 9 + q 6 * q 11) (q 9 + q 6 * q 11) = 1 := by omega
                    rw [show duC own mark h (val, lw, bits, s, q) = sQ (qFail 4) (val, lw, bits, s, q) by
                        unfold duC unC
                        dsimp only
                        rw [if_neg (show ¬ q 7 = 6 by omega), hS, hT, if_neg (show ¬ (96 ≤ q 9 + q 6 * q 11 ∨ 96 ≤ q 9 + q 6 * q 11) by omega), if_pos hf1]]
                    rfl
                · refine V_aload_n (i := 2) dX2_doUnit_127 rfl rfl ?_
                  refine V_iconst (v := 3) dX2_doUnit_128 rfl ?_
                  refine V_callV (C := RX1) (q := 0) (ci := 1) (As := _) (rest := []) [6] (c_X1_fail l G (a (6 + h)) 3 q) vy_X1_fail gX2_doUnit_X1_fail rfl rfl rfl rfl rfl rfl rfl ⟨rfl, rfl⟩ ⟨rfl, rfl⟩ ⟨Nat.zero_le _, Nat.zero_le _⟩ rfl dX2_doUnit_129 (fun v Y hE => ?_)
                  obtain ⟨rfl, rfl⟩ := hE
                  refine ⟨rfl, ?_⟩
                  dsimp only [vfill, List.set_cons_zero, List.set_cons_succ, Option.toList, List.cons_append, List.nil_append, Nat.add_zero]
                  refine V_vret hR dX2_doUnit_132 hkc hks ?_
                  refine ⟨rfl, ?_⟩
                  rw [show duC own mark h (val, lw, bits, s, q) = sQ (qFail 3) (val, lw, bits, s, q) by
                      unfold duC unC
                      dsimp only
                      rw [if_neg (show ¬ q 7 = 6 by omega), hS, hT, if_pos (show 96 ≤ q 9 + q 6 * q 11 ∨ 96 ≤ q 9 + q 6 * q 11 by omega)]]
                  rfl
        · exfalso; omega
      · exfalso; omega
    · exfalso; omega
  · have hmu : q 6 * q 11 ≤ 9801 := Nat.mul_le_mul (show q 6 ≤ 99 by omega) (show q 11 ≤ 99 by omega)
    have hS : dSr q = q 9 + q 6 * q 11 := by simp [dSr, dTg, dI, e7]
    have hT : dTg q = q 9 + q 6 * q 11 := by simp [dTg, dI, e7]
    refine V_aload_n (i := 0) dX2_doUnit_0 rfl rfl ?_
    refine V_get (C := RX2) (T := TX2) (N := 11) (ci := 2) (q := 0) (ref := "OrderChains$Engine") 4 rfl il_X2_doUnit_X2 rfl rfl fl_X2_doUnit_26 rfl rfl dX2_doUnit_1 ?_
    refine V_iload_n (i := 1) dX2_doUnit_4 rfl rfl ?_
    refine V_aaldC (q := 5) rfl (by omega) rfl dX2_doUnit_5 ?_
    refine V_astore_n (i := 2) dX2_doUnit_6 rfl rfl rfl ?_
    dsimp only [List.set_cons_zero, List.set_cons_succ]
    refine V_aload_n (i := 2) dX2_doUnit_7 rfl rfl ?_
    refine V_get (C := RX1) (T := TX1) (N := 13) (ci := 1) (q := 6) (ref := "OrderChains$Channel") 7 rfl il_X2_doUnit_X1 rfl rfl fl_X2_doUnit_109 rfl rfl dX2_doUnit_8 ?_
    refine V_top (b := 4) (by omega) ?_
    refine V_bipush (v := 6) dX2_doUnit_11 (by decide) ?_
    refine V_icmp_ne (tgt := 22) (by omega) (by omega) dX2_doUnit_13 rfl (fun h_13 => ?_) (fun h_13 => ?_)
    · refine V_aload_n (i := 2) dX2_doUnit_22 rfl rfl ?_
      refine V_get (C := RX1) (T := TX1) (N := 13) (ci := 1) (q := 6) (ref := "OrderChains$Channel") 7 rfl il_X2_doUnit_X1 rfl rfl fl_X2_doUnit_109 rfl rfl dX2_doUnit_23 ?_
      refine V_top (b := 4) (by omega) ?_
      refine V_iconst (v := 3) dX2_doUnit_26 rfl ?_
      refine V_icmp_eq (tgt := 38) (by omega) (by omega) dX2_doUnit_27 rfl (fun h_27 => ?_) (fun h_27 => ?_)
      · exfalso; omega
      · refine V_aload_n (i := 2) dX2_doUnit_30 rfl rfl ?_
        refine V_get (C := RX1) (T := TX1) (N := 13) (ci := 1) (q := 6) (ref := "OrderChains$Channel") 7 rfl il_X2_doUnit_X1 rfl rfl fl_X2_doUnit_109 rfl rfl dX2_doUnit_31 ?_
        refine V_top (b := 4) (by omega) ?_
        refine V_iconst (v := 4) dX2_doUnit_34 rfl ?_
        refine V_icmp_ne (tgt := 42) (by omega) (by omega) dX2_doUnit_35 rfl (fun h_35 => ?_) (fun h_35 => ?_)
        · exfalso; omega
        · refine V_iconst (v := 1) dX2_doUnit_38 rfl ?_
          refine V_goto (tgt := 43) dX2_doUnit_39 rfl ?_
          refine V_istore_n (i := 3) dX2_doUnit_43 rfl rfl rfl ?_
          dsimp only [List.set_cons_zero, List.set_cons_succ]
          refine V_aload_n (i := 2) dX2_doUnit_44 rfl rfl ?_
          refine V_get (C := RX1) (T := TX1) (N := 13) (ci := 1) (q := 6) (ref := "OrderChains$Channel") 7 rfl il_X2_doUnit_X1 rfl rfl fl_X2_doUnit_109 rfl rfl dX2_doUnit_45 ?_
          refine V_top (b := 4) (by omega) ?_
          refine V_iconst (v := 2) dX2_doUnit_48 rfl ?_
          refine V_icmp_ne (tgt := 66) (by omega) (by omega) dX2_doUnit_49 rfl (fun h_49 => ?_) (fun h_49 => ?_)
          · refine V_aload_n (i := 2) dX2_doUnit_66 rfl rfl ?_
            refine V_get (C := RX1) (T := TX1) (N := 13) (ci := 1) (q := 6) (ref := "OrderChains$Channel") 6 rfl il_X2_doUnit_X1 rfl rfl fl_X2_doUnit_127 rfl rfl dX2_doUnit_67 ?_
            refine V_istore (i := 4) dX2_doUnit_70 rfl rfl ?_
            dsimp only [List.set_cons_zero, List.set_cons_succ]
            refine V_aload_n (i := 2) dX2_doUnit_72 rfl rfl ?_
            refine V_get (C := RX1) (T := TX1) (N := 13) (ci := 1) (q := 6) (ref := "OrderChains$Channel") 9 rfl il_X2_doUnit_X1 rfl rfl fl_X2_doUnit_130 rfl rfl dX2_doUnit_73 ?_
            refine V_iload_n (i := 3) dX2_doUnit_76 rfl rfl ?_
            refine V_if_eq (tgt := 90) (by omega) dX2_doUnit_77 rfl (fun h_77 => ?_) (fun h_77 => ?_)
            · exfalso; omega
            · refine V_iload (i := 4) dX2_doUnit_80 rfl ?_
              refine V_aload_n (i := 2) dX2_doUnit_82 rfl rfl ?_
              refine V_get (C := RX1) (T := TX1) (N := 13) (ci := 1) (q := 6) (ref := "OrderChains$Channel") 11 rfl il_X2_doUnit_X1 rfl rfl fl_X2_doUnit_133 rfl rfl dX2_doUnit_83 ?_
              refine V_imul dX2_doUnit_86 ?_
              refine V_goto (tgt := 92) dX2_doUnit_87 rfl ?_
              refine V_iadd dX2_doUnit_92 ?_
              refine V_istore (i := 5) dX2_doUnit_93 rfl rfl ?_
              dsimp only [List.set_cons_zero, List.set_cons_succ]
              refine V_iload_n (i := 3) dX2_doUnit_95 rfl rfl ?_
              refine V_if_eq (tgt := 104) (by omega) dX2_doUnit_96 rfl (fun h_96 => ?_) (fun h_96 => ?_)
              · exfalso; omega
              · refine V_iload (i := 5) dX2_doUnit_99 rfl ?_
                refine V_goto (tgt := 111) dX2_doUnit_101 rfl ?_
                refine V_istore (i := 6) dX2_doUnit_111 rfl rfl ?_
                dsimp only [List.set_cons_zero, List.set_cons_succ]
                refine V_iload (i := 6) dX2_doUnit_113 rfl ?_
                refine V_bipush (v := 96) dX2_doUnit_115 (by decide) ?_
                refine V_icmp_ge (tgt := 127) (by omega) (by omega) dX2_doUnit_117 rfl (fun h_117 => ?_) (fun h_117 => ?_)
                · refine V_aload_n (i := 2) dX2_doUnit_127 rfl rfl ?_
                  refine V_iconst (v := 3) dX2_doUnit_128 rfl ?_
                  refine V_callV (C := RX1) (q := 0) (ci := 1) (As := _) (rest := []) [6] (c_X1_fail l G (a (6 + h)) 3 q) vy_X1_fail gX2_doUnit_X1_fail rfl rfl rfl rfl rfl rfl rfl ⟨rfl, rfl⟩ ⟨rfl, rfl⟩ ⟨Nat.zero_le _, Nat.zero_le _⟩ rfl dX2_doUnit_129 (fun v Y hE => ?_)
                  obtain ⟨rfl, rfl⟩ := hE
                  refine ⟨rfl, ?_⟩
                  dsimp only [vfill, List.set_cons_zero, List.set_cons_succ, Option.toList, List.cons_append, List.nil_append, Nat.add_zero]
                  refine V_vret hR dX2_doUnit_132 hkc hks ?_
                  refine ⟨rfl, ?_⟩
                  rw [show duC own mark h (val, lw, bits, s, q) = sQ (qFail 3) (val, lw, bits, s, q) by
                      unfold duC unC
                      dsimp only
                      rw [if_neg (show ¬ q 7 = 6 by omega), hS, hT, if_pos (show 96 ≤ q 9 + q 6 * q 11 ∨ 96 ≤ q 9 + q 6 * q 11 by omega)]]
                  rfl
                · refine V_iload (i := 5) dX2_doUnit_120 rfl ?_
                  refine V_bipush (v := 96) dX2_doUnit_122 (by decide) ?_
                  refine V_icmp_lt (tgt := 133) (by omega) (by omega) dX2_doUnit_124 rfl (fun h_124 => ?_) (fun h_124 => ?_)
                  · refine V_aload_n (i := 0) dX2_doUnit_133 rfl rfl ?_
                    refine V_iload_n (i := 1) dX2_doUnit_134 rfl rfl ?_
                    refine V_iload (i := 6) dX2_doUnit_135 rfl ?_
                    refine V_iload (i := 5) dX2_doUnit_137 rfl ?_
                    refine V_callV (C := RX2) (q := 0) (ci := 2) (As := _) (rest := []) [0, 2, 5, 6] (c_X2_isForbidden l G a own s q h (q 9 + q 6 * q 11) (q 9 + q 6 * q 11) hh (by omega) (by omega) (fun k hk => by have := ho k hk; omega) (by omega)) vy_X2_isForbidden gX2_doUnit_X2_isForbidden rfl rfl rfl rfl rfl rfl rfl ⟨rfl, rfl⟩ ⟨rfl, rfl⟩ ⟨Nat.zero_le _, Nat.zero_le _⟩ rfl dX2_doUnit_139 (fun v Y hE => ?_)
                    obtain ⟨rfl, rfl⟩ := hE
                    refine ⟨rfl, ?_⟩
                    dsimp only [vfill, List.set_cons_zero, List.set_cons_succ, Option.toList, List.cons_append, List.nil_append, Nat.add_zero]
                    have hfb := forb_01 own h (q 7) (q 9 + q 6 * q 11) (q 9 + q 6 * q 11)
                    refine V_if_eq (tgt := 151) (by omega) dX2_doUnit_142 rfl (fun h_142 => ?_) (fun h_142 => ?_)
                    · refine V_aload_n (i := 0) dX2_doUnit_151 rfl rfl ?_
                      refine V_iload_n (i := 1) dX2_doUnit_152 rfl rfl ?_
                      refine V_iload (i := 6) dX2_doUnit_153 rfl ?_
                      refine V_iload (i := 5) dX2_doUnit_155 rfl ?_
                      refine V_callV (C := RX2) (q := 0) (ci := 2) (As := _) (rest := []) [0, 1, 2, 3, 4, 5, 6, 7] (c_X2_writeUnit l G a own mark val lw bits s q h (q 9 + q 6 * q 11) (q 9 + q 6 * q 11) hh (by omega) (by omega) (fun k hk => by have := hm k hk; omega) hs (by omega) (by omega) hv) vy_X2_writeUnit gX2_doUnit_X2_writeUnit rfl rfl rfl rfl rfl rfl rfl ⟨rfl, rfl⟩ ⟨rfl, rfl⟩ ⟨Nat.zero_le _, Nat.zero_le _⟩ rfl dX2_doUnit_157 (fun v Y hE => ?_)
                      obtain ⟨rfl, rfl⟩ := hE
                      refine ⟨rfl, ?_⟩
                      dsimp only [vfill, eW, List.set_cons_zero, List.set_cons_succ, Option.toList, List.cons_append, List.nil_append, Nat.add_zero]
                      refine V_aload_n (i := 2) dX2_doUnit_160 rfl rfl ?_
                      refine V_dup dX2_doUnit_161 rfl ?_
                      refine V_get (C := RX1) (T := TX1) (N := 13) (ci := 1) (q := 6) (ref := "OrderChains$Channel") 6 rfl il_X2_doUnit_X1 rfl rfl fl_X2_doUnit_127 rfl rfl dX2_doUnit_162 ?_
                      refine V_iconst (v := 1) dX2_doUnit_165 rfl ?_
                      refine V_iadd dX2_doUnit_166 ?_
                      refine V_put (C := RX1) (T := TX1) (N := 13) (ci := 1) (q := 6) (ref := "OrderChains$Channel") (ty := .int) (ty0 := tyX1) 6 rfl il_X2_doUnit_X1 tyX1_ok nmX1 rfl rfl fl_X2_doUnit_127 rfl rfl rfl rfl rfl rfl dX2_doUnit_167 ?_
                      dsimp only [List.set_cons_zero, List.set_cons_succ]
                      refine V_aload_n (i := 2) dX2_doUnit_170 rfl rfl ?_
                      refine V_get (C := RX1) (T := TX1) (N := 13) (ci := 1) (q := 6) (ref := "OrderChains$Channel") 6 rfl il_X2_doUnit_X1 rfl rfl fl_X2_doUnit_127 rfl rfl dX2_doUnit_171 ?_
                      refine V_aload_n (i := 2) dX2_doUnit_174 rfl rfl ?_
                      refine V_get (C := RX1) (T := TX1) (N := 13) (ci := 1) (q := 6) (ref := "OrderChains$Channel") 10 rfl il_X2_doUnit_X1 rfl rfl fl_X2_doUnit_115 rfl rfl dX2_doUnit_175 ?_
                      refine V_icmp_lt (tgt := 189) (by rw [wuC_q _ _ _ _ _ _ (by decide)]; show q 6 + 1 < _; omega) (by rw [wuC_q _ _ _ _ _ _ (by decide)]; show q 10 < _; omega) dX2_doUnit_178 rfl (fun h_178 => ?_) (fun h_178 => ?_)
                      · refine V_vret hR dX2_doUnit_189 hkc hks ?_
                        refine ⟨rfl, ?_⟩
                        have hf0 : ¬ forb own h (q 7) (q 9 + q 6 * q 11) (q 9 + q 6 * q 11) = 1 := by omega
                        rw [show duC own mark h (val, lw, bits, s, q) = sQ qNext (wuC mark h (q 9 + q 6 * q 11) (q 9 + q 6 * q 11) (val, lw, bits, s, q)) by
                            unfold duC unC
                            dsimp only
                            rw [if_neg (show ¬ q 7 = 6 by omega), hS, hT, if_neg (show ¬ (96 ≤ q 9 + q 6 * q 11 ∨ 96 ≤ q 9 + q 6 * q 11) by omega), if_neg hf0]]
                        unfold sQ qNext
                        first | (rw [if_pos h_178]; rfl) | (rw [if_neg h_178]; rfl)
                      · refine V_aload_n (i := 2) dX2_doUnit_181 rfl rfl ?_
                        refine V_aload_n (i := 2) dX2_doUnit_182 rfl rfl ?_
                        refine V_get (C := RX1) (T := TX1) (N := 13) (ci := 1) (q := 6) (ref := "OrderChains$Channel") 12 rfl il_X2_doUnit_X1 rfl rfl fl_X2_doUnit_118 rfl rfl dX2_doUnit_183 ?_
                        refine V_callV (C := RX1) (q := 0) (ci := 1) (As := _) (rest := []) [6] (c_X1_goOnAt l G (a (6 + h)) ((wuC mark h (q 9 + q 6 * q 11) (q 9 + q 6 * q 11) (val, lw, bits, s, q)).2.2.2.2 12) (va_up (wuC mark h (q 9 + q 6 * q 11) (q 9 + q 6 * q 11) (val, lw, bits, s, q)).2.2.2.2 6 ((wuC mark h (q 9 + q 6 * q 11) (q 9 + q 6 * q 11) (val, lw, bits, s, q)).2.2.2.2 6 + 1))) vy_X1_goOnAt gX2_doUnit_X1_goOnAt rfl rfl rfl rfl rfl rfl rfl ⟨rfl, rfl⟩ ⟨rfl, rfl⟩ ⟨Nat.zero_le _, Nat.zero_le _⟩ rfl dX2_doUnit_186 (fun v Y hE => ?_)
                        obtain ⟨rfl, rfl⟩ := hE
                        refine ⟨rfl, ?_⟩
                        dsimp only [vfill, List.set_cons_zero, List.set_cons_succ, Option.toList, List.cons_append, List.nil_append, Nat.add_zero]
                        refine V_vret hR dX2_doUnit_189 hkc hks ?_
                        refine ⟨rfl, ?_⟩
                        have hf0 : ¬ forb own h (q 7) (q 9 + q 6 * q 11) (q 9 + q 6 * q 11) = 1 := by omega
                        rw [show duC own mark h (val, lw, bits, s, q) = sQ qNext (wuC mark h (q 9 + q 6 * q 11) (q 9 + q 6 * q 11) (val, lw, bits, s, q)) by
                            unfold duC unC
                            dsimp only
                            rw [if_neg (show ¬ q 7 = 6 by omega), hS, hT, if_neg (show ¬ (96 ≤ q 9 + q 6 * q 11 ∨ 96 ≤ q 9 + q 6 * q 11) by omega), if_neg hf0]]
                        unfold sQ qNext
                        first | (rw [if_pos h_178]; rfl) | (rw [if_neg h_178]; rfl)
                    · refine V_aload_n (i := 2) dX2_doUnit_145 rfl rfl ?_
                      refine V_iconst (v := 4) dX2_doUnit_146 rfl ?_
                      refine V_callV (C := RX1) (q := 0) (ci := 1) (As := _) (rest := []) [6] (c_X1_fail l G (a (6 + h)) 4 q) vy_X1_fail gX2_doUnit_X1_fail rfl rfl rfl rfl rfl rfl rfl ⟨rfl, rfl⟩ ⟨rfl, rfl⟩ ⟨Nat.zero_le _, Nat.zero_le _⟩ rfl dX2_doUnit_147 (fun v Y hE => ?_)
                      obtain ⟨rfl, rfl⟩ := hE
                      refine ⟨rfl, ?_⟩
                      dsimp only [vfill, List.set_cons_zero, List.set_cons_succ, Option.toList, List.cons_append, List.nil_append, Nat.add_zero]
                      refine V_vret hR dX2_doUnit_150 hkc hks ?_
                      refine ⟨rfl, ?_⟩
                      have hf1 : forb own h (q 7) (q 9 + q 6 * q 11) (q 9 + q 6 * q 11) = 1 := by omega
                      rw [show duC own mark h (val, lw, bits, s, q) = sQ (qFail 4) (val, lw, bits, s, q) by
                          unfold duC unC
                          dsimp only
                          rw [if_neg (show ¬ q 7 = 6 by omega), hS, hT, if_neg (show ¬ (96 ≤ q 9 + q 6 * q 11 ∨ 96 ≤ q 9 + q 6 * q 11) by omega), if_pos hf1]]
                      rfl
                  · refine V_aload_n (i := 2) dX2_doUnit_127 rfl rfl ?_
                    refine V_iconst (v := 3) dX2_doUnit_128 rfl ?_
                    refine V_callV (C := RX1) (q := 0) (ci := 1) (As := _) (rest := []) [6] (c_X1_fail l G (a (6 + h)) 3 q) vy_X1_fail gX2_doUnit_X1_fail rfl rfl rfl rfl rfl rfl rfl ⟨rfl, rfl⟩ ⟨rfl, rfl⟩ ⟨Nat.zero_le _, Nat.zero_le _⟩ rfl dX2_doUnit_129 (fun v Y hE => ?_)
                    obtain ⟨rfl, rfl⟩ := hE
                    refine ⟨rfl, ?_⟩
                    dsimp only [vfill, List.set_cons_zero, List.set_cons_succ, Option.toList, List.cons_append, List.nil_append, Nat.add_zero]
                    refine V_vret hR dX2_doUnit_132 hkc hks ?_
                    refine ⟨rfl, ?_⟩
                    rw [show duC own mark h (val, lw, bits, s, q) = sQ (qFail 3) (val, lw, bits, s, q) by
                        unfold duC unC
                        dsimp only
                        rw [if_neg (show ¬ q 7 = 6 by omega), hS, hT, if_pos (show 96 ≤ q 9 + q 6 * q 11 ∨ 96 ≤ q 9 + q 6 * q 11 by omega)]]
                    rfl
          · exfalso; omega
    · exfalso; omega
  · have hmu : q 6 * q 11 ≤ 9801 := Nat.mul_le_mul (show q 6 ≤ 99 by omega) (show q 11 ≤ 99 by omega)
    have hS : dSr q = q 8 + q 6 := by simp [dSr, dTg, dI, e7]
    have hT : dTg q = q 9 + q 6 := by simp [dTg, dI, e7]
    refine V_aload_n (i := 0) dX2_doUnit_0 rfl rfl ?_
    refine V_get (C := RX2) (T := TX2) (N := 11) (ci := 2) (q := 0) (ref := "OrderChains$Engine") 4 rfl il_X2_doUnit_X2 rfl rfl fl_X2_doUnit_26 rfl rfl dX2_doUnit_1 ?_
    refine V_iload_n (i := 1) dX2_doUnit_4 rfl rfl ?_
    refine V_aaldC (q := 5) rfl (by omega) rfl dX2_doUnit_5 ?_
    refine V_astore_n (i := 2) dX2_doUnit_6 rfl rfl rfl ?_
    dsimp only [List.set_cons_zero, List.set_cons_succ]
    refine V_aload_n (i := 2) dX2_doUnit_7 rfl rfl ?_
    refine V_get (C := RX1) (T := TX1) (N := 13) (ci := 1) (q := 6) (ref := "OrderChains$Channel") 7 rfl il_X2_doUnit_X1 rfl rfl fl_X2_doUnit_109 rfl rfl dX2_doUnit_8 ?_
    refine V_top (b := 5) (by omega) ?_
    refine V_bipush (v := 6) dX2_doUnit_11 (by decide) ?_
    refine V_icmp_ne (tgt := 22) (by omega) (by omega) dX2_doUnit_13 rfl (fun h_13 => ?_) (fun h_13 => ?_)
    · refine V_aload_n (i := 2) dX2_doUnit_22 rfl rfl ?_
      refine V_get (C := RX1) (T := TX1) (N := 13) (ci := 1) (q := 6) (ref := "OrderChains$Channel") 7 rfl il_X2_doUnit_X1 rfl rfl fl_X2_doUnit_109 rfl rfl dX2_doUnit_23 ?_
      refine V_top (b := 5) (by omega) ?_
      refine V_iconst (v := 3) dX2_doUnit_26 rfl ?_
      refine V_icmp_eq (tgt := 38) (by omega) (by omega) dX2_doUnit_27 rfl (fun h_27 => ?_) (fun h_27 => ?_)
      · exfalso; omega
      · refine V_aload_n (i := 2) dX2_doUnit_30 rfl rfl ?_
        refine V_get (C := RX1) (T := TX1) (N := 13) (ci := 1) (q := 6) (ref := "OrderChains$Channel") 7 rfl il_X2_doUnit_X1 rfl rfl fl_X2_doUnit_109 rfl rfl dX2_doUnit_31 ?_
        refine V_top (b := 5) (by omega) ?_
        refine V_iconst (v := 4) dX2_doUnit_34 rfl ?_
        refine V_icmp_ne (tgt := 42) (by omega) (by omega) dX2_doUnit_35 rfl (fun h_35 => ?_) (fun h_35 => ?_)
        · refine V_iconst (v := 0) dX2_doUnit_42 rfl ?_
          refine V_istore_n (i := 3) dX2_doUnit_43 rfl rfl rfl ?_
          dsimp only [List.set_cons_zero, List.set_cons_succ]
          refine V_aload_n (i := 2) dX2_doUnit_44 rfl rfl ?_
          refine V_get (C := RX1) (T := TX1) (N := 13) (ci := 1) (q := 6) (ref := "OrderChains$Channel") 7 rfl il_X2_doUnit_X1 rfl rfl fl_X2_doUnit_109 rfl rfl dX2_doUnit_45 ?_
          refine V_top (b := 5) (by omega) ?_
          refine V_iconst (v := 2) dX2_doUnit_48 rfl ?_
          refine V_icmp_ne (tgt := 66) (by omega) (by omega) dX2_doUnit_49 rfl (fun h_49 => ?_) (fun h_49 => ?_)
          · refine V_aload_n (i := 2) dX2_doUnit_66 rfl rfl ?_
            refine V_get (C := RX1) (T := TX1) (N := 13) (ci := 1) (q := 6) (ref := "OrderChains$Channel") 6 rfl il_X2_doUnit_X1 rfl rfl fl_X2_doUnit_127 rfl rfl dX2_doUnit_67 ?_
            refine V_istore (i := 4) dX2_doUnit_70 rfl rfl ?_
            dsimp only [List.set_cons_zero, List.set_cons_succ]
            refine V_aload_n (i := 2) dX2_doUnit_72 rfl rfl ?_
            refine V_get (C := RX1) (T := TX1) (N := 13) (ci := 1) (q := 6) (ref := "OrderChains$Channel") 9 rfl il_X2_doUnit_X1 rfl rfl fl_X2_doUnit_130 rfl rfl dX2_doUnit_73 ?_
            refine V_iload_n (i := 3) dX2_doUnit_76 rfl rfl ?_
            refine V_if_eq (tgt := 90) (by omega) dX2_doUnit_77 rfl (fun h_77 => ?_) (fun h_77 => ?_)
            · refine V_iload (i := 4) dX2_doUnit_90 rfl ?_
              refine V_iadd dX2_doUnit_92 ?_
              refine V_istore (i := 5) dX2_doUnit_93 rfl rfl ?_
              dsimp only [List.set_cons_zero, List.set_cons_succ]
              refine V_iload_n (i := 3) dX2_doUnit_95 rfl rfl ?_
              refine V_if_eq (tgt := 104) (by omega) dX2_doUnit_96 rfl (fun h_96 => ?_) (fun h_96 => ?_)
              · refine V_aload_n (i := 2) dX2_doUnit_104 rfl rfl ?_
                refine V_get (C := RX1) (T := TX1) (N := 13) (ci := 1) (q := 6) (ref := "OrderChains$Channel") 8 rfl il_X2_doUnit_X1 rfl rfl fl_X2_doUnit_136 rfl rfl dX2_doUnit_105 ?_
                refine V_iload (i := 4) dX2_doUnit_108 rfl ?_
                refine V_iadd dX2_doUnit_110 ?_
                refine V_istore (i := 6) dX2_doUnit_111 rfl rfl ?_
                dsimp only [List.set_cons_zero, List.set_cons_succ]
                refine V_iload (i := 6) dX2_doUnit_113 rfl ?_
                refine V_bipush (v := 96) dX2_doUnit_115 (by decide) ?_
                refine V_icmp_ge (tgt := 127) (by omega) (by omega) dX2_doUnit_117 rfl (fun h_117 => ?_) (fun h_117 => ?_)
                · refine V_aload_n (i := 2) dX2_doUnit_127 rfl rfl ?_
                  refine V_iconst (v := 3) dX2_doUnit_128 rfl ?_
                  refine V_callV (C := RX1) (q := 0) (ci := 1) (As := _) (rest := []) [6] (c_X1_fail l G (a (6 + h)) 3 q) vy_X1_fail gX2_doUnit_X1_fail rfl rfl rfl rfl rfl rfl rfl ⟨rfl, rfl⟩ ⟨rfl, rfl⟩ ⟨Nat.zero_le _, Nat.zero_le _⟩ rfl dX2_doUnit_129 (fun v Y hE => ?_)
                  obtain ⟨rfl, rfl⟩ := hE
                  refine ⟨rfl, ?_⟩
                  dsimp only [vfill, List.set_cons_zero, List.set_cons_succ, Option.toList, List.cons_append, List.nil_append, Nat.add_zero]
                  refine V_vret hR dX2_doUnit_132 hkc hks ?_
                  refine ⟨rfl, ?_⟩
                  rw [show duC own mark h (val, lw, bits, s, q) = sQ (qFail 3) (val, lw, bits, s, q) by
                      unfold duC unC
                      dsimp only
                      rw [if_neg (show ¬ q 7 = 6 by omega), hS, hT, if_pos (show 96 ≤ q 8 + q 6 ∨ 96 ≤ q 9 + q 6 by omega)]]
                  rfl
                · refine V_iload (i := 5) dX2_doUnit_120 rfl ?_
                  refine V_bipush (v := 96) dX2_doUnit_122 (by decide) ?_
                  refine V_icmp_lt (tgt := 133) (by omega) (by omega) dX2_doUnit_124 rfl (fun h_124 => ?_) (fun h_124 => ?_)
                  · refine V_aload_n (i := 0) dX2_doUnit_133 rfl rfl ?_
                    refine V_iload_n (i := 1) dX2_doUnit_134 rfl rfl ?_
                    refine V_iload (i := 6) dX2_doUnit_135 rfl ?_
                    refine V_iload (i := 5) dX2_doUnit_137 rfl ?_
                    refine V_callV (C := RX2) (q := 0) (ci := 2) (As := _) (rest := []) [0, 2, 5, 6] (c_X2_isForbidden l G a own s q h (q 8 + q 6) (q 9 + q 6) hh (by omega) (by omega) (fun k hk => by have := ho k hk; omega) (by omega)) vy_X2_isForbidden gX2_doUnit_X2_isForbidden rfl rfl rfl rfl rfl rfl rfl ⟨rfl, rfl⟩ ⟨rfl, rfl⟩ ⟨Nat.zero_le _, Nat.zero_le _⟩ rfl dX2_doUnit_139 (fun v Y hE => ?_)
                    obtain ⟨rfl, rfl⟩ := hE
                    refine ⟨rfl, ?_⟩
                    dsimp only [vfill, List.set_cons_zero, List.set_cons_succ, Option.toList, List.cons_append, List.nil_append, Nat.add_zero]
                    have hfb := forb_01 own h (q 7) (q 8 + q 6) (q 9 + q 6)
                    refine V_if_eq (tgt := 151) (by omega) dX2_doUnit_142 rfl (fun h_142 => ?_) (fun h_142 => ?_)
                    · refine V_aload_n (i := 0) dX2_doUnit_151 rfl rfl ?_
                      refine V_iload_n (i := 1) dX2_doUnit_152 rfl rfl ?_
                      refine V_iload (i := 6) dX2_doUnit_153 rfl ?_
                      refine V_iload (i := 5) dX2_doUnit_155 rfl ?_
                      refine V_callV (C := RX2) (q := 0) (ci := 2) (As := _) (rest := []) [0, 1, 2, 3, 4, 5, 6, 7] (c_X2_writeUnit l G a own mark val lw bits s q h (q 8 + q 6) (q 9 + q 6) hh (by omega) (by omega) (fun k hk => by have := hm k hk; omega) hs (by omega) (by omega) hv) vy_X2_writeUnit gX2_doUnit_X2_writeUnit rfl rfl rfl rfl rfl rfl rfl ⟨rfl, rfl⟩ ⟨rfl, rfl⟩ ⟨Nat.zero_le _, Nat.zero_le _⟩ rfl dX2_doUnit_157 (fun v Y hE => ?_)
                      obtain ⟨rfl, rfl⟩ := hE
                      refine ⟨rfl, ?_⟩
                      dsimp only [vfill, eW, List.set_cons_zero, List.set_cons_succ, Option.toList, List.cons_append, List.nil_append, Nat.add_zero]
                      refine V_aload_n (i := 2) dX2_doUnit_160 rfl rfl ?_
                      refine V_dup dX2_doUnit_161 rfl ?_
                      refine V_get (C := RX1) (T := TX1) (N := 13) (ci := 1) (q := 6) (ref := "OrderChains$Channel") 6 rfl il_X2_doUnit_X1 rfl rfl fl_X2_doUnit_127 rfl rfl dX2_doUnit_162 ?_
                      refine V_iconst (v := 1) dX2_doUnit_165 rfl ?_
                      refine V_iadd dX2_doUnit_166 ?_
                      refine V_put (C := RX1) (T := TX1) (N := 13) (ci := 1) (q := 6) (ref := "OrderChains$Channel") (ty := .int) (ty0 := tyX1) 6 rfl il_X2_doUnit_X1 tyX1_ok nmX1 rfl rfl fl_X2_doUnit_127 rfl rfl rfl rfl rfl rfl dX2_doUnit_167 ?_
                      dsimp only [List.set_cons_zero, List.set_cons_succ]
                      refine V_aload_n (i := 2) dX2_doUnit_170 rfl rfl ?_
                      refine V_get (C := RX1) (T := TX1) (N := 13) (ci := 1) (q := 6) (ref := "OrderChains$Channel") 6 rfl il_X2_doUnit_X1 rfl rfl fl_X2_doUnit_127 rfl rfl dX2_doUnit_171 ?_
                      refine V_aload_n (i := 2) dX2_doUnit_174 rfl rfl ?_
                      refine V_get (C := RX1) (T := TX1) (N := 13) (ci := 1) (q := 6) (ref := "OrderChains$Channel") 10 rfl il_X2_doUnit_X1 rfl rfl fl_X2_doUnit_115 rfl rfl dX2_doUnit_175 ?_
                      refine V_icmp_lt (tgt := 189) (by rw [wuC_q _ _ _ _ _ _ (by decide)]; show q 6 + 1 < _; omega) (by rw [wuC_q _ _ _ _ _ _ (by decide)]; show q 10 < _; omega) dX2_doUnit_178 rfl (fun h_178 => ?_) (fun h_178 => ?_)
                      · refine V_vret hR dX2_doUnit_189 hkc hks ?_
                        refine ⟨rfl, ?_⟩
                        have hf0 : ¬ forb own h (q 7) (q 8 + q 6) (q 9 + q 6) = 1 := by omega
                        rw [show duC own mark h (val, lw, bits, s, q) = sQ qNext (wuC mark h (q 8 + q 6) (q 9 + q 6) (val, lw, bits, s, q)) by
                            unfold duC unC
                            dsimp only
                            rw [if_neg (show ¬ q 7 = 6 by omega), hS, hT, if_neg (show ¬ (96 ≤ q 8 + q 6 ∨ 96 ≤ q 9 + q 6) by omega), if_neg hf0]]
                        unfold sQ qNext
                        first | (rw [if_pos h_178]; rfl) | (rw [if_neg h_178]; rfl)
                      · refine V_aload_n (i := 2) dX2_doUnit_181 rfl rfl ?_
                        refine V_aload_n (i := 2) dX2_doUnit_182 rfl rfl ?_
                        refine V_get (C := RX1) (T := TX1) (N := 13) (ci := 1) (q := 6) (ref := "OrderChains$Channel") 12 rfl il_X2_doUnit_X1 rfl rfl fl_X2_doUnit_118 rfl rfl dX2_doUnit_183 ?_
                        refine V_callV (C := RX1) (q := 0) (ci := 1) (As := _) (rest := []) [6] (c_X1_goOnAt l G (a (6 + h)) ((wuC mark h (q 8 + q 6) (q 9 + q 6) (val, lw, bits, s, q)).2.2.2.2 12) (va_up (wuC mark h (q 8 + q 6) (q 9 + q 6) (val, lw, bits, s, q)).2.2.2.2 6 ((wuC mark h (q 8 + q 6) (q 9 + q 6) (val, lw, bits, s, q)).2.2.2.2 6 + 1))) vy_X1_goOnAt gX2_doUnit_X1_goOnAt rfl rfl rfl rfl rfl rfl rfl ⟨rfl, rfl⟩ ⟨rfl, rfl⟩ ⟨Nat.zero_le _, Nat.zero_le _⟩ rfl dX2_doUnit_186 (fun v Y hE => ?_)
                        obtain ⟨rfl, rfl⟩ := hE
                        refine ⟨rfl, ?_⟩
                        dsimp only [vfill, List.set_cons_zero, List.set_cons_succ, Option.toList, List.cons_append, List.nil_append, Nat.add_zero]
                        refine V_vret hR dX2_doUnit_189 hkc hks ?_
                        refine ⟨rfl, ?_⟩
                        have hf0 : ¬ forb own h (q 7) (q 8 + q 6) (q 9 + q 6) = 1 := by omega
                        rw [show duC own mark h (val, lw, bits, s, q) = sQ qNext (wuC mark h (q 8 + q 6) (q 9 + q 6) (val, lw, bits, s, q)) by
                            unfold duC unC
                            dsimp only
                            rw [if_neg (show ¬ q 7 = 6 by omega), hS, hT, if_neg (show ¬ (96 ≤ q 8 + q 6 ∨ 96 ≤ q 9 + q 6) by omega), if_neg hf0]]
                        unfold sQ qNext
                        first | (rw [if_pos h_178]; rfl) | (rw [if_neg h_178]; rfl)
                    · refine V_aload_n (i := 2) dX2_doUnit_145 rfl rfl ?_
                      refine V_iconst (v := 4) dX2_doUnit_146 rfl ?_
                      refine V_callV (C := RX1) (q := 0) (ci := 1) (As := _) (rest := []) [6] (c_X1_fail l G (a (6 + h)) 4 q) vy_X1_fail gX2_doUnit_X1_fail rfl rfl rfl rfl rfl rfl rfl ⟨rfl, rfl⟩ ⟨rfl, rfl⟩ ⟨Nat.zero_le _, Nat.zero_le _⟩ rfl dX2_doUnit_147 (fun v Y hE => ?_)
                      obtain ⟨rfl, rfl⟩ := hE
                      refine ⟨rfl, ?_⟩
                      dsimp only [vfill, List.set_cons_zero, List.set_cons_succ, Option.toList, List.cons_append, List.nil_append, Nat.add_zero]
                      refine V_vret hR dX2_doUnit_150 hkc hks ?_
                      refine ⟨rfl, ?_⟩
                      have hf1 : forb own h (q 7) (q 8 + q 6) (q 9 + q 6) = 1 := by omega
                      rw [show duC own mark h (val, lw, bits, s, q) = sQ (qFail 4) (val, lw, bits, s, q) by
                          unfold duC unC
                          dsimp only
                          rw [if_neg (show ¬ q 7 = 6 by omega), hS, hT, if_neg (show ¬ (96 ≤ q 8 + q 6 ∨ 96 ≤ q 9 + q 6) by omega), if_pos hf1]]
                      rfl
                  · refine V_aload_n (i := 2) dX2_doUnit_127 rfl rfl ?_
                    refine V_iconst (v := 3) dX2_doUnit_128 rfl ?_
                    refine V_callV (C := RX1) (q := 0) (ci := 1) (As := _) (rest := []) [6] (c_X1_fail l G (a (6 + h)) 3 q) vy_X1_fail gX2_doUnit_X1_fail rfl rfl rfl rfl rfl rfl rfl ⟨rfl, rfl⟩ ⟨rfl, rfl⟩ ⟨Nat.zero_le _, Nat.zero_le _⟩ rfl dX2_doUnit_129 (fun v Y hE => ?_)
                    obtain ⟨rfl, rfl⟩ := hE
                    refine ⟨rfl, ?_⟩
                    dsimp only [vfill, List.set_cons_zero, List.set_cons_succ, Option.toList, List.cons_append, List.nil_append, Nat.add_zero]
                    refine V_vret hR dX2_doUnit_132 hkc hks ?_
                    refine ⟨rfl, ?_⟩
                    rw [show duC own mark h (val, lw, bits, s, q) = sQ (qFail 3) (val, lw, bits, s, q) by
                        unfold duC unC
                        dsimp only
                        rw [if_neg (show ¬ q 7 = 6 by omega), hS, hT, if_pos (show 96 ≤ q 8 + q 6 ∨ 96 ≤ q 9 + q 6 by omega)]]
                    rfl
              · exfalso; omega
            · exfalso; omega
          · exfalso; omega
        · exfalso; omega
    · exfalso; omega
  · have hmu : q 6 * q 11 ≤ 9801 := Nat.mul_le_mul (show q 6 ≤ 99 by omega) (show q 11 ≤ 99 by omega)
    refine V_aload_n (i := 0) dX2_doUnit_0 rfl rfl ?_
    refine V_get (C := RX2) (T := TX2) (N := 11) (ci := 2) (q := 0) (ref := "OrderChains$Engine") 4 rfl il_X2_doUnit_X2 rfl rfl fl_X2_doUnit_26 rfl rfl dX2_doUnit_1 ?_
    refine V_iload_n (i := 1) dX2_doUnit_4 rfl rfl ?_
    refine V_aaldC (q := 5) rfl (by omega) rfl dX2_doUnit_5 ?_
    refine V_astore_n (i := 2) dX2_doUnit_6 rfl rfl rfl ?_
    dsimp only [List.set_cons_zero, List.set_cons_succ]
    refine V_aload_n (i := 2) dX2_doUnit_7 rfl rfl ?_
    refine V_get (C := RX1) (T := TX1) (N := 13) (ci := 1) (q := 6) (ref := "OrderChains$Channel") 7 rfl il_X2_doUnit_X1 rfl rfl fl_X2_doUnit_109 rfl rfl dX2_doUnit_8 ?_
    refine V_top (b := 6) (by omega) ?_
    refine V_bipush (v := 6) dX2_doUnit_11 (by decide) ?_
    refine V_icmp_ne (tgt := 22) (by omega) (by omega) dX2_doUnit_13 rfl (fun h_13 => ?_) (fun h_13 => ?_)
    · exfalso; omega
    · refine V_aload_n (i := 0) dX2_doUnit_16 rfl rfl ?_
      refine V_aload_n (i := 2) dX2_doUnit_17 rfl rfl ?_
      refine V_callV (C := RX2) (q := 0) (ci := 2) (As := _) (rest := []) [0, 1, 6] (c_X2_choose l G a val s q (a (6 + h)) (by omega) (by omega) (by omega) hv) vy_X2_choose gX2_doUnit_X2_choose rfl rfl rfl rfl rfl rfl rfl ⟨rfl, rfl⟩ ⟨rfl, rfl⟩ ⟨Nat.zero_le _, Nat.zero_le _⟩ rfl dX2_doUnit_18 (fun v Y hE => ?_)
      obtain ⟨rfl, rfl⟩ := hE
      refine ⟨rfl, ?_⟩
      dsimp only [vfill, List.set_cons_zero, List.set_cons_succ, Option.toList, List.cons_append, List.nil_append, Nat.add_zero]
      refine V_vret hR dX2_doUnit_21 hkc hks ?_
      refine ⟨rfl, ?_⟩
      rw [show duC own mark h (val, lw, bits, s, q) = sQ (chC val) (val, lw, bits, s, q) by
          unfold duC
          dsimp only
          rw [if_pos e7]]
      rfl

end ENG3
