section OC4
theorem V_isubX {l : Launch} {G : vG} {M : vM} {Γ : vF} {k n pc : Nat} {L : List (Option Value)} {st : List Value} {X : List va_W} {a b : Int32} (d : decode M.1 pc = .ok (.isub, 1)) (kk : V l G M Γ k n (pc + 1) L (.int (a - b) :: st) X) : V l G M Γ k n pc L (.int b :: .int a :: st) X := by
  intro ok H locs ls hl hP hD hS
  exact lv_isub ok.1 ok.2.1 d (kk ok _ _ _ hl hP hD hS)
theorem en_t {h f b : Nat} {t : vE} (c : t.2.2.2.2.2.2 h 0 = 1) : enC h (f + 1) b t = enC h f (b + 1) (tickC t) := if_pos c
theorem en_f {h f b : Nat} {t : vE} (c : ¬ t.2.2.2.2.2.2 h 0 = 1) : enC h (f + 1) b t = (b, t) := if_neg c
theorem eB_al {h : Nat} {t : vE} (ht : eB t) : eB (alC h t) := by
  obtain ⟨hv, ho, hm, hb, hs0, hs4, hq⟩ := ht
  refine ⟨hv, ho, hm, hb, hs0, hs4, fun k hk => ?_⟩
  show qB (if _ then _ else _)
  split
  · exact qB_bc (hq k hk) (by decide)
  · exact hq k hk

abbrev rX6_ends : Room := { frames := 6, cells := 1, slots := 6, locals := 111 }
theorem vy_X6_ends : vY yX6_ends wsX6_ends cX6_ends 3 (some .int) 1 := ⟨⟨_, rfl⟩, by decide +kernel, by decide +kernel, by decide +kernel⟩
theorem fl_X6_ends_31 : Cond.fieldLink RX6 31 "OrderChains" "trial" "LOrderChains$Engine;" ∈ wsX6_ends := List.mem_of_getElem? (i := 3) rfl
theorem il_X6_ends_X6 : ∀ w ∈ wsX60, w ∈ wsX6_ends := fun _ h => List.mem_cons_of_mem _ (List.mem_append_left _ (List.mem_append_left _ (List.mem_append_left _ (List.mem_append_right _ h))))
theorem fl_X6_ends_137 : Cond.fieldLink RX6 137 "OrderChains$Engine" "channels" "[LOrderChains$Channel;" ∈ wsX6_ends := List.mem_of_getElem? (i := 5) rfl
theorem il_X6_ends_X2 : ∀ w ∈ wsX20, w ∈ wsX6_ends := fun _ h => List.mem_cons_of_mem _ (List.mem_append_left _ (List.mem_append_left _ (List.mem_append_right _ h)))
theorem fl_X6_ends_141 : Cond.fieldLink RX6 141 "OrderChains$Channel" "condition" "I" ∈ wsX6_ends := List.mem_of_getElem? (i := 6) rfl
theorem il_X6_ends_X1 : ∀ w ∈ wsX10, w ∈ wsX6_ends := fun _ h => List.mem_cons_of_mem _ (List.mem_append_left _ (List.mem_append_right _ h))
theorem fl_X6_ends_27 : Cond.fieldLink RX6 27 "OrderChains" "live" "LOrderChains$Engine;" ∈ wsX6_ends := List.mem_of_getElem? (i := 4) rfl
theorem xk_X6_ends_113 : Cond.classLink RX6 113 "java/lang/IndexOutOfBoundsException" ∈ wsX6_ends := List.mem_of_getElem? (i := 1) rfl
theorem xi_X6_ends_113 : Cond.initialized "java/lang/IndexOutOfBoundsException" ∈ wsX6_ends := List.mem_of_getElem? (i := 2) rfl
theorem xw_X6_ends_117 : ∀ w ∈ (vx_atS RX6 117 sIOB nms).filter goodWord, w ∈ wsX6_ends := fun _ h => List.mem_cons_of_mem _ (List.mem_append_right _ h)
set_option maxHeartbeats 4000000 in
set_option maxRecDepth 100000 in
/-- ends -/
theorem c_X6_ends (l : Launch) (hst : l.stackTraces = false) (G : vG) (A : Nat → Nat) (ea : Nat → Nat → Nat) (h : Nat) (n : Nat) (e t : vE) (he : eB e) (hh : h < 4294967296) : Kx l G yX6_ends wsX6_ends rX6_ends [.ref (A 0), .int (nI h)] [oO A ea n, eK G (ea 14) e, eK G (ea 15) t] (fun v Y => h < 3 ∧ v = some (.int (nI (enC h 501 0 (cpC t e)).1)) ∧ Y = [oO A ea n, eK G (ea 14) e, eK G (ea 15) (enC h 501 0 (cpC t e)).2]) (fun c Y => (c = sIOB ∧ ¬ h < 3) ∧ Y = [oO A ea n, eK G (ea 14) e, eK G (ea 15) t]) 1 6 := by
  refine V_enterX (own := RX6) [some (.ref (A 0)), some (.int (nI h)), none] hst (by decide +kernel) rfl rfl (Nat.le_of_ble_eq_true rfl) rfl (fun Γ hR hT => ?_)
  have hkc : 0 ≤ 1 := Nat.zero_le _
  have hks : 0 ≤ 6 := Nat.zero_le _
  have hmx : 0 + 1 ≤ 1 ∧ 0 + 6 ≤ 6 := ⟨by decide, by decide⟩
  have LP30 : ∀ (fuel : Nat) (b : Nat) (f : vE), h < 3 → 502 ≤ b + fuel → b ≤ 501 → eB f → (enC h 501 0 (cpC t e)) = enC h (501 - b) b f → V l G (cX6_ends, 3, wsX6_ends, RX6, rX6_ends) Γ 0 0 30 [some (.ref (A 0)), some (.int (nI h)), some (.int (nI b))] [] [oO A ea n, eK G (ea 14) e, eK G (ea 15) f] := by
    intro fuel
    induction fuel with
    | zero => intro b f hz hf hb1 hef hfl; exact absurd hf (by omega)
    | succ fuel ih =>
      intro b f hz hf hb1 hef hfl
      refine V_iload_n (i := 2) dX6_ends_30 rfl rfl ?_
      refine V_sipush (v := 500) dX6_ends_31 (by decide) ?_
      refine V_icmp_gt (tgt := 69) (by omega) (by omega) dX6_ends_34 rfl (fun h_34 => ?_) (fun h_34 => ?_)
      · refine V_bipush (v := 4294967287) dX6_ends_69 (by decide) ?_
        refine V_iret hR dX6_ends_71 hkc hks ?_
        have hb2 : b = 501 := by omega
        subst hb2
        rw [hfl]
        exact ⟨hz, rfl, rfl⟩
      · have hc0 : ∀ k, k < 3 → f.2.2.2.2.2.2 k 0 < 4294967296 := fun k hk => by have := (hef.2.2.2.2.2.2 k hk).1; omega
        refine V_same (X' := [oO A ea n, eK G (ea 14) e, eO (ea 15) f.2.2.2.2.2.1, iA G ((ea 15) 1) 96 f.1, iA G ((ea 15) 2) 96 f.2.1, iA G ((ea 15) 3) 96 f.2.2.1, iA G ((ea 15) 4) 96 f.2.2.2.1, eC G (ea 15), cX ((ea 15) 6) (f.2.2.2.2.2.2 0), cX ((ea 15) 7) (f.2.2.2.2.2.2 1), cX ((ea 15) 8) (f.2.2.2.2.2.2 2), iA G ((ea 15) 9) 96 f.2.2.2.2.1]) (opK (P := [oO A ea n, eK G (ea 14) e]) (Q := []) (a := (ea 15)) (e := f)) ?_
        refine V_aload_n (i := 0) dX6_ends_37 rfl rfl ?_
        rcases (show h = 0 ∨ h = 1 ∨ h = 2 by omega) with rfl | rfl | rfl
        · refine V_get (C := RX6) (T := TX6) (N := 9) (ci := 5) (q := 0) (ref := "OrderChains") 4 rfl il_X6_ends_X6 rfl rfl fl_X6_ends_31 rfl rfl dX6_ends_38 ?_
          refine V_get (C := RX2) (T := TX2) (N := 11) (ci := 2) (q := 2) (ref := "OrderChains$Engine") 4 rfl il_X6_ends_X2 rfl rfl fl_X6_ends_137 rfl rfl dX6_ends_41 ?_
          refine V_iload_n (i := 1) dX6_ends_44 rfl rfl ?_
          refine V_aaldC (q := 7) rfl (by omega) rfl dX6_ends_45 ?_
          refine V_get (C := RX1) (T := TX1) (N := 13) (ci := 1) (q := 8) (ref := "OrderChains$Channel") 0 rfl il_X6_ends_X1 rfl rfl fl_X6_ends_141 rfl rfl dX6_ends_46 ?_
          refine V_iconst (v := 1) dX6_ends_49 rfl ?_
          refine V_icmp_eq (tgt := 55) (hc0 _ (by decide)) (by omega) dX6_ends_50 rfl (fun h_50 => ?_) (fun h_50 => ?_)
          · refine V_same (X' := [oO A ea n, eK G (ea 14) e, eK G (ea 15) f]) (opK (P := [oO A ea n, eK G (ea 14) e]) (Q := []) (a := (ea 15)) (e := f)).symm ?_
            refine V_aload_n (i := 0) dX6_ends_55 rfl rfl ?_
            refine V_get (C := RX6) (T := TX6) (N := 9) (ci := 5) (q := 0) (ref := "OrderChains") 4 rfl il_X6_ends_X6 rfl rfl fl_X6_ends_31 rfl rfl dX6_ends_56 ?_
            refine V_callV (C := RX2) (q := 0) (ci := 2) (As := []) (rest := []) [2] (c_X2_tickK l G (ea 15) f hef) vy_X2_tick gX6_ends_X2_tick rfl rfl rfl rfl rfl rfl rfl ⟨rfl, rfl⟩ ⟨rfl, rfl⟩ ⟨Nat.zero_le _, Nat.zero_le _⟩ rfl dX6_ends_59 (fun v Y hE => ?_)
            obtain ⟨rfl, rfl⟩ := hE
            refine ⟨rfl, ?_⟩
            dsimp only [vfill, List.set_cons_zero, List.set_cons_succ, Option.toList, List.cons_append, List.nil_append, Nat.add_zero]
            refine V_pop dX6_ends_62 rfl ?_
            refine V_iinc dX6_ends_63 rfl (nI_1 _) rfl rfl ?_
            dsimp only [List.set_cons_zero, List.set_cons_succ]
            refine V_goto (tgt := 30) dX6_ends_66 rfl ?_
            exact ih (b + 1) (tickC f) hz (by omega) (by omega) (eB_tick hef) (by rw [hfl, show 501 - b = 501 - (b + 1) + 1 by omega, en_t h_50])
          · refine V_iload_n (i := 2) dX6_ends_53 rfl rfl ?_
            refine V_same (X' := [oO A ea n, eK G (ea 14) e, eK G (ea 15) f]) (opK (P := [oO A ea n, eK G (ea 14) e]) (Q := []) (a := (ea 15)) (e := f)).symm ?_
            refine V_iret hR dX6_ends_54 hkc hks ?_
            rw [hfl, show 501 - b = 501 - (b + 1) + 1 by omega, en_f h_50]
            exact ⟨hz, rfl, rfl⟩
        · refine V_get (C := RX6) (T := TX6) (N := 9) (ci := 5) (q := 0) (ref := "OrderChains") 4 rfl il_X6_ends_X6 rfl rfl fl_X6_ends_31 rfl rfl dX6_ends_38 ?_
          refine V_get (C := RX2) (T := TX2) (N := 11) (ci := 2) (q := 2) (ref := "OrderChains$Engine") 4 rfl il_X6_ends_X2 rfl rfl fl_X6_ends_137 rfl rfl dX6_ends_41 ?_
          refine V_iload_n (i := 1) dX6_ends_44 rfl rfl ?_
          refine V_aaldC (q := 7) rfl (by omega) rfl dX6_ends_45 ?_
          refine V_get (C := RX1) (T := TX1) (N := 13) (ci := 1) (q := 9) (ref := "OrderChains$Channel") 0 rfl il_X6_ends_X1 rfl rfl fl_X6_ends_141 rfl rfl dX6_ends_46 ?_
          refine V_iconst (v := 1) dX6_ends_49 rfl ?_
          refine V_icmp_eq (tgt := 55) (hc0 _ (by decide)) (by omega) dX6_ends_50 rfl (fun h_50 => ?_) (fun h_50 => ?_)
          · refine V_same (X' := [oO A ea n, eK G (ea 14) e, eK G (ea 15) f]) (opK (P := [oO A ea n, eK G (ea 14) e]) (Q := []) (a := (ea 15)) (e := f)).symm ?_
            refine V_aload_n (i := 0) dX6_ends_55 rfl rfl ?_
            refine V_get (C := RX6) (T := TX6) (N := 9) (ci := 5) (q := 0) (ref := "OrderChains") 4 rfl il_X6_ends_X6 rfl rfl fl_X6_ends_31 rfl rfl dX6_ends_56 ?_
            refine V_callV (C := RX2) (q := 0) (ci := 2) (As := []) (rest := []) [2] (c_X2_tickK l G (ea 15) f hef) vy_X2_tick gX6_ends_X2_tick rfl rfl rfl rfl rfl rfl rfl ⟨rfl, rfl⟩ ⟨rfl, rfl⟩ ⟨Nat.zero_le _, Nat.zero_le _⟩ rfl dX6_ends_59 (fun v Y hE => ?_)
            obtain ⟨rfl, rfl⟩ := hE
            refine ⟨rfl, ?_⟩
            dsimp only [vfill, List.set_cons_zero, List.set_cons_succ, Option.toList, List.cons_append, List.nil_append, Nat.add_zero]
            refine V_pop dX6_ends_62 rfl ?_
            refine V_iinc dX6_ends_63 rfl (nI_1 _) rfl rfl ?_
            dsimp only [List.set_cons_zero, List.set_cons_succ]
            refine V_goto (tgt := 30) dX6_ends_66 rfl ?_
            exact ih (b + 1) (tickC f) hz (by omega) (by omega) (eB_tick hef) (by rw [hfl, show 501 - b = 501 - (b + 1) + 1 by omega, en_t h_50])
          · refine V_iload_n (i := 2) dX6_ends_53 rfl rfl ?_
            refine V_same (X' := [oO A ea n, eK G (ea 14) e, eK G (ea 15) f]) (opK (P := [oO A ea n, eK G (ea 14) e]) (Q := []) (a := (ea 15)) (e := f)).symm ?_
            refine V_iret hR dX6_ends_54 hkc hks ?_
            rw [hfl, show 501 - b = 501 - (b + 1) + 1 by omega, en_f h_50]
            exact ⟨hz, rfl, rfl⟩
        · refine V_get (C := RX6) (T := TX6) (N := 9) (ci := 5) (q := 0) (ref := "OrderChains") 4 rfl il_X6_ends_X6 rfl rfl fl_X6_ends_31 rfl rfl dX6_ends_38 ?_
          refine V_get (C := RX2) (T := TX2) (N := 11) (ci := 2) (q := 2) (ref := "OrderChains$Engine") 4 rfl il_X6_ends_X2 rfl rfl fl_X6_ends_137 rfl rfl dX6_ends_41 ?_
          refine V_iload_n (i := 1) dX6_ends_44 rfl rfl ?_
          refine V_aaldC (q := 7) rfl (by omega) rfl dX6_ends_45 ?_
          refine V_get (C := RX1) (T := TX1) (N := 13) (ci := 1) (q := 10) (ref := "OrderChains$Channel") 0 rfl il_X6_ends_X1 rfl rfl fl_X6_ends_141 rfl rfl dX6_ends_46 ?_
          refine V_iconst (v := 1) dX6_ends_49 rfl ?_
          refine V_icmp_eq (tgt := 55) (hc0 _ (by decide)) (by omega) dX6_ends_50 rfl (fun h_50 => ?_) (fun h_50 => ?_)
          · refine V_same (X' := [oO A ea n, eK G (ea 14) e, eK G (ea 15) f]) (opK (P := [oO A ea n, eK G (ea 14) e]) (Q := []) (a := (ea 15)) (e := f)).symm ?_
            refine V_aload_n (i := 0) dX6_ends_55 rfl rfl ?_
            refine V_get (C := RX6) (T := TX6) (N := 9) (ci := 5) (q := 0) (ref := "OrderChains") 4 rfl il_X6_ends_X6 rfl rfl fl_X6_ends_31 rfl rfl dX6_ends_56 ?_
            refine V_callV (C := RX2) (q := 0) (ci := 2) (As := []) (rest := []) [2] (c_X2_tickK l G (ea 15) f hef) vy_X2_tick gX6_ends_X2_tick rfl rfl rfl rfl rfl rfl rfl ⟨rfl, rfl⟩ ⟨rfl, rfl⟩ ⟨Nat.zero_le _, Nat.zero_le _⟩ rfl dX6_ends_59 (fun v Y hE => ?_)
            obtain ⟨rfl, rfl⟩ := hE
            refine ⟨rfl, ?_⟩
            dsimp only [vfill, List.set_cons_zero, List.set_cons_succ, Option.toList, List.cons_append, List.nil_append, Nat.add_zero]
            refine V_pop dX6_ends_62 rfl ?_
            refine V_iinc dX6_ends_63 rfl (nI_1 _) rfl rfl ?_
            dsimp only [List.set_cons_zero, List.set_cons_succ]
            refine V_goto (tgt := 30) dX6_ends_66 rfl ?_
            exact ih (b + 1) (tickC f) hz (by omega) (by omega) (eB_tick hef) (by rw [hfl, show 501 - b = 501 - (b + 1) + 1 by omega, en_t h_50])
          · refine V_iload_n (i := 2) dX6_ends_53 rfl rfl ?_
            refine V_same (X' := [oO A ea n, eK G (ea 14) e, eK G (ea 15) f]) (opK (P := [oO A ea n, eK G (ea 14) e]) (Q := []) (a := (ea 15)) (e := f)).symm ?_
            refine V_iret hR dX6_ends_54 hkc hks ?_
            rw [hfl, show 501 - b = 501 - (b + 1) + 1 by omega, en_f h_50]
            exact ⟨hz, rfl, rfl⟩
  refine V_iload_n (i := 1) dX6_ends_0 rfl rfl ?_
  refine V_callS (As := _) (rest := []) [] (c_X6_isChannel l G (h) hh) vy_X6_isChannel gX6_ends_X6_isChannel rfl rfl rfl rfl ⟨rfl, rfl⟩ ⟨rfl, rfl⟩ ⟨Nat.zero_le _, Nat.zero_le _⟩ rfl dX6_ends_1 (fun v Y hE => ?_)
  obtain ⟨rfl, rfl⟩ := hE
  refine ⟨rfl, ?_⟩
  dsimp only [vfill, List.set_cons_zero, List.set_cons_succ, Option.toList, List.cons_append, List.nil_append, Nat.add_zero]
  refine V_if_ne (tgt := 17) (by split <;> decide) dX6_ends_4 rfl (fun h_4 => ?_) (fun h_4 => ?_)
  · have hz := b01 h_4
    refine V_aload_n (i := 0) dX6_ends_17 rfl rfl ?_
    refine V_get (C := RX6) (T := TX6) (N := 9) (ci := 5) (q := 0) (ref := "OrderChains") 4 rfl il_X6_ends_X6 rfl rfl fl_X6_ends_31 rfl rfl dX6_ends_18 ?_
    refine V_aload_n (i := 0) dX6_ends_21 rfl rfl ?_
    refine V_get (C := RX6) (T := TX6) (N := 9) (ci := 5) (q := 0) (ref := "OrderChains") 3 rfl il_X6_ends_X6 rfl rfl fl_X6_ends_27 rfl rfl dX6_ends_22 ?_
    refine V_callV (C := RX2) (q := 0) (ci := 2) (As := _) (rest := []) [2, 1] (c_X2_copyFromK l G (ea 15) (ea 14) t e) vy_X2_copyFrom gX6_ends_X2_copyFrom rfl rfl rfl rfl rfl rfl rfl ⟨rfl, rfl⟩ ⟨rfl, rfl⟩ ⟨Nat.zero_le _, Nat.zero_le _⟩ rfl dX6_ends_25 (fun v Y hE => ?_)
    obtain ⟨rfl, rfl⟩ := hE
    refine ⟨rfl, ?_⟩
    dsimp only [vfill, List.set_cons_zero, List.set_cons_succ, Option.toList, List.cons_append, List.nil_append, Nat.add_zero]
    refine V_iconst (v := 0) dX6_ends_28 rfl ?_
    refine V_istore_n (i := 2) dX6_ends_29 rfl rfl rfl ?_
    dsimp only [List.set_cons_zero, List.set_cons_succ]
    exact LP30 502 0 (cpC t e) hz (by omega) (by omega) (eB_cp he) rfl
  · refine V_IOB (is := 135) (text := "no such channel") hT rfl xk_X6_ends_113 xi_X6_ends_113 xw_X6_ends_117 (List.mem_of_getElem? (i := 3) rfl) ⟨rfl, rfl⟩ hmx hmx dX6_ends_7 dX6_ends_10 dX6_ends_11 dX6_ends_13 dX6_ends_16 ?_
    exact ⟨⟨rfl, b00 h_4⟩, rfl⟩

abbrev rX6_alone : Room := { frames := 6, cells := 1, slots := 6, locals := 133 }
theorem vy_X6_alone : vY yX6_alone wsX6_alone cX6_alone 3 (some .int) 1 := ⟨⟨_, rfl⟩, by decide +kernel, by decide +kernel, by decide +kernel⟩
theorem fl_X6_alone_31 : Cond.fieldLink RX6 31 "OrderChains" "trial" "LOrderChains$Engine;" ∈ wsX6_alone := List.mem_of_getElem? (i := 3) rfl
theorem il_X6_alone_X6 : ∀ w ∈ wsX60, w ∈ wsX6_alone := fun _ h => List.mem_cons_of_mem _ (List.mem_append_left _ (List.mem_append_left _ (List.mem_append_left _ (List.mem_append_right _ h))))
theorem fl_X6_alone_27 : Cond.fieldLink RX6 27 "OrderChains" "live" "LOrderChains$Engine;" ∈ wsX6_alone := List.mem_of_getElem? (i := 4) rfl
theorem fl_X6_alone_137 : Cond.fieldLink RX6 137 "OrderChains$Engine" "channels" "[LOrderChains$Channel;" ∈ wsX6_alone := List.mem_of_getElem? (i := 5) rfl
theorem il_X6_alone_X2 : ∀ w ∈ wsX20, w ∈ wsX6_alone := fun _ h => List.mem_cons_of_mem _ (List.mem_append_left _ (List.mem_append_left _ (List.mem_append_right _ h)))
theorem fl_X6_alone_168 : Cond.fieldLink RX6 168 "OrderChains$Channel" "cellsWritten" "I" ∈ wsX6_alone := List.mem_of_getElem? (i := 6) rfl
theorem il_X6_alone_X1 : ∀ w ∈ wsX10, w ∈ wsX6_alone := fun _ h => List.mem_cons_of_mem _ (List.mem_append_left _ (List.mem_append_right _ h))
theorem xk_X6_alone_113 : Cond.classLink RX6 113 "java/lang/IndexOutOfBoundsException" ∈ wsX6_alone := List.mem_of_getElem? (i := 1) rfl
theorem xi_X6_alone_113 : Cond.initialized "java/lang/IndexOutOfBoundsException" ∈ wsX6_alone := List.mem_of_getElem? (i := 2) rfl
theorem xw_X6_alone_117 : ∀ w ∈ (vx_atS RX6 117 sIOB nms).filter goodWord, w ∈ wsX6_alone := fun _ h => List.mem_cons_of_mem _ (List.mem_append_right _ h)
set_option maxHeartbeats 4000000 in
set_option maxRecDepth 100000 in
/-- alone -/
theorem c_X6_alone (l : Launch) (hst : l.stackTraces = false) (G : vG) (A : Nat → Nat) (ea : Nat → Nat → Nat) (h : Nat) (n : Nat) (e t : vE) (he : eB e) (hh : h < 4294967296) : Kx l G yX6_alone wsX6_alone rX6_alone [.ref (A 0), .int (nI h)] [oO A ea n, eK G (ea 14) e, eK G (ea 15) t] (fun v Y => h < 3 ∧ v = some (.int (nI ((runC 500 (alC h (cpC t e))).2.2.2.2.2.2.2 h 4) - nI (e.2.2.2.2.2.2 h 4))) ∧ Y = [oO A ea n, eK G (ea 14) e, eK G (ea 15) (runC 500 (alC h (cpC t e))).2]) (fun c Y => (c = sIOB ∧ ¬ h < 3) ∧ Y = [oO A ea n, eK G (ea 14) e, eK G (ea 15) t]) 1 6 := by
  refine V_enterX (own := RX6) [some (.ref (A 0)), some (.int (nI h)), none] hst (by decide +kernel) rfl rfl (Nat.le_of_ble_eq_true rfl) rfl (fun Γ hR hT => ?_)
  have hkc : 0 ≤ 1 := Nat.zero_le _
  have hks : 0 ≤ 6 := Nat.zero_le _
  have hmx : 0 + 1 ≤ 1 ∧ 0 + 6 ≤ 6 := ⟨by decide, by decide⟩
  refine V_iload_n (i := 1) dX6_alone_0 rfl rfl ?_
  refine V_callS (As := _) (rest := []) [] (c_X6_isChannel l G (h) hh) vy_X6_isChannel gX6_alone_X6_isChannel rfl rfl rfl rfl ⟨rfl, rfl⟩ ⟨rfl, rfl⟩ ⟨Nat.zero_le _, Nat.zero_le _⟩ rfl dX6_alone_1 (fun v Y hE => ?_)
  obtain ⟨rfl, rfl⟩ := hE
  refine ⟨rfl, ?_⟩
  dsimp only [vfill, List.set_cons_zero, List.set_cons_succ, Option.toList, List.cons_append, List.nil_append, Nat.add_zero]
  refine V_if_ne (tgt := 17) (by split <;> decide) dX6_alone_4 rfl (fun h_4 => ?_) (fun h_4 => ?_)
  · have hz := b01 h_4
    refine V_aload_n (i := 0) dX6_alone_17 rfl rfl ?_
    refine V_get (C := RX6) (T := TX6) (N := 9) (ci := 5) (q := 0) (ref := "OrderChains") 4 rfl il_X6_alone_X6 rfl rfl fl_X6_alone_31 rfl rfl dX6_alone_18 ?_
    refine V_aload_n (i := 0) dX6_alone_21 rfl rfl ?_
    refine V_get (C := RX6) (T := TX6) (N := 9) (ci := 5) (q := 0) (ref := "OrderChains") 3 rfl il_X6_alone_X6 rfl rfl fl_X6_alone_27 rfl rfl dX6_alone_22 ?_
    refine V_callV (C := RX2) (q := 0) (ci := 2) (As := _) (rest := []) [2, 1] (c_X2_copyFromK l G (ea 15) (ea 14) t e) vy_X2_copyFrom gX6_alone_X2_copyFrom rfl rfl rfl rfl rfl rfl rfl ⟨rfl, rfl⟩ ⟨rfl, rfl⟩ ⟨Nat.zero_le _, Nat.zero_le _⟩ rfl dX6_alone_25 (fun v Y hE => ?_)
    obtain ⟨rfl, rfl⟩ := hE
    refine ⟨rfl, ?_⟩
    dsimp only [vfill, List.set_cons_zero, List.set_cons_succ, Option.toList, List.cons_append, List.nil_append, Nat.add_zero]
    refine V_same (X' := [oO A ea n, eK G (ea 14) e, eO (ea 15) (cpC t e).2.2.2.2.2.1, iA G ((ea 15) 1) 96 (cpC t e).1, iA G ((ea 15) 2) 96 (cpC t e).2.1, iA G ((ea 15) 3) 96 (cpC t e).2.2.1, iA G ((ea 15) 4) 96 (cpC t e).2.2.2.1, eC G (ea 15), cX ((ea 15) 6) ((cpC t e).2.2.2.2.2.2 0), cX ((ea 15) 7) ((cpC t e).2.2.2.2.2.2 1), cX ((ea 15) 8) ((cpC t e).2.2.2.2.2.2 2), iA G ((ea 15) 9) 96 (cpC t e).2.2.2.2.1]) (opK (P := [oO A ea n, eK G (ea 14) e]) (Q := []) (a := (ea 15)) (e := (cpC t e))) ?_
    rcases (show h = 0 ∨ h = 1 ∨ h = 2 by omega) with rfl | rfl | rfl
    · refine V_same (X' := [oO A ea n, eK G (ea 14) e, eO (ea 15) (cpC t e).2.2.2.2.2.1, iA G ((ea 15) 1) 96 (cpC t e).1, iA G ((ea 15) 2) 96 (cpC t e).2.1, iA G ((ea 15) 3) 96 (cpC t e).2.2.1, iA G ((ea 15) 4) 96 (cpC t e).2.2.2.1, eC G (ea 15), cX ((ea 15) 6) ((cpC t e).2.2.2.2.2.2 0), cX ((ea 15) 7) ((cpC t e).2.2.2.2.2.2 1), cX ((ea 15) 8) ((cpC t e).2.2.2.2.2.2 2), iA G ((ea 15) 9) 96 (cpC t e).2.2.2.2.1]) (opK (P := [oO A ea n, eK G (ea 14) e]) (Q := []) (a := (ea 15)) (e := (cpC t e))) ?_
      refine V_iconst (v := 0) dX6_alone_28 rfl ?_
      refine V_istore_n (i := 2) dX6_alone_29 rfl rfl rfl ?_
      dsimp only [List.set_cons_zero, List.set_cons_succ]
      refine V_iload_n (i := 2) dX6_alone_30 rfl rfl ?_
      refine V_iconst (v := 3) dX6_alone_31 rfl ?_
      refine V_icmp_ge (tgt := 59) (by omega) (by omega) dX6_alone_32 rfl (fun h_32 => ?_) (fun h_32 => ?_)
      · exfalso; omega
      · refine V_iload_n (i := 2) dX6_alone_35 rfl rfl ?_
        refine V_iload_n (i := 1) dX6_alone_36 rfl rfl ?_
        refine V_icmp_eq (tgt := 53) (by omega) (by omega) dX6_alone_37 rfl (fun h_37 => ?_) (fun h_37 => ?_)
        · refine V_iinc (v := 1) dX6_alone_53 rfl (by decide) rfl rfl ?_
          dsimp only [List.set_cons_zero, List.set_cons_succ]
          refine V_goto (tgt := 30) dX6_alone_56 rfl ?_
          refine V_iload_n (i := 2) dX6_alone_30 rfl rfl ?_
          refine V_iconst (v := 3) dX6_alone_31 rfl ?_
          refine V_icmp_ge (tgt := 59) (by omega) (by omega) dX6_alone_32 rfl (fun h_32_2 => ?_) (fun h_32_2 => ?_)
          · exfalso; omega
          · refine V_iload_n (i := 2) dX6_alone_35 rfl rfl ?_
            refine V_iload_n (i := 1) dX6_alone_36 rfl rfl ?_
            refine V_icmp_eq (tgt := 53) (by omega) (by omega) dX6_alone_37 rfl (fun h_37_2 => ?_) (fun h_37_2 => ?_)
            · exfalso; omega
            · refine V_aload_n (i := 0) dX6_alone_40 rfl rfl ?_
              refine V_get (C := RX6) (T := TX6) (N := 9) (ci := 5) (q := 0) (ref := "OrderChains") 4 rfl il_X6_alone_X6 rfl rfl fl_X6_alone_31 rfl rfl dX6_alone_41 ?_
              refine V_get (C := RX2) (T := TX2) (N := 11) (ci := 2) (q := 2) (ref := "OrderChains$Engine") 4 rfl il_X6_alone_X2 rfl rfl fl_X6_alone_137 rfl rfl dX6_alone_44 ?_
              refine V_iload_n (i := 2) dX6_alone_47 rfl rfl ?_
              refine V_aaldC (q := 7) rfl (by omega) rfl dX6_alone_48 ?_
              refine V_iconst (v := 0) dX6_alone_49 rfl ?_
              refine V_callV (C := RX1) (q := 0) (ci := 1) (As := _) (rest := []) [9] (c_X1_become l G (ea 15 7) 0 ((cpC t e).2.2.2.2.2.2 1)) vy_X1_become gX6_alone_X1_become rfl rfl rfl rfl rfl rfl rfl ⟨rfl, rfl⟩ ⟨rfl, rfl⟩ ⟨Nat.zero_le _, Nat.zero_le _⟩ rfl dX6_alone_50 (fun v Y hE => ?_)
              obtain ⟨rfl, rfl⟩ := hE
              refine ⟨rfl, ?_⟩
              dsimp only [vfill, List.set_cons_zero, List.set_cons_succ, Option.toList, List.cons_append, List.nil_append, Nat.add_zero]
              refine V_iinc (v := 2) dX6_alone_53 rfl (by decide) rfl rfl ?_
              dsimp only [List.set_cons_zero, List.set_cons_succ]
              refine V_goto (tgt := 30) dX6_alone_56 rfl ?_
              refine V_iload_n (i := 2) dX6_alone_30 rfl rfl ?_
              refine V_iconst (v := 3) dX6_alone_31 rfl ?_
              refine V_icmp_ge (tgt := 59) (by omega) (by omega) dX6_alone_32 rfl (fun h_32_3 => ?_) (fun h_32_3 => ?_)
              · exfalso; omega
              · refine V_iload_n (i := 2) dX6_alone_35 rfl rfl ?_
                refine V_iload_n (i := 1) dX6_alone_36 rfl rfl ?_
                refine V_icmp_eq (tgt := 53) (by omega) (by omega) dX6_alone_37 rfl (fun h_37_3 => ?_) (fun h_37_3 => ?_)
                · exfalso; omega
                · refine V_aload_n (i := 0) dX6_alone_40 rfl rfl ?_
                  refine V_get (C := RX6) (T := TX6) (N := 9) (ci := 5) (q := 0) (ref := "OrderChains") 4 rfl il_X6_alone_X6 rfl rfl fl_X6_alone_31 rfl rfl dX6_alone_41 ?_
                  refine V_get (C := RX2) (T := TX2) (N := 11) (ci := 2) (q := 2) (ref := "OrderChains$Engine") 4 rfl il_X6_alone_X2 rfl rfl fl_X6_alone_137 rfl rfl dX6_alone_44 ?_
                  refine V_iload_n (i := 2) dX6_alone_47 rfl rfl ?_
                  refine V_aaldC (q := 7) rfl (by omega) rfl dX6_alone_48 ?_
                  refine V_iconst (v := 0) dX6_alone_49 rfl ?_
                  refine V_callV (C := RX1) (q := 0) (ci := 1) (As := _) (rest := []) [10] (c_X1_become l G (ea 15 8) 0 ((cpC t e).2.2.2.2.2.2 2)) vy_X1_become gX6_alone_X1_become rfl rfl rfl rfl rfl rfl rfl ⟨rfl, rfl⟩ ⟨rfl, rfl⟩ ⟨Nat.zero_le _, Nat.zero_le _⟩ rfl dX6_alone_50 (fun v Y hE => ?_)
                  obtain ⟨rfl, rfl⟩ := hE
                  refine ⟨rfl, ?_⟩
                  dsimp only [vfill, List.set_cons_zero, List.set_cons_succ, Option.toList, List.cons_append, List.nil_append, Nat.add_zero]
                  refine V_iinc (v := 3) dX6_alone_53 rfl (by decide) rfl rfl ?_
                  dsimp only [List.set_cons_zero, List.set_cons_succ]
                  refine V_goto (tgt := 30) dX6_alone_56 rfl ?_
                  refine V_iload_n (i := 2) dX6_alone_30 rfl rfl ?_
                  refine V_iconst (v := 3) dX6_alone_31 rfl ?_
                  refine V_icmp_ge (tgt := 59) (by omega) (by omega) dX6_alone_32 rfl (fun h_32_4 => ?_) (fun h_32_4 => ?_)
                  · refine V_same (X' := [oO A ea n, eK G (ea 14) e, eK G (ea 15) (alC 0 (cpC t e))]) (opK (P := [oO A ea n, eK G (ea 14) e]) (Q := []) (a := (ea 15)) (e := (alC 0 (cpC t e)))).symm ?_
                    refine V_aload_n (i := 0) dX6_alone_59 rfl rfl ?_
                    refine V_get (C := RX6) (T := TX6) (N := 9) (ci := 5) (q := 0) (ref := "OrderChains") 4 rfl il_X6_alone_X6 rfl rfl fl_X6_alone_31 rfl rfl dX6_alone_60 ?_
                    refine V_sipush (v := 500) dX6_alone_63 (by decide) ?_
                    refine V_callV (C := RX2) (q := 0) (ci := 2) (As := _) (rest := []) [2] (c_X2_letTicksGoBy l G (ea 15) (alC 0 (cpC t e)) 500 (by decide) (eB_al (eB_cp he))) vy_X2_letTicksGoBy gX6_alone_X2_letTicksGoBy rfl rfl rfl rfl rfl rfl rfl ⟨rfl, rfl⟩ ⟨rfl, rfl⟩ ⟨Nat.zero_le _, Nat.zero_le _⟩ rfl dX6_alone_66 (fun v Y hE => ?_)
                    obtain ⟨rfl, rfl⟩ := hE
                    refine ⟨rfl, ?_⟩
                    dsimp only [vfill, List.set_cons_zero, List.set_cons_succ, Option.toList, List.cons_append, List.nil_append, Nat.add_zero]
                    refine V_pop dX6_alone_69 rfl ?_
                    refine V_same (X' := [oO A ea n, eK G (ea 14) e, eO (ea 15) (runC 500 (alC 0 (cpC t e))).2.2.2.2.2.2.1, iA G ((ea 15) 1) 96 (runC 500 (alC 0 (cpC t e))).2.1, iA G ((ea 15) 2) 96 (runC 500 (alC 0 (cpC t e))).2.2.1, iA G ((ea 15) 3) 96 (runC 500 (alC 0 (cpC t e))).2.2.2.1, iA G ((ea 15) 4) 96 (runC 500 (alC 0 (cpC t e))).2.2.2.2.1, eC G (ea 15), cX ((ea 15) 6) ((runC 500 (alC 0 (cpC t e))).2.2.2.2.2.2.2 0), cX ((ea 15) 7) ((runC 500 (alC 0 (cpC t e))).2.2.2.2.2.2.2 1), cX ((ea 15) 8) ((runC 500 (alC 0 (cpC t e))).2.2.2.2.2.2.2 2), iA G ((ea 15) 9) 96 (runC 500 (alC 0 (cpC t e))).2.2.2.2.2.1]) (opK (P := [oO A ea n, eK G (ea 14) e]) (Q := []) (a := (ea 15)) (e := (runC 500 (alC 0 (cpC t e))).2)) ?_
                    refine V_same (X' := [oO A ea n, eO (ea 14) e.2.2.2.2.2.1, iA G ((ea 14) 1) 96 e.1, iA G ((ea 14) 2) 96 e.2.1, iA G ((ea 14) 3) 96 e.2.2.1, iA G ((ea 14) 4) 96 e.2.2.2.1, eC G (ea 14), cX ((ea 14) 6) (e.2.2.2.2.2.2 0), cX ((ea 14) 7) (e.2.2.2.2.2.2 1), cX ((ea 14) 8) (e.2.2.2.2.2.2 2), iA G ((ea 14) 9) 96 e.2.2.2.2.1, eO (ea 15) (runC 500 (alC 0 (cpC t e))).2.2.2.2.2.2.1, iA G ((ea 15) 1) 96 (runC 500 (alC 0 (cpC t e))).2.1, iA G ((ea 15) 2) 96 (runC 500 (alC 0 (cpC t e))).2.2.1, iA G ((ea 15) 3) 96 (runC 500 (alC 0 (cpC t e))).2.2.2.1, iA G ((ea 15) 4) 96 (runC 500 (alC 0 (cpC t e))).2.2.2.2.1, eC G (ea 15), cX ((ea 15) 6) ((runC 500 (alC 0 (cpC t e))).2.2.2.2.2.2.2 0), cX ((ea 15) 7) ((runC 500 (alC 0 (cpC t e))).2.2.2.2.2.2.2 1), cX ((ea 15) 8) ((runC 500 (alC 0 (cpC t e))).2.2.2.2.2.2.2 2), iA G ((ea 15) 9) 96 (runC 500 (alC 0 (cpC t e))).2.2.2.2.2.1]) (opK (P := [oO A ea n]) (Q := [eO (ea 15) (runC 500 (alC 0 (cpC t e))).2.2.2.2.2.2.1, iA G ((ea 15) 1) 96 (runC 500 (alC 0 (cpC t e))).2.1, iA G ((ea 15) 2) 96 (runC 500 (alC 0 (cpC t e))).2.2.1, iA G ((ea 15) 3) 96 (runC 500 (alC 0 (cpC t e))).2.2.2.1, iA G ((ea 15) 4) 96 (runC 500 (alC 0 (cpC t e))).2.2.2.2.1, eC G (ea 15), cX ((ea 15) 6) ((runC 500 (alC 0 (cpC t e))).2.2.2.2.2.2.2 0), cX ((ea 15) 7) ((runC 500 (alC 0 (cpC t e))).2.2.2.2.2.2.2 1), cX ((ea 15) 8) ((runC 500 (alC 0 (cpC t e))).2.2.2.2.2.2.2 2), iA G ((ea 15) 9) 96 (runC 500 (alC 0 (cpC t e))).2.2.2.2.2.1]) (a := (ea 14)) (e := e)) ?_
                    refine V_aload_n (i := 0) dX6_alone_70 rfl rfl ?_
                    refine V_get (C := RX6) (T := TX6) (N := 9) (ci := 5) (q := 0) (ref := "OrderChains") 4 rfl il_X6_alone_X6 rfl rfl fl_X6_alone_31 rfl rfl dX6_alone_71 ?_
                    refine V_get (C := RX2) (T := TX2) (N := 11) (ci := 2) (q := 11) (ref := "OrderChains$Engine") 4 rfl il_X6_alone_X2 rfl rfl fl_X6_alone_137 rfl rfl dX6_alone_74 ?_
                    refine V_iload_n (i := 1) dX6_alone_77 rfl rfl ?_
                    refine V_aaldC (q := 16) rfl (by omega) rfl dX6_alone_78 ?_
                    refine V_get (C := RX1) (T := TX1) (N := 13) (ci := 1) (q := 17) (ref := "OrderChains$Channel") 4 rfl il_X6_alone_X1 rfl rfl fl_X6_alone_168 rfl rfl dX6_alone_79 ?_
                    refine V_aload_n (i := 0) dX6_alone_82 rfl rfl ?_
                    refine V_get (C := RX6) (T := TX6) (N := 9) (ci := 5) (q := 0) (ref := "OrderChains") 3 rfl il_X6_alone_X6 rfl rfl fl_X6_alone_27 rfl rfl dX6_alone_83 ?_
                    refine V_get (C := RX2) (T := TX2) (N := 11) (ci := 2) (q := 1) (ref := "OrderChains$Engine") 4 rfl il_X6_alone_X2 rfl rfl fl_X6_alone_137 rfl rfl dX6_alone_86 ?_
                    refine V_iload_n (i := 1) dX6_alone_89 rfl rfl ?_
                    refine V_aaldC (q := 6) rfl (by omega) rfl dX6_alone_90 ?_
                    refine V_get (C := RX1) (T := TX1) (N := 13) (ci := 1) (q := 7) (ref := "OrderChains$Channel") 4 rfl il_X6_alone_X1 rfl rfl fl_X6_alone_168 rfl rfl dX6_alone_91 ?_
                    refine V_isubX dX6_alone_94 ?_
                    refine V_same (X' := [oO A ea n, eK G (ea 14) e, eO (ea 15) (runC 500 (alC 0 (cpC t e))).2.2.2.2.2.2.1, iA G ((ea 15) 1) 96 (runC 500 (alC 0 (cpC t e))).2.1, iA G ((ea 15) 2) 96 (runC 500 (alC 0 (cpC t e))).2.2.1, iA G ((ea 15) 3) 96 (runC 500 (alC 0 (cpC t e))).2.2.2.1, iA G ((ea 15) 4) 96 (runC 500 (alC 0 (cpC t e))).2.2.2.2.1, eC G (ea 15), cX ((ea 15) 6) ((runC 500 (alC 0 (cpC t e))).2.2.2.2.2.2.2 0), cX ((ea 15) 7) ((runC 500 (alC 0 (cpC t e))).2.2.2.2.2.2.2 1), cX ((ea 15) 8) ((runC 500 (alC 0 (cpC t e))).2.2.2.2.2.2.2 2), iA G ((ea 15) 9) 96 (runC 500 (alC 0 (cpC t e))).2.2.2.2.2.1]) (opK (P := [oO A ea n]) (Q := [eO (ea 15) (runC 500 (alC 0 (cpC t e))).2.2.2.2.2.2.1, iA G ((ea 15) 1) 96 (runC 500 (alC 0 (cpC t e))).2.1, iA G ((ea 15) 2) 96 (runC 500 (alC 0 (cpC t e))).2.2.1, iA G ((ea 15) 3) 96 (runC 500 (alC 0 (cpC t e))).2.2.2.1, iA G ((ea 15) 4) 96 (runC 500 (alC 0 (cpC t e))).2.2.2.2.1, eC G (ea 15), cX ((ea 15) 6) ((runC 500 (alC 0 (cpC t e))).2.2.2.2.2.2.2 0), cX ((ea 15) 7) ((runC 500 (alC 0 (cpC t e))).2.2.2.2.2.2.2 1), cX ((ea 15) 8) ((runC 500 (alC 0 (cpC t e))).2.2.2.2.2.2.2 2), iA G ((ea 15) 9) 96 (runC 500 (alC 0 (cpC t e))).2.2.2.2.2.1]) (a := (ea 14)) (e := e)).symm ?_
                    refine V_same (X' := [oO A ea n, eK G (ea 14) e, eK G (ea 15) (runC 500 (alC 0 (cpC t e))).2]) (opK (P := [oO A ea n, eK G (ea 14) e]) (Q := []) (a := (ea 15)) (e := (runC 500 (alC 0 (cpC t e))).2)).symm ?_
                    refine V_iret hR dX6_alone_95 hkc hks ?_
                    exact ⟨hz, rfl, rfl⟩
                  · exfalso; omega
        · exfalso; omega
    · refine V_same (X' := [oO A ea n, eK G (ea 14) e, eO (ea 15) (cpC t e).2.2.2.2.2.1, iA G ((ea 15) 1) 96 (cpC t e).1, iA G ((ea 15) 2) 96 (cpC t e).2.1, iA G ((ea 15) 3) 96 (cpC t e).2.2.1, iA G ((ea 15) 4) 96 (cpC t e).2.2.2.1, eC G (ea 15), cX ((ea 15) 6) ((cpC t e).2.2.2.2.2.2 0), cX ((ea 15) 7) ((cpC t e).2.2.2.2.2.2 1), cX ((ea 15) 8) ((cpC t e).2.2.2.2.2.2 2), iA G ((ea 15) 9) 96 (cpC t e).2.2.2.2.1]) (opK (P := [oO A ea n, eK G (ea 14) e]) (Q := []) (a := (ea 15)) (e := (cpC t e))) ?_
      refine V_iconst (v := 0) dX6_alone_28 rfl ?_
      refine V_istore_n (i := 2) dX6_alone_29 rfl rfl rfl ?_
      dsimp only [List.set_cons_zero, List.set_cons_succ]
      refine V_iload_n (i := 2) dX6_alone_30 rfl rfl ?_
      refine V_iconst (v := 3) dX6_alone_31 rfl ?_
      refine V_icmp_ge (tgt := 59) (by omega) (by omega) dX6_alone_32 rfl (fun h_32 => ?_) (fun h_32 => ?_)
      · exfalso; omega
      · refine V_iload_n (i := 2) dX6_alone_35 rfl rfl ?_
        refine V_iload_n (i := 1) dX6_alone_36 rfl rfl ?_
        refine V_icmp_eq (tgt := 53) (by omega) (by omega) dX6_alone_37 rfl (fun h_37 => ?_) (fun h_37 => ?_)
        · exfalso; omega
        · refine V_aload_n (i := 0) dX6_alone_40 rfl rfl ?_
          refine V_get (C := RX6) (T := TX6) (N := 9) (ci := 5) (q := 0) (ref := "OrderChains") 4 rfl il_X6_alone_X6 rfl rfl fl_X6_alone_31 rfl rfl dX6_alone_41 ?_
          refine V_get (C := RX2) (T := TX2) (N := 11) (ci := 2) (q := 2) (ref := "OrderChains$Engine") 4 rfl il_X6_alone_X2 rfl rfl fl_X6_alone_137 rfl rfl dX6_alone_44 ?_
          refine V_iload_n (i := 2) dX6_alone_47 rfl rfl ?_
          refine V_aaldC (q := 7) rfl (by omega) rfl dX6_alone_48 ?_
          refine V_iconst (v := 0) dX6_alone_49 rfl ?_
          refine V_callV (C := RX1) (q := 0) (ci := 1) (As := _) (rest := []) [8] (c_X1_become l G (ea 15 6) 0 ((cpC t e).2.2.2.2.2.2 0)) vy_X1_become gX6_alone_X1_become rfl rfl rfl rfl rfl rfl rfl ⟨rfl, rfl⟩ ⟨rfl, rfl⟩ ⟨Nat.zero_le _, Nat.zero_le _⟩ rfl dX6_alone_50 (fun v Y hE => ?_)
          obtain ⟨rfl, rfl⟩ := hE
          refine ⟨rfl, ?_⟩
          dsimp only [vfill, List.set_cons_zero, List.set_cons_succ, Option.toList, List.cons_append, List.nil_append, Nat.add_zero]
          refine V_iinc (v := 1) dX6_alone_53 rfl (by decide) rfl rfl ?_
          dsimp only [List.set_cons_zero, List.set_cons_succ]
          refine V_goto (tgt := 30) dX6_alone_56 rfl ?_
          refine V_iload_n (i := 2) dX6_alone_30 rfl rfl ?_
          refine V_iconst (v := 3) dX6_alone_31 rfl ?_
          refine V_icmp_ge (tgt := 59) (by omega) (by omega) dX6_alone_32 rfl (fun h_32_2 => ?_) (fun h_32_2 => ?_)
          · exfalso; omega
          · refine V_iload_n (i := 2) dX6_alone_35 rfl rfl ?_
            refine V_iload_n (i := 1) dX6_alone_36 rfl rfl ?_
            refine V_icmp_eq (tgt := 53) (by omega) (by omega) dX6_alone_37 rfl (fun h_37_2 => ?_) (fun h_37_2 => ?_)
            · refine V_iinc (v := 2) dX6_alone_53 rfl (by decide) rfl rfl ?_
              dsimp only [List.set_cons_zero, List.set_cons_succ]
              refine V_goto (tgt := 30) dX6_alone_56 rfl ?_
              refine V_iload_n (i := 2) dX6_alone_30 rfl rfl ?_
              refine V_iconst (v := 3) dX6_alone_31 rfl ?_
              refine V_icmp_ge (tgt := 59) (by omega) (by omega) dX6_alone_32 rfl (fun h_32_3 => ?_) (fun h_32_3 => ?_)
              · exfalso; omega
              · refine V_iload_n (i := 2) dX6_alone_35 rfl rfl ?_
                refine V_iload_n (i := 1) dX6_alone_36 rfl rfl ?_
                refine V_icmp_eq (tgt := 53) (by omega) (by omega) dX6_alone_37 rfl (fun h_37_3 => ?_) (fun h_37_3 => ?_)
                · exfalso; omega
                · refine V_aload_n (i := 0) dX6_alone_40 rfl rfl ?_
                  refine V_get (C := RX6) (T := TX6) (N := 9) (ci := 5) (q := 0) (ref := "OrderChains") 4 rfl il_X6_alone_X6 rfl rfl fl_X6_alone_31 rfl rfl dX6_alone_41 ?_
                  refine V_get (C := RX2) (T := TX2) (N := 11) (ci := 2) (q := 2) (ref := "OrderChains$Engine") 4 rfl il_X6_alone_X2 rfl rfl fl_X6_alone_137 rfl rfl dX6_alone_44 ?_
                  refine V_iload_n (i := 2) dX6_alone_47 rfl rfl ?_
                  refine V_aaldC (q := 7) rfl (by omega) rfl dX6_alone_48 ?_
                  refine V_iconst (v := 0) dX6_alone_49 rfl ?_
                  refine V_callV (C := RX1) (q := 0) (ci := 1) (As := _) (rest := []) [10] (c_X1_become l G (ea 15 8) 0 ((cpC t e).2.2.2.2.2.2 2)) vy_X1_become gX6_alone_X1_become rfl rfl rfl rfl rfl rfl rfl ⟨rfl, rfl⟩ ⟨rfl, rfl⟩ ⟨Nat.zero_le _, Nat.zero_le _⟩ rfl dX6_alone_50 (fun v Y hE => ?_)
                  obtain ⟨rfl, rfl⟩ := hE
                  refine ⟨rfl, ?_⟩
                  dsimp only [vfill, List.set_cons_zero, List.set_cons_succ, Option.toList, List.cons_append, List.nil_append, Nat.add_zero]
                  refine V_iinc (v := 3) dX6_alone_53 rfl (by decide) rfl rfl ?_
                  dsimp only [List.set_cons_zero, List.set_cons_succ]
                  refine V_goto (tgt := 30) dX6_alone_56 rfl ?_
                  refine V_iload_n (i := 2) dX6_alone_30 rfl rfl ?_
                  refine V_iconst (v := 3) dX6_alone_31 rfl ?_
                  refine V_icmp_ge (tgt := 59) (by omega) (by omega) dX6_alone_32 rfl (fun h_32_4 => ?_) (fun h_32_4 => ?_)
                  · refine V_same (X' := [oO A ea n, eK G (ea 14) e, eK G (ea 15) (alC 1 (cpC t e))]) (opK (P := [oO A ea n, eK G (ea 14) e]) (Q := []) (a := (ea 15)) (e := (alC 1 (cpC t e)))).symm ?_
                    refine V_aload_n (i := 0) dX6_alone_59 rfl rfl ?_
                    refine V_get (C := RX6) (T := TX6) (N := 9) (ci := 5) (q := 0) (ref := "OrderChains") 4 rfl il_X6_alone_X6 rfl rfl fl_X6_alone_31 rfl rfl dX6_alone_60 ?_
                    refine V_sipush (v := 500) dX6_alone_63 (by decide) ?_
                    refine V_callV (C := RX2) (q := 0) (ci := 2) (As := _) (rest := []) [2] (c_X2_letTicksGoBy l G (ea 15) (alC 1 (cpC t e)) 500 (by decide) (eB_al (eB_cp he))) vy_X2_letTicksGoBy gX6_alone_X2_letTicksGoBy rfl rfl rfl rfl rfl rfl rfl ⟨rfl, rfl⟩ ⟨rfl, rfl⟩ ⟨Nat.zero_le _, Nat.zero_le _⟩ rfl dX6_alone_66 (fun v Y hE => ?_)
                    obtain ⟨rfl, rfl⟩ := hE
                    refine ⟨rfl, ?_⟩
                    dsimp only [vfill, List.set_cons_zero, List.set_cons_succ, Option.toList, List.cons_append, List.nil_append, Nat.add_zero]
                    refine V_pop dX6_alone_69 rfl ?_
                    refine V_same (X' := [oO A ea n, eK G (ea 14) e, eO (ea 15) (runC 500 (alC 1 (cpC t e))).2.2.2.2.2.2.1, iA G ((ea 15) 1) 96 (runC 500 (alC 1 (cpC t e))).2.1, iA G ((ea 15) 2) 96 (runC 500 (alC 1 (cpC t e))).2.2.1, iA G ((ea 15) 3) 96 (runC 500 (alC 1 (cpC t e))).2.2.2.1, iA G ((ea 15) 4) 96 (runC 500 (alC 1 (cpC t e))).2.2.2.2.1, eC G (ea 15), cX ((ea 15) 6) ((runC 500 (alC 1 (cpC t e))).2.2.2.2.2.2.2 0), cX ((ea 15) 7) ((runC 500 (alC 1 (cpC t e))).2.2.2.2.2.2.2 1), cX ((ea 15) 8) ((runC 500 (alC 1 (cpC t e))).2.2.2.2.2.2.2 2), iA G ((ea 15) 9) 96 (runC 500 (alC 1 (cpC t e))).2.2.2.2.2.1]) (opK (P := [oO A ea n, eK G (ea 14) e]) (Q := []) (a := (ea 15)) (e := (runC 500 (alC 1 (cpC t e))).2)) ?_
                    refine V_same (X' := [oO A ea n, eO (ea 14) e.2.2.2.2.2.1, iA G ((ea 14) 1) 96 e.1, iA G ((ea 14) 2) 96 e.2.1, iA G ((ea 14) 3) 96 e.2.2.1, iA G ((ea 14) 4) 96 e.2.2.2.1, eC G (ea 14), cX ((ea 14) 6) (e.2.2.2.2.2.2 0), cX ((ea 14) 7) (e.2.2.2.2.2.2 1), cX ((ea 14) 8) (e.2.2.2.2.2.2 2), iA G ((ea 14) 9) 96 e.2.2.2.2.1, eO (ea 15) (runC 500 (alC 1 (cpC t e))).2.2.2.2.2.2.1, iA G ((ea 15) 1) 96 (runC 500 (alC 1 (cpC t e))).2.1, iA G ((ea 15) 2) 96 (runC 500 (alC 1 (cpC t e))).2.2.1, iA G ((ea 15) 3) 96 (runC 500 (alC 1 (cpC t e))).2.2.2.1, iA G ((ea 15) 4) 96 (runC 500 (alC 1 (cpC t e))).2.2.2.2.1, eC G (ea 15), cX ((ea 15) 6) ((runC 500 (alC 1 (cpC t e))).2.2.2.2.2.2.2 0), cX ((ea 15) 7) ((runC 500 (alC 1 (cpC t e))).2.2.2.2.2.2.2 1), cX ((ea 15) 8) ((runC 500 (alC 1 (cpC t e))).2.2.2.2.2.2.2 2), iA G ((ea 15) 9) 96 (runC 500 (alC 1 (cpC t e))).2.2.2.2.2.1]) (opK (P := [oO A ea n]) (Q := [eO (ea 15) (runC 500 (alC 1 (cpC t e))).2.2.2.2.2.2.1, iA G ((ea 15) 1) 96 (runC 500 (alC 1 (cpC t e))).2.1, iA G ((ea 15) 2) 96 (runC 500 (alC 1 (cpC t e))).2.2.1, iA G ((ea 15) 3) 96 (runC 500 (alC 1 (cpC t e))).2.2.2.1, iA G ((ea 15) 4) 96 (runC 500 (alC 1 (cpC t e))).2.2.2.2.1, eC G (ea 15), cX ((ea 15) 6) ((runC 500 (alC 1 (cpC t e))).2.2.2.2.2.2.2 0), cX ((ea 15) 7) ((runC 500 (alC 1 (cpC t e))).2.2.2.2.2.2.2 1), cX ((ea 15) 8) ((runC 500 (alC 1 (cpC t e))).2.2.2.2.2.2.2 2), iA G ((ea 15) 9) 96 (runC 500 (alC 1 (cpC t e))).2.2.2.2.2.1]) (a := (ea 14)) (e := e)) ?_
                    refine V_aload_n (i := 0) dX6_alone_70 rfl rfl ?_
                    refine V_get (C := RX6) (T := TX6) (N := 9) (ci := 5) (q := 0) (ref := "OrderChains") 4 rfl il_X6_alone_X6 rfl rfl fl_X6_alone_31 rfl rfl dX6_alone_71 ?_
                    refine V_get (C := RX2) (T := TX2) (N := 11) (ci := 2) (q := 11) (ref := "OrderChains$Engine") 4 rfl il_X6_alone_X2 rfl rfl fl_X6_alone_137 rfl rfl dX6_alone_74 ?_
                    refine V_iload_n (i := 1) dX6_alone_77 rfl rfl ?_
                    refine V_aaldC (q := 16) rfl (by omega) rfl dX6_alone_78 ?_
                    refine V_get (C := RX1) (T := TX1) (N := 13) (ci := 1) (q := 18) (ref := "OrderChains$Channel") 4 rfl il_X6_alone_X1 rfl rfl fl_X6_alone_168 rfl rfl dX6_alone_79 ?_
                    refine V_aload_n (i := 0) dX6_alone_82 rfl rfl ?_
                    refine V_get (C := RX6) (T := TX6) (N := 9) (ci := 5) (q := 0) (ref := "OrderChains") 3 rfl il_X6_alone_X6 rfl rfl fl_X6_alone_27 rfl rfl dX6_alone_83 ?_
                    refine V_get (C := RX2) (T := TX2) (N := 11) (ci := 2) (q := 1) (ref := "OrderChains$Engine") 4 rfl il_X6_alone_X2 rfl rfl fl_X6_alone_137 rfl rfl dX6_alone_86 ?_
                    refine V_iload_n (i := 1) dX6_alone_89 rfl rfl ?_
                    refine V_aaldC (q := 6) rfl (by omega) rfl dX6_alone_90 ?_
                    refine V_get (C := RX1) (T := TX1) (N := 13) (ci := 1) (q := 8) (ref := "OrderChains$Channel") 4 rfl il_X6_alone_X1 rfl rfl fl_X6_alone_168 rfl rfl dX6_alone_91 ?_
                    refine V_isubX dX6_alone_94 ?_
                    refine V_same (X' := [oO A ea n, eK G (ea 14) e, eO (ea 15) (runC 500 (alC 1 (cpC t e))).2.2.2.2.2.2.1, iA G ((ea 15) 1) 96 (runC 500 (alC 1 (cpC t e))).2.1, iA G ((ea 15) 2) 96 (runC 500 (alC 1 (cpC t e))).2.2.1, iA G ((ea 15) 3) 96 (runC 500 (alC 1 (cpC t e))).2.2.2.1, iA G ((ea 15) 4) 96 (runC 500 (alC 1 (cpC t e))).2.2.2.2.1, eC G (ea 15), cX ((ea 15) 6) ((runC 500 (alC 1 (cpC t e))).2.2.2.2.2.2.2 0), cX ((ea 15) 7) ((runC 500 (alC 1 (cpC t e))).2.2.2.2.2.2.2 1), cX ((ea 15) 8) ((runC 500 (alC 1 (cpC t e))).2.2.2.2.2.2.2 2), iA G ((ea 15) 9) 96 (runC 500 (alC 1 (cpC t e))).2.2.2.2.2.1]) (opK (P := [oO A ea n]) (Q := [eO (ea 15) (runC 500 (alC 1 (cpC t e))).2.2.2.2.2.2.1, iA G ((ea 15) 1) 96 (runC 500 (alC 1 (cpC t e))).2.1, iA G ((ea 15) 2) 96 (runC 500 (alC 1 (cpC t e))).2.2.1, iA G ((ea 15) 3) 96 (runC 500 (alC 1 (cpC t e))).2.2.2.1, iA G ((ea 15) 4) 96 (runC 500 (alC 1 (cpC t e))).2.2.2.2.1, eC G (ea 15), cX ((ea 15) 6) ((runC 500 (alC 1 (cpC t e))).2.2.2.2.2.2.2 0), cX ((ea 15) 7) ((runC 500 (alC 1 (cpC t e))).2.2.2.2.2.2.2 1), cX ((ea 15) 8) ((runC 500 (alC 1 (cpC t e))).2.2.2.2.2.2.2 2), iA G ((ea 15) 9) 96 (runC 500 (alC 1 (cpC t e))).2.2.2.2.2.1]) (a := (ea 14)) (e := e)).symm ?_
                    refine V_same (X' := [oO A ea n, eK G (ea 14) e, eK G (ea 15) (runC 500 (alC 1 (cpC t e))).2]) (opK (P := [oO A ea n, eK G (ea 14) e]) (Q := []) (a := (ea 15)) (e := (runC 500 (alC 1 (cpC t e))).2)).symm ?_
                    refine V_iret hR dX6_alone_95 hkc hks ?_
                    exact ⟨hz, rfl, rfl⟩
                  · exfalso; omega
            · exfalso; omega
    · refine V_same (X' := [oO A ea n, eK G (ea 14) e, eO (ea 15) (cpC t e).2.2.2.2.2.1, iA G ((ea 15) 1) 96 (cpC t e).1, iA G ((ea 15) 2) 96 (cpC t e).2.1, iA G ((ea 15) 3) 96 (cpC t e).2.2.1, iA G ((ea 15) 4) 96 (cpC t e).2.2.2.1, eC G (ea 15), cX ((ea 15) 6) ((cpC t e).2.2.2.2.2.2 0), cX ((ea 15) 7) ((cpC t e).2.2.2.2.2.2 1), cX ((ea 15) 8) ((cpC t e).2.2.2.2.2.2 2), iA G ((ea 15) 9) 96 (cpC t e).2.2.2.2.1]) (opK (P := [oO A ea n, eK G (ea 14) e]) (Q := []) (a := (ea 15)) (e := (cpC t e))) ?_
      refine V_iconst (v := 0) dX6_alone_28 rfl ?_
      refine V_istore_n (i := 2) dX6_alone_29 rfl rfl rfl ?_
      dsimp only [List.set_cons_zero, List.set_cons_succ]
      refine V_iload_n (i := 2) dX6_alone_30 rfl rfl ?_
      refine V_iconst (v := 3) dX6_alone_31 rfl ?_
      refine V_icmp_ge (tgt := 59) (by omega) (by omega) dX6_alone_32 rfl (fun h_32 => ?_) (fun h_32 => ?_)
      · exfalso; omega
      · refine V_iload_n (i := 2) dX6_alone_35 rfl rfl ?_
        refine V_iload_n (i := 1) dX6_alone_36 rfl rfl ?_
        refine V_icmp_eq (tgt := 53) (by omega) (by omega) dX6_alone_37 rfl (fun h_37 => ?_) (fun h_37 => ?_)
        · exfalso; omega
        · refine V_aload_n (i := 0) dX6_alone_40 rfl rfl ?_
          refine V_get (C := RX6) (T := TX6) (N := 9) (ci := 5) (q := 0) (ref := "OrderChains") 4 rfl il_X6_alone_X6 rfl rfl fl_X6_alone_31 rfl rfl dX6_alone_41 ?_
          refine V_get (C := RX2) (T := TX2) (N := 11) (ci := 2) (q := 2) (ref := "OrderChains$Engine") 4 rfl il_X6_alone_X2 rfl rfl fl_X6_alone_137 rfl rfl dX6_alone_44 ?_
          refine V_iload_n (i := 2) dX6_alone_47 rfl rfl ?_
          refine V_aaldC (q := 7) rfl (by omega) rfl dX6_alone_48 ?_
          refine V_iconst (v := 0) dX6_alone_49 rfl ?_
          refine V_callV (C := RX1) (q := 0) (ci := 1) (As := _) (rest := []) [8] (c_X1_become l G (ea 15 6) 0 ((cpC t e).2.2.2.2.2.2 0)) vy_X1_become gX6_alone_X1_become rfl rfl rfl rfl rfl rfl rfl ⟨rfl, rfl⟩ ⟨rfl, rfl⟩ ⟨Nat.zero_le _, Nat.zero_le _⟩ rfl dX6_alone_50 (fun v Y hE => ?_)
          obtain ⟨rfl, rfl⟩ := hE
          refine ⟨rfl, ?_⟩
          dsimp only [vfill, List.set_cons_zero, List.set_cons_succ, Option.toList, List.cons_append, List.nil_append, Nat.add_zero]
          refine V_iinc (v := 1) dX6_alone_53 rfl (by decide) rfl rfl ?_
          dsimp only [List.set_cons_zero, List.set_cons_succ]
          refine V_goto (tgt := 30) dX6_alone_56 rfl ?_
          refine V_iload_n (i := 2) dX6_alone_30 rfl rfl ?_
          refine V_iconst (v := 3) dX6_alone_31 rfl ?_
          refine V_icmp_ge (tgt := 59) (by omega) (by omega) dX6_alone_32 rfl (fun h_32_2 => ?_) (fun h_32_2 => ?_)
          · exfalso; omega
          · refine V_iload_n (i := 2) dX6_alone_35 rfl rfl ?_
            refine V_iload_n (i := 1) dX6_alone_36 rfl rfl ?_
            refine V_icmp_eq (tgt := 53) (by omega) (by omega) dX6_alone_37 rfl (fun h_37_2 => ?_) (fun h_37_2 => ?_)
            · exfalso; omega
            · refine V_aload_n (i := 0) dX6_alone_40 rfl rfl ?_
              refine V_get (C := RX6) (T := TX6) (N := 9) (ci := 5) (q := 0) (ref := "OrderChains") 4 rfl il_X6_alone_X6 rfl rfl fl_X6_alone_31 rfl rfl dX6_alone_41 ?_
              refine V_get (C := RX2) (T := TX2) (N := 11) (ci := 2) (q := 2) (ref := "OrderChains$Engine") 4 rfl il_X6_alone_X2 rfl rfl fl_X6_alone_137 rfl rfl dX6_alone_44 ?_
              refine V_iload_n (i := 2) dX6_alone_47 rfl rfl ?_
              refine V_aaldC (q := 7) rfl (by omega) rfl dX6_alone_48 ?_
              refine V_iconst (v := 0) dX6_alone_49 rfl ?_
              refine V_callV (C := RX1) (q := 0) (ci := 1) (As := _) (rest := []) [9] (c_X1_become l G (ea 15 7) 0 ((cpC t e).2.2.2.2.2.2 1)) vy_X1_become gX6_alone_X1_become rfl rfl rfl rfl rfl rfl rfl ⟨rfl, rfl⟩ ⟨rfl, rfl⟩ ⟨Nat.zero_le _, Nat.zero_le _⟩ rfl dX6_alone_50 (fun v Y hE => ?_)
              obtain ⟨rfl, rfl⟩ := hE
              refine ⟨rfl, ?_⟩
              dsimp only [vfill, List.set_cons_zero, List.set_cons_succ, Option.toList, List.cons_append, List.nil_append, Nat.add_zero]
              refine V_iinc (v := 2) dX6_alone_53 rfl (by decide) rfl rfl ?_
              dsimp only [List.set_cons_zero, List.set_cons_succ]
              refine V_goto (tgt := 30) dX6_alone_56 rfl ?_
              refine V_iload_n (i := 2) dX6_alone_30 rfl rfl ?_
              refine V_iconst (v := 3) dX6_alone_31 rfl ?_
              refine V_icmp_ge (tgt := 59) (by omega) (by omega) dX6_alone_32 rfl (fun h_32_3 => ?_) (fun h_32_3 => ?_)
              · exfalso; omega
              · refine V_iload_n (i := 2) dX6_alone_35 rfl rfl ?_
                refine V_iload_n (i := 1) dX6_alone_36 rfl rfl ?_
                refine V_icmp_eq (tgt := 53) (by omega) (by omega) dX6_alone_37 rfl (fun h_37_3 => ?_) (fun h_37_3 => ?_)
                · refine V_iinc (v := 3) dX6_alone_53 rfl (by decide) rfl rfl ?_
                  dsimp only [List.set_cons_zero, List.set_cons_succ]
                  refine V_goto (tgt := 30) dX6_alone_56 rfl ?_
                  refine V_iload_n (i := 2) dX6_alone_30 rfl rfl ?_
                  refine V_iconst (v := 3) dX6_alone_31 rfl ?_
                  refine V_icmp_ge (tgt := 59) (by omega) (by omega) dX6_alone_32 rfl (fun h_32_4 => ?_) (fun h_32_4 => ?_)
                  · refine V_same (X' := [oO A ea n, eK G (ea 14) e, eK G (ea 15) (alC 2 (cpC t e))]) (opK (P := [oO A ea n, eK G (ea 14) e]) (Q := []) (a := (ea 15)) (e := (alC 2 (cpC t e)))).symm ?_
                    refine V_aload_n (i := 0) dX6_alone_59 rfl rfl ?_
                    refine V_get (C := RX6) (T := TX6) (N := 9) (ci := 5) (q := 0) (ref := "OrderChains") 4 rfl il_X6_alone_X6 rfl rfl fl_X6_alone_31 rfl rfl dX6_alone_60 ?_
                    refine V_sipush (v := 500) dX6_alone_63 (by decide) ?_
                    refine V_callV (C := RX2) (q := 0) (ci := 2) (As := _) (rest := []) [2] (c_X2_letTicksGoBy l G (ea 15) (alC 2 (cpC t e)) 500 (by decide) (eB_al (eB_cp he))) vy_X2_letTicksGoBy gX6_alone_X2_letTicksGoBy rfl rfl rfl rfl rfl rfl rfl ⟨rfl, rfl⟩ ⟨rfl, rfl⟩ ⟨Nat.zero_le _, Nat.zero_le _⟩ rfl dX6_alone_66 (fun v Y hE => ?_)
                    obtain ⟨rfl, rfl⟩ := hE
                    refine ⟨rfl, ?_⟩
                    dsimp only [vfill, List.set_cons_zero, List.set_cons_succ, Option.toList, List.cons_append, List.nil_append, Nat.add_zero]
                    refine V_pop dX6_alone_69 rfl ?_
                    refine V_same (X' := [oO A ea n, eK G (ea 14) e, eO (ea 15) (runC 500 (alC 2 (cpC t e))).2.2.2.2.2.2.1, iA G ((ea 15) 1) 96 (runC 500 (alC 2 (cpC t e))).2.1, iA G ((ea 15) 2) 96 (runC 500 (alC 2 (cpC t e))).2.2.1, iA G ((ea 15) 3) 96 (runC 500 (alC 2 (cpC t e))).2.2.2.1, iA G ((ea 15) 4) 96 (runC 500 (alC 2 (cpC t e))).2.2.2.2.1, eC G (ea 15), cX ((ea 15) 6) ((runC 500 (alC 2 (cpC t e))).2.2.2.2.2.2.2 0), cX ((ea 15) 7) ((runC 500 (alC 2 (cpC t e))).2.2.2.2.2.2.2 1), cX ((ea 15) 8) ((runC 500 (alC 2 (cpC t e))).2.2.2.2.2.2.2 2), iA G ((ea 15) 9) 96 (runC 500 (alC 2 (cpC t e))).2.2.2.2.2.1]) (opK (P := [oO A ea n, eK G (ea 14) e]) (Q := []) (a := (ea 15)) (e := (runC 500 (alC 2 (cpC t e))).2)) ?_
                    refine V_same (X' := [oO A ea n, eO (ea 14) e.2.2.2.2.2.1, iA G ((ea 14) 1) 96 e.1, iA G ((ea 14) 2) 96 e.2.1, iA G ((ea 14) 3) 96 e.2.2.1, iA G ((ea 14) 4) 96 e.2.2.2.1, eC G (ea 14), cX ((ea 14) 6) (e.2.2.2.2.2.2 0), cX ((ea 14) 7) (e.2.2.2.2.2.2 1), cX ((ea 14) 8) (e.2.2.2.2.2.2 2), iA G ((ea 14) 9) 96 e.2.2.2.2.1, eO (ea 15) (runC 500 (alC 2 (cpC t e))).2.2.2.2.2.2.1, iA G ((ea 15) 1) 96 (runC 500 (alC 2 (cpC t e))).2.1, iA G ((ea 15) 2) 96 (runC 500 (alC 2 (cpC t e))).2.2.1, iA G ((ea 15) 3) 96 (runC 500 (alC 2 (cpC t e))).2.2.2.1, iA G ((ea 15) 4) 96 (runC 500 (alC 2 (cpC t e))).2.2.2.2.1, eC G (ea 15), cX ((ea 15) 6) ((runC 500 (alC 2 (cpC t e))).2.2.2.2.2.2.2 0), cX ((ea 15) 7) ((runC 500 (alC 2 (cpC t e))).2.2.2.2.2.2.2 1), cX ((ea 15) 8) ((runC 500 (alC 2 (cpC t e))).2.2.2.2.2.2.2 2), iA G ((ea 15) 9) 96 (runC 500 (alC 2 (cpC t e))).2.2.2.2.2.1]) (opK (P := [oO A ea n]) (Q := [eO (ea 15) (runC 500 (alC 2 (cpC t e))).2.2.2.2.2.2.1, iA G ((ea 15) 1) 96 (runC 500 (alC 2 (cpC t e))).2.1, iA G ((ea 15) 2) 96 (runC 500 (alC 2 (cpC t e))).2.2.1, iA G ((ea 15) 3) 96 (runC 500 (alC 2 (cpC t e))).2.2.2.1, iA G ((ea 15) 4) 96 (runC 500 (alC 2 (cpC t e))).2.2.2.2.1, eC G (ea 15), cX ((ea 15) 6) ((runC 500 (alC 2 (cpC t e))).2.2.2.2.2.2.2 0), cX ((ea 15) 7) ((runC 500 (alC 2 (cpC t e))).2.2.2.2.2.2.2 1), cX ((ea 15) 8) ((runC 500 (alC 2 (cpC t e))).2.2.2.2.2.2.2 2), iA G ((ea 15) 9) 96 (runC 500 (alC 2 (cpC t e))).2.2.2.2.2.1]) (a := (ea 14)) (e := e)) ?_
                    refine V_aload_n (i := 0) dX6_alone_70 rfl rfl ?_
                    refine V_get (C := RX6) (T := TX6) (N := 9) (ci := 5) (q := 0) (ref := "OrderChains") 4 rfl il_X6_alone_X6 rfl rfl fl_X6_alone_31 rfl rfl dX6_alone_71 ?_
                    refine V_get (C := RX2) (T := TX2) (N := 11) (ci := 2) (q := 11) (ref := "OrderChains$Engine") 4 rfl il_X6_alone_X2 rfl rfl fl_X6_alone_137 rfl rfl dX6_alone_74 ?_
                    refine V_iload_n (i := 1) dX6_alone_77 rfl rfl ?_
                    refine V_aaldC (q := 16) rfl (by omega) rfl dX6_alone_78 ?_
                    refine V_get (C := RX1) (T := TX1) (N := 13) (ci := 1) (q := 19) (ref := "OrderChains$Channel") 4 rfl il_X6_alone_X1 rfl rfl fl_X6_alone_168 rfl rfl dX6_alone_79 ?_
                    refine V_aload_n (i := 0) dX6_alone_82 rfl rfl ?_
                    refine V_get (C := RX6) (T := TX6) (N := 9) (ci := 5) (q := 0) (ref := "OrderChains") 3 rfl il_X6_alone_X6 rfl rfl fl_X6_alone_27 rfl rfl dX6_alone_83 ?_
                    refine V_get (C := RX2) (T := TX2) (N := 11) (ci := 2) (q := 1) (ref := "OrderChains$Engine") 4 rfl il_X6_alone_X2 rfl rfl fl_X6_alone_137 rfl rfl dX6_alone_86 ?_
                    refine V_iload_n (i := 1) dX6_alone_89 rfl rfl ?_
                    refine V_aaldC (q := 6) rfl (by omega) rfl dX6_alone_90 ?_
                    refine V_get (C := RX1) (T := TX1) (N := 13) (ci := 1) (q := 9) (ref := "OrderChains$Channel") 4 rfl il_X6_alone_X1 rfl rfl fl_X6_alone_168 rfl rfl dX6_alone_91 ?_
                    refine V_isubX dX6_alone_94 ?_
                    refine V_same (X' := [oO A ea n, eK G (ea 14) e, eO (ea 15) (runC 500 (alC 2 (cpC t e))).2.2.2.2.2.2.1, iA G ((ea 15) 1) 96 (runC 500 (alC 2 (cpC t e))).2.1, iA G ((ea 15) 2) 96 (runC 500 (alC 2 (cpC t e))).2.2.1, iA G ((ea 15) 3) 96 (runC 500 (alC 2 (cpC t e))).2.2.2.1, iA G ((ea 15) 4) 96 (runC 500 (alC 2 (cpC t e))).2.2.2.2.1, eC G (ea 15), cX ((ea 15) 6) ((runC 500 (alC 2 (cpC t e))).2.2.2.2.2.2.2 0), cX ((ea 15) 7) ((runC 500 (alC 2 (cpC t e))).2.2.2.2.2.2.2 1), cX ((ea 15) 8) ((runC 500 (alC 2 (cpC t e))).2.2.2.2.2.2.2 2), iA G ((ea 15) 9) 96 (runC 500 (alC 2 (cpC t e))).2.2.2.2.2.1]) (opK (P := [oO A ea n]) (Q := [eO (ea 15) (runC 500 (alC 2 (cpC t e))).2.2.2.2.2.2.1, iA G ((ea 15) 1) 96 (runC 500 (alC 2 (cpC t e))).2.1, iA G ((ea 15) 2) 96 (runC 500 (alC 2 (cpC t e))).2.2.1, iA G ((ea 15) 3) 96 (runC 500 (alC 2 (cpC t e))).2.2.2.1, iA G ((ea 15) 4) 96 (runC 500 (alC 2 (cpC t e))).2.2.2.2.1, eC G (ea 15), cX ((ea 15) 6) ((runC 500 (alC 2 (cpC t e))).2.2.2.2.2.2.2 0), cX ((ea 15) 7) ((runC 500 (alC 2 (cpC t e))).2.2.2.2.2.2.2 1), cX ((ea 15) 8) ((runC 500 (alC 2 (cpC t e))).2.2.2.2.2.2.2 2), iA G ((ea 15) 9) 96 (runC 500 (alC 2 (cpC t e))).2.2.2.2.2.1]) (a := (ea 14)) (e := e)).symm ?_
                    refine V_same (X' := [oO A ea n, eK G (ea 14) e, eK G (ea 15) (runC 500 (alC 2 (cpC t e))).2]) (opK (P := [oO A ea n, eK G (ea 14) e]) (Q := []) (a := (ea 15)) (e := (runC 500 (alC 2 (cpC t e))).2)).symm ?_
                    refine V_iret hR dX6_alone_95 hkc hks ?_
                    exact ⟨hz, rfl, rfl⟩
                  · exfalso; omega
                · exfalso; omega
  · refine V_IOB (is := 135) (text := "no such channel") hT rfl xk_X6_alone_113 xi_X6_alone_113 xw_X6_alone_117 (List.mem_of_getElem? (i := 3) rfl) ⟨rfl, rfl⟩ hmx hmx dX6_alone_7 dX6_alone_10 dX6_alone_11 dX6_alone_13 dX6_alone_16 ?_
    exact ⟨⟨rfl, b00 h_4⟩, rfl⟩

abbrev rX6_save : Room := { frames := 6, cells := 1, slots := 6, locals := 92 }
theorem vy_X6_save : vY yX6_save wsX6_save cX6_save 2 (some .int) 1 := ⟨⟨_, rfl⟩, by decide +kernel, by decide +kernel, by decide +kernel⟩
theorem xk_X6_save_113 : Cond.classLink RX6 113 "java/lang/IndexOutOfBoundsException" ∈ wsX6_save := List.mem_of_getElem? (i := 1) rfl
theorem xi_X6_save_113 : Cond.initialized "java/lang/IndexOutOfBoundsException" ∈ wsX6_save := List.mem_of_getElem? (i := 2) rfl
theorem xw_X6_save_117 : ∀ w ∈ (vx_atS RX6 117 sIOB nms).filter goodWord, w ∈ wsX6_save := fun _ h => List.mem_cons_of_mem _ (List.mem_append_right _ h)
theorem fl_X6_save_41 : Cond.fieldLink RX6 41 "OrderChains" "slots" "[LOrderChains$Engine;" ∈ wsX6_save := List.mem_of_getElem? (i := 3) rfl
theorem il_X6_save_X6 : ∀ w ∈ wsX60, w ∈ wsX6_save := fun _ h => List.mem_cons_of_mem _ (List.mem_append_left _ (List.mem_append_left _ (List.mem_append_left _ (List.mem_append_right _ h))))
theorem fl_X6_save_27 : Cond.fieldLink RX6 27 "OrderChains" "live" "LOrderChains$Engine;" ∈ wsX6_save := List.mem_of_getElem? (i := 4) rfl
theorem fl_X6_save_45 : Cond.fieldLink RX6 45 "OrderChains" "slotFilled" "[Z" ∈ wsX6_save := List.mem_of_getElem? (i := 5) rfl
theorem fl_X6_save_85 : Cond.fieldLink RX6 85 "OrderChains$Engine" "ticks" "I" ∈ wsX6_save := List.mem_of_getElem? (i := 6) rfl
theorem il_X6_save_X2 : ∀ w ∈ wsX20, w ∈ wsX6_save := fun _ h => List.mem_cons_of_mem _ (List.mem_append_left _ (List.mem_append_left _ (List.mem_append_right _ h)))
set_option maxHeartbeats 4000000 in
set_option maxRecDepth 100000 in
/-- save -/
theorem c_X6_save (l : Launch) (hst : l.stackTraces = false) (G : vG) (A : Nat → Nat) (ea : Nat → Nat → Nat) (fl : Nat → Nat) (n h : Nat) (e s0 s1 : vE) (hh : h < 4294967296) : Kx l G yX6_save wsX6_save rX6_save [.ref (A 0), .int (nI h)] [oO A ea n, sA G A ea, zA G (A 5) 2 fl, eK G (ea 16) s0, eK G (ea 17) s1, eK G (ea 14) e] (fun v Y => h < 2 ∧ v = some (.int (nI (e.2.2.2.2.2.1 1))) ∧ Y = [oO A ea n, sA G A ea, zA G (A 5) 2 (va_up fl h 1), eK G (ea 16) (if h = 0 then cpC s0 e else s0), eK G (ea 17) (if h = 0 then s1 else cpC s1 e), eK G (ea 14) e]) (fun c Y => (c = sIOB ∧ ¬ h < 2) ∧ Y = [oO A ea n, sA G A ea, zA G (A 5) 2 fl, eK G (ea 16) s0, eK G (ea 17) s1, eK G (ea 14) e]) 1 6 := by
  refine V_enterX (own := RX6) [some (.ref (A 0)), some (.int (nI h))] hst (by decide +kernel) rfl rfl (Nat.le_of_ble_eq_true rfl) rfl (fun Γ hR hT => ?_)
  have hkc : 0 ≤ 1 := Nat.zero_le _
  have hks : 0 ≤ 6 := Nat.zero_le _
  have hmx : 0 + 1 ≤ 1 ∧ 0 + 6 ≤ 6 := ⟨by decide, by decide⟩
  refine V_iload_n (i := 1) dX6_save_0 rfl rfl ?_
  refine V_if_lt (tgt := 9) hh dX6_save_1 rfl (fun h_1 => ?_) (fun h_1 => ?_)
  · refine V_IOBW (is := 269) (text := "no such save slot") hT rfl xk_X6_save_113 xi_X6_save_113 xw_X6_save_117 (List.mem_of_getElem? (i := 17) rfl) ⟨rfl, rfl⟩ hmx hmx dX6_save_9 dX6_save_12 dX6_save_13 dX6_save_16 dX6_save_19 ?_
    exact ⟨⟨rfl, by omega⟩, rfl⟩
  · refine V_iload_n (i := 1) dX6_save_4 rfl rfl ?_
    refine V_iconst (v := 2) dX6_save_5 rfl ?_
    refine V_icmp_ltA (tgt := 20) hh (by omega) dX6_save_6 rfl (fun h_6 => ?_) (fun h_6 => ?_)
    · rcases (show h = 0 ∨ h = 1 by omega) with rfl | rfl
      · refine V_aload_n (i := 0) dX6_save_20 rfl rfl ?_
        refine V_get (C := RX6) (T := TX6) (N := 9) (ci := 5) (q := 0) (ref := "OrderChains") 6 rfl il_X6_save_X6 rfl rfl fl_X6_save_41 rfl rfl dX6_save_21 ?_
        refine V_iload_n (i := 1) dX6_save_24 rfl rfl ?_
        refine V_aaldE (q := 1) rfl (by omega) rfl dX6_save_25 ?_
        refine V_aload_n (i := 0) dX6_save_26 rfl rfl ?_
        refine V_get (C := RX6) (T := TX6) (N := 9) (ci := 5) (q := 0) (ref := "OrderChains") 3 rfl il_X6_save_X6 rfl rfl fl_X6_save_27 rfl rfl dX6_save_27 ?_
        refine V_callV (C := RX2) (q := 0) (ci := 2) (As := _) (rest := []) [3, 5] (c_X2_copyFromK l G (ea 16) (ea 14) s0 e) vy_X2_copyFrom gX6_save_X2_copyFrom rfl rfl rfl rfl rfl rfl rfl ⟨rfl, rfl⟩ ⟨rfl, rfl⟩ ⟨Nat.zero_le _, Nat.zero_le _⟩ rfl dX6_save_30 (fun v Y hE => ?_)
        obtain ⟨rfl, rfl⟩ := hE
        refine ⟨rfl, ?_⟩
        dsimp only [vfill, List.set_cons_zero, List.set_cons_succ, Option.toList, List.cons_append, List.nil_append, Nat.add_zero]
        refine V_aload_n (i := 0) dX6_save_33 rfl rfl ?_
        refine V_get (C := RX6) (T := TX6) (N := 9) (ci := 5) (q := 0) (ref := "OrderChains") 7 rfl il_X6_save_X6 rfl rfl fl_X6_save_45 rfl rfl dX6_save_34 ?_
        refine V_iload_n (i := 1) dX6_save_37 rfl rfl ?_
        refine V_iconst (v := 1) dX6_save_38 rfl ?_
        refine V_zast (q := 2) rfl (by omega) rfl (by omega) dX6_save_39 ?_
        dsimp only [List.set_cons_zero, List.set_cons_succ]
        refine V_same (X' := [oO A ea n, sA G A ea, zA G (A 5) 2 (va_up fl 0 1), eK G (ea 16) (cpC s0 e), eK G (ea 17) s1, eO (ea 14) e.2.2.2.2.2.1, iA G ((ea 14) 1) 96 e.1, iA G ((ea 14) 2) 96 e.2.1, iA G ((ea 14) 3) 96 e.2.2.1, iA G ((ea 14) 4) 96 e.2.2.2.1, eC G (ea 14), cX ((ea 14) 6) (e.2.2.2.2.2.2 0), cX ((ea 14) 7) (e.2.2.2.2.2.2 1), cX ((ea 14) 8) (e.2.2.2.2.2.2 2), iA G ((ea 14) 9) 96 e.2.2.2.2.1]) (opK (P := [oO A ea n, sA G A ea, zA G (A 5) 2 (va_up fl 0 1), eK G (ea 16) (cpC s0 e), eK G (ea 17) s1]) (Q := []) (a := (ea 14)) (e := e)) ?_
        refine V_aload_n (i := 0) dX6_save_40 rfl rfl ?_
        refine V_get (C := RX6) (T := TX6) (N := 9) (ci := 5) (q := 0) (ref := "OrderChains") 3 rfl il_X6_save_X6 rfl rfl fl_X6_save_27 rfl rfl dX6_save_41 ?_
        refine V_get (C := RX2) (T := TX2) (N := 11) (ci := 2) (q := 5) (ref := "OrderChains$Engine") 6 rfl il_X6_save_X2 rfl rfl fl_X6_save_85 rfl rfl dX6_save_44 ?_
        refine V_same (X' := [oO A ea n, sA G A ea, zA G (A 5) 2 (va_up fl 0 1), eK G (ea 16) (cpC s0 e), eK G (ea 17) s1, eK G (ea 14) e]) (opK (P := [oO A ea n, sA G A ea, zA G (A 5) 2 (va_up fl 0 1), eK G (ea 16) (cpC s0 e), eK G (ea 17) s1]) (Q := []) (a := (ea 14)) (e := e)).symm ?_
        refine V_iret hR dX6_save_47 hkc hks ?_
        exact ⟨by decide, rfl, rfl⟩
      · refine V_aload_n (i := 0) dX6_save_20 rfl rfl ?_
        refine V_get (C := RX6) (T := TX6) (N := 9) (ci := 5) (q := 0) (ref := "OrderChains") 6 rfl il_X6_save_X6 rfl rfl fl_X6_save_41 rfl rfl dX6_save_21 ?_
        refine V_iload_n (i := 1) dX6_save_24 rfl rfl ?_
        refine V_aaldE (q := 1) rfl (by omega) rfl dX6_save_25 ?_
        refine V_aload_n (i := 0) dX6_save_26 rfl rfl ?_
        refine V_get (C := RX6) (T := TX6) (N := 9) (ci := 5) (q := 0) (ref := "OrderChains") 3 rfl il_X6_save_X6 rfl rfl fl_X6_save_27 rfl rfl dX6_save_27 ?_
        refine V_callV (C := RX2) (q := 0) (ci := 2) (As := _) (rest := []) [4, 5] (c_X2_copyFromK l G (ea 17) (ea 14) s1 e) vy_X2_copyFrom gX6_save_X2_copyFrom rfl rfl rfl rfl rfl rfl rfl ⟨rfl, rfl⟩ ⟨rfl, rfl⟩ ⟨Nat.zero_le _, Nat.zero_le _⟩ rfl dX6_save_30 (fun v Y hE => ?_)
        obtain ⟨rfl, rfl⟩ := hE
        refine ⟨rfl, ?_⟩
        dsimp only [vfill, List.set_cons_zero, List.set_cons_succ, Option.toList, List.cons_append, List.nil_append, Nat.add_zero]
        refine V_aload_n (i := 0) dX6_save_33 rfl rfl ?_
        refine V_get (C := RX6) (T := TX6) (N := 9) (ci := 5) (q := 0) (ref := "OrderChains") 7 rfl il_X6_save_X6 rfl rfl fl_X6_save_45 rfl rfl dX6_save_34 ?_
        refine V_iload_n (i := 1) dX6_save_37 rfl rfl ?_
        refine V_iconst (v := 1) dX6_save_38 rfl ?_
        refine V_zast (q := 2) rfl (by omega) rfl (by omega) dX6_save_39 ?_
        dsimp only [List.set_cons_zero, List.set_cons_succ]
        refine V_same (X' := [oO A ea n, sA G A ea, zA G (A 5) 2 (va_up fl 1 1), eK G (ea 16) s0, eK G (ea 17) (cpC s1 e), eO (ea 14) e.2.2.2.2.2.1, iA G ((ea 14) 1) 96 e.1, iA G ((ea 14) 2) 96 e.2.1, iA G ((ea 14) 3) 96 e.2.2.1, iA G ((ea 14) 4) 96 e.2.2.2.1, eC G (ea 14), cX ((ea 14) 6) (e.2.2.2.2.2.2 0), cX ((ea 14) 7) (e.2.2.2.2.2.2 1), cX ((ea 14) 8) (e.2.2.2.2.2.2 2), iA G ((ea 14) 9) 96 e.2.2.2.2.1]) (opK (P := [oO A ea n, sA G A ea, zA G (A 5) 2 (va_up fl 1 1), eK G (ea 16) s0, eK G (ea 17) (cpC s1 e)]) (Q := []) (a := (ea 14)) (e := e)) ?_
        refine V_aload_n (i := 0) dX6_save_40 rfl rfl ?_
        refine V_get (C := RX6) (T := TX6) (N := 9) (ci := 5) (q := 0) (ref := "OrderChains") 3 rfl il_X6_save_X6 rfl rfl fl_X6_save_27 rfl rfl dX6_save_41 ?_
        refine V_get (C := RX2) (T := TX2) (N := 11) (ci := 2) (q := 5) (ref := "OrderChains$Engine") 6 rfl il_X6_save_X2 rfl rfl fl_X6_save_85 rfl rfl dX6_save_44 ?_
        refine V_same (X' := [oO A ea n, sA G A ea, zA G (A 5) 2 (va_up fl 1 1), eK G (ea 16) s0, eK G (ea 17) (cpC s1 e), eK G (ea 14) e]) (opK (P := [oO A ea n, sA G A ea, zA G (A 5) 2 (va_up fl 1 1), eK G (ea 16) s0, eK G (ea 17) (cpC s1 e)]) (Q := []) (a := (ea 14)) (e := e)).symm ?_
        refine V_iret hR dX6_save_47 hkc hks ?_
        exact ⟨by decide, rfl, rfl⟩
    · refine V_IOBW (is := 269) (text := "no such save slot") hT rfl xk_X6_save_113 xi_X6_save_113 xw_X6_save_117 (List.mem_of_getElem? (i := 17) rfl) ⟨rfl, rfl⟩ hmx hmx dX6_save_9 dX6_save_12 dX6_save_13 dX6_save_16 dX6_save_19 ?_
      exact ⟨⟨rfl, by omega⟩, rfl⟩

abbrev rX6_restore : Room := { frames := 6, cells := 1, slots := 6, locals := 92 }
theorem vy_X6_restore : vY yX6_restore wsX6_restore cX6_restore 2 (some .int) 1 := ⟨⟨_, rfl⟩, by decide +kernel, by decide +kernel, by decide +kernel⟩
theorem xk_X6_restore_113 : Cond.classLink RX6 113 "java/lang/IndexOutOfBoundsException" ∈ wsX6_restore := List.mem_of_getElem? (i := 1) rfl
theorem xi_X6_restore_113 : Cond.initialized "java/lang/IndexOutOfBoundsException" ∈ wsX6_restore := List.mem_of_getElem? (i := 2) rfl
theorem xw_X6_restore_117 : ∀ w ∈ (vx_atS RX6 117 sIOB nms).filter goodWord, w ∈ wsX6_restore := fun _ h => List.mem_cons_of_mem _ (List.mem_append_left _ (List.mem_append_right _ h))
theorem fl_X6_restore_45 : Cond.fieldLink RX6 45 "OrderChains" "slotFilled" "[Z" ∈ wsX6_restore := List.mem_of_getElem? (i := 5) rfl
theorem il_X6_restore_X6 : ∀ w ∈ wsX60, w ∈ wsX6_restore := fun _ h => List.mem_cons_of_mem _ (List.mem_append_left _ (List.mem_append_left _ (List.mem_append_left _ (List.mem_append_left _ (List.mem_append_left _ (List.mem_append_right _ h))))))
theorem fl_X6_restore_27 : Cond.fieldLink RX6 27 "OrderChains" "live" "LOrderChains$Engine;" ∈ wsX6_restore := List.mem_of_getElem? (i := 6) rfl
theorem fl_X6_restore_41 : Cond.fieldLink RX6 41 "OrderChains" "slots" "[LOrderChains$Engine;" ∈ wsX6_restore := List.mem_of_getElem? (i := 7) rfl
theorem fl_X6_restore_37 : Cond.fieldLink RX6 37 "OrderChains" "history" "LOrderChains$History;" ∈ wsX6_restore := List.mem_of_getElem? (i := 8) rfl
theorem fl_X6_restore_85 : Cond.fieldLink RX6 85 "OrderChains$Engine" "ticks" "I" ∈ wsX6_restore := List.mem_of_getElem? (i := 9) rfl
theorem il_X6_restore_X2 : ∀ w ∈ wsX20, w ∈ wsX6_restore := fun _ h => List.mem_cons_of_mem _ (List.mem_append_left _ (List.mem_append_left _ (List.mem_append_left _ (List.mem_append_left _ (List.mem_append_right _ h)))))
theorem xk_X6_restore_63 : Cond.classLink RX6 63 "java/lang/IllegalStateException" ∈ wsX6_restore := List.mem_of_getElem? (i := 3) rfl
theorem xi_X6_restore_63 : Cond.initialized "java/lang/IllegalStateException" ∈ wsX6_restore := List.mem_of_getElem? (i := 4) rfl
theorem xw_X6_restore_67 : ∀ w ∈ (vx_atS RX6 67 sISE nms).filter goodWord, w ∈ wsX6_restore := fun _ h => List.mem_cons_of_mem _ (List.mem_append_right _ h)
set_option maxHeartbeats 4000000 in
set_option maxRecDepth 100000 in
/-- restore -/
theorem c_X6_restore (l : Launch) (hst : l.stackTraces = false) (G : vG) (A : Nat → Nat) (ea : Nat → Nat → Nat) (fl o : Nat → Nat) (n h : Nat) (e s0 s1 : vE) (hh : h < 4294967296) (hf : ∀ k, k < 2 → fl k < 2) : Kx l G yX6_restore wsX6_restore rX6_restore [.ref (A 0), .int (nI h)] [oO A ea n, sA G A ea, zA G (A 5) 2 fl, eK G (ea 16) s0, eK G (ea 17) s1, hO (A 3) (A 7) o, eK G (ea 14) e] (fun v Y => (h < 2 ∧ fl h = 1) ∧ v = some (.int (nI ((if h = 0 then s0 else s1).2.2.2.2.2.1 1))) ∧ Y = [oO A ea n, sA G A ea, zA G (A 5) 2 fl, eK G (ea 16) s0, eK G (ea 17) s1, hO (A 3) (A 7) (va_up o 1 0), eK G (ea 14) (cpC e (if h = 0 then s0 else s1))]) (fun c Y => ((c = sIOB ∧ ¬ h < 2) ∨ (c = sISE ∧ h < 2 ∧ ¬ fl h = 1)) ∧ Y = [oO A ea n, sA G A ea, zA G (A 5) 2 fl, eK G (ea 16) s0, eK G (ea 17) s1, hO (A 3) (A 7) o, eK G (ea 14) e]) 1 6 := by
  refine V_enterX (own := RX6) [some (.ref (A 0)), some (.int (nI h))] hst (by decide +kernel) rfl rfl (Nat.le_of_ble_eq_true rfl) rfl (fun Γ hR hT => ?_)
  have hkc : 0 ≤ 1 := Nat.zero_le _
  have hks : 0 ≤ 6 := Nat.zero_le _
  have hmx : 0 + 1 ≤ 1 ∧ 0 + 6 ≤ 6 := ⟨by decide, by decide⟩
  refine V_iload_n (i := 1) dX6_restore_0 rfl rfl ?_
  refine V_if_lt (tgt := 9) hh dX6_restore_1 rfl (fun h_1 => ?_) (fun h_1 => ?_)
  · refine V_IOBW (is := 269) (text := "no such save slot") hT rfl xk_X6_restore_113 xi_X6_restore_113 xw_X6_restore_117 (List.mem_of_getElem? (i := 17) rfl) ⟨rfl, rfl⟩ hmx hmx dX6_restore_9 dX6_restore_12 dX6_restore_13 dX6_restore_16 dX6_restore_19 ?_
    exact ⟨Or.inl ⟨rfl, by omega⟩, rfl⟩
  · refine V_iload_n (i := 1) dX6_restore_4 rfl rfl ?_
    refine V_iconst (v := 2) dX6_restore_5 rfl ?_
    refine V_icmp_ltA (tgt := 20) hh (by omega) dX6_restore_6 rfl (fun h_6 => ?_) (fun h_6 => ?_)
    · rcases (show h = 0 ∨ h = 1 by omega) with rfl | rfl
      · refine V_aload_n (i := 0) dX6_restore_20 rfl rfl ?_
        refine V_get (C := RX6) (T := TX6) (N := 9) (ci := 5) (q := 0) (ref := "OrderChains") 7 rfl il_X6_restore_X6 rfl rfl fl_X6_restore_45 rfl rfl dX6_restore_21 ?_
        refine V_iload_n (i := 1) dX6_restore_24 rfl rfl ?_
        refine V_zald (q := 2) rfl (by omega) rfl dX6_restore_25 ?_
        refine V_if_ne (tgt := 40) (by have h0 := hf 0 (by decide); have h1 := hf 1 (by decide); omega) dX6_restore_26 rfl (fun h_26 => ?_) (fun h_26 => ?_)
        · have h0f := hf 0 (by decide)
          have h1f := hf 1 (by decide)
          refine V_aload_n (i := 0) dX6_restore_40 rfl rfl ?_
          refine V_get (C := RX6) (T := TX6) (N := 9) (ci := 5) (q := 0) (ref := "OrderChains") 3 rfl il_X6_restore_X6 rfl rfl fl_X6_restore_27 rfl rfl dX6_restore_41 ?_
          refine V_aload_n (i := 0) dX6_restore_44 rfl rfl ?_
          refine V_get (C := RX6) (T := TX6) (N := 9) (ci := 5) (q := 0) (ref := "OrderChains") 6 rfl il_X6_restore_X6 rfl rfl fl_X6_restore_41 rfl rfl dX6_restore_45 ?_
          refine V_iload_n (i := 1) dX6_restore_48 rfl rfl ?_
          refine V_aaldE (q := 1) rfl (by omega) rfl dX6_restore_49 ?_
          refine V_callV (C := RX2) (q := 0) (ci := 2) (As := _) (rest := []) [6, 3] (c_X2_copyFromK l G (ea 14) (ea 16) e s0) vy_X2_copyFrom gX6_restore_X2_copyFrom rfl rfl rfl rfl rfl rfl rfl ⟨rfl, rfl⟩ ⟨rfl, rfl⟩ ⟨Nat.zero_le _, Nat.zero_le _⟩ rfl dX6_restore_50 (fun v Y hE => ?_)
          obtain ⟨rfl, rfl⟩ := hE
          refine ⟨rfl, ?_⟩
          dsimp only [vfill, List.set_cons_zero, List.set_cons_succ, Option.toList, List.cons_append, List.nil_append, Nat.add_zero]
          refine V_aload_n (i := 0) dX6_restore_53 rfl rfl ?_
          refine V_get (C := RX6) (T := TX6) (N := 9) (ci := 5) (q := 0) (ref := "OrderChains") 5 rfl il_X6_restore_X6 rfl rfl fl_X6_restore_37 rfl rfl dX6_restore_54 ?_
          refine V_callV (C := RX3) (q := 0) (ci := 3) (As := []) (rest := []) [5] (c_X3_forget l G (A 3) (A 7) o) vy_X3_forget gX6_restore_X3_forget rfl rfl rfl rfl rfl rfl rfl ⟨rfl, rfl⟩ ⟨rfl, rfl⟩ ⟨Nat.zero_le _, Nat.zero_le _⟩ rfl dX6_restore_57 (fun v Y hE => ?_)
          obtain ⟨rfl, rfl⟩ := hE
          refine ⟨rfl, ?_⟩
          dsimp only [vfill, List.set_cons_zero, List.set_cons_succ, Option.toList, List.cons_append, List.nil_append, Nat.add_zero]
          refine V_same (X' := [oO A ea n, sA G A ea, zA G (A 5) 2 fl, eK G (ea 16) s0, eK G (ea 17) s1, hO (A 3) (A 7) (va_up o 1 0), eO (ea 14) (cpC e s0).2.2.2.2.2.1, iA G ((ea 14) 1) 96 (cpC e s0).1, iA G ((ea 14) 2) 96 (cpC e s0).2.1, iA G ((ea 14) 3) 96 (cpC e s0).2.2.1, iA G ((ea 14) 4) 96 (cpC e s0).2.2.2.1, eC G (ea 14), cX ((ea 14) 6) ((cpC e s0).2.2.2.2.2.2 0), cX ((ea 14) 7) ((cpC e s0).2.2.2.2.2.2 1), cX ((ea 14) 8) ((cpC e s0).2.2.2.2.2.2 2), iA G ((ea 14) 9) 96 (cpC e s0).2.2.2.2.1]) (opK (P := [oO A ea n, sA G A ea, zA G (A 5) 2 fl, eK G (ea 16) s0, eK G (ea 17) s1, hO (A 3) (A 7) (va_up o 1 0)]) (Q := []) (a := (ea 14)) (e := (cpC e s0))) ?_
          refine V_aload_n (i := 0) dX6_restore_60 rfl rfl ?_
          refine V_get (C := RX6) (T := TX6) (N := 9) (ci := 5) (q := 0) (ref := "OrderChains") 3 rfl il_X6_restore_X6 rfl rfl fl_X6_restore_27 rfl rfl dX6_restore_61 ?_
          refine V_get (C := RX2) (T := TX2) (N := 11) (ci := 2) (q := 6) (ref := "OrderChains$Engine") 6 rfl il_X6_restore_X2 rfl rfl fl_X6_restore_85 rfl rfl dX6_restore_64 ?_
          refine V_same (X' := [oO A ea n, sA G A ea, zA G (A 5) 2 fl, eK G (ea 16) s0, eK G (ea 17) s1, hO (A 3) (A 7) (va_up o 1 0), eK G (ea 14) (cpC e s0)]) (opK (P := [oO A ea n, sA G A ea, zA G (A 5) 2 fl, eK G (ea 16) s0, eK G (ea 17) s1, hO (A 3) (A 7) (va_up o 1 0)]) (Q := []) (a := (ea 14)) (e := (cpC e s0))).symm ?_
          refine V_iret hR dX6_restore_67 hkc hks ?_
          exact ⟨⟨by decide, by omega⟩, rfl, rfl⟩
        · refine V_ISEW (is := 271) (text := "nothing has been saved there") hT rfl xk_X6_restore_63 xi_X6_restore_63 xw_X6_restore_67 (List.mem_of_getElem? (i := 18) rfl) ⟨rfl, rfl⟩ hmx hmx dX6_restore_29 dX6_restore_32 dX6_restore_33 dX6_restore_36 dX6_restore_39 ?_
          exact ⟨Or.inr ⟨rfl, by decide, by omega⟩, rfl⟩
      · refine V_aload_n (i := 0) dX6_restore_20 rfl rfl ?_
        refine V_get (C := RX6) (T := TX6) (N := 9) (ci := 5) (q := 0) (ref := "OrderChains") 7 rfl il_X6_restore_X6 rfl rfl fl_X6_restore_45 rfl rfl dX6_restore_21 ?_
        refine V_iload_n (i := 1) dX6_restore_24 rfl rfl ?_
        refine V_zald (q := 2) rfl (by omega) rfl dX6_restore_25 ?_
        refine V_if_ne (tgt := 40) (by have h0 := hf 0 (by decide); have h1 := hf 1 (by decide); omega) dX6_restore_26 rfl (fun h_26 => ?_) (fun h_26 => ?_)
        · have h0f := hf 0 (by decide)
          have h1f := hf 1 (by decide)
          refine V_aload_n (i := 0) dX6_restore_40 rfl rfl ?_
          refine V_get (C := RX6) (T := TX6) (N := 9) (ci := 5) (q := 0) (ref := "OrderChains") 3 rfl il_X6_restore_X6 rfl rfl fl_X6_restore_27 rfl rfl dX6_restore_41 ?_
          refine V_aload_n (i := 0) dX6_restore_44 rfl rfl ?_
          refine V_get (C := RX6) (T := TX6) (N := 9) (ci := 5) (q := 0) (ref := "OrderChains") 6 rfl il_X6_restore_X6 rfl rfl fl_X6_restore_41 rfl rfl dX6_restore_45 ?_
          refine V_iload_n (i := 1) dX6_restore_48 rfl rfl ?_
          refine V_aaldE (q := 1) rfl (by omega) rfl dX6_restore_49 ?_
          refine V_callV (C := RX2) (q := 0) (ci := 2) (As := _) (rest := []) [6, 4] (c_X2_copyFromK l G (ea 14) (ea 17) e s1) vy_X2_copyFrom gX6_restore_X2_copyFrom rfl rfl rfl rfl rfl rfl rfl ⟨rfl, rfl⟩ ⟨rfl, rfl⟩ ⟨Nat.zero_le _, Nat.zero_le _⟩ rfl dX6_restore_50 (fun v Y hE => ?_)
          obtain ⟨rfl, rfl⟩ := hE
          refine ⟨rfl, ?_⟩
          dsimp only [vfill, List.set_cons_zero, List.set_cons_succ, Option.toList, List.cons_append, List.nil_append, Nat.add_zero]
          refine V_aload_n (i := 0) dX6_restore_53 rfl rfl ?_
          refine V_get (C := RX6) (T := TX6) (N := 9) (ci := 5) (q := 0) (ref := "OrderChains") 5 rfl il_X6_restore_X6 rfl rfl fl_X6_restore_37 rfl rfl dX6_restore_54 ?_
          refine V_callV (C := RX3) (q := 0) (ci := 3) (As := []) (rest := []) [5] (c_X3_forget l G (A 3) (A 7) o) vy_X3_forget gX6_restore_X3_forget rfl rfl rfl rfl rfl rfl rfl ⟨rfl, rfl⟩ ⟨rfl, rfl⟩ ⟨Nat.zero_le _, Nat.zero_le _⟩ rfl dX6_restore_57 (fun v Y hE => ?_)
          obtain ⟨rfl, rfl⟩ := hE
          refine ⟨rfl, ?_⟩
          dsimp only [vfill, List.set_cons_zero, List.set_cons_succ, Option.toList, List.cons_append, List.nil_append, Nat.add_zero]
          refine V_same (X' := [oO A ea n, sA G A ea, zA G (A 5) 2 fl, eK G (ea 16) s0, eK G (ea 17) s1, hO (A 3) (A 7) (va_up o 1 0), eO (ea 14) (cpC e s1).2.2.2.2.2.1, iA G ((ea 14) 1) 96 (cpC e s1).1, iA G ((ea 14) 2) 96 (cpC e s1).2.1, iA G ((ea 14) 3) 96 (cpC e s1).2.2.1, iA G ((ea 14) 4) 96 (cpC e s1).2.2.2.1, eC G (ea 14), cX ((ea 14) 6) ((cpC e s1).2.2.2.2.2.2 0), cX ((ea 14) 7) ((cpC e s1).2.2.2.2.2.2 1), cX ((ea 14) 8) ((cpC e s1).2.2.2.2.2.2 2), iA G ((ea 14) 9) 96 (cpC e s1).2.2.2.2.1]) (opK (P := [oO A ea n, sA G A ea, zA G (A 5) 2 fl, eK G (ea 16) s0, eK G (ea 17) s1, hO (A 3) (A 7) (va_up o 1 0)]) (Q := []) (a := (ea 14)) (e := (cpC e s1))) ?_
          refine V_aload_n (i := 0) dX6_restore_60 rfl rfl ?_
          refine V_get (C := RX6) (T := TX6) (N := 9) (ci := 5) (q := 0) (ref := "OrderChains") 3 rfl il_X6_restore_X6 rfl rfl fl_X6_restore_27 rfl rfl dX6_restore_61 ?_
          refine V_get (C := RX2) (T := TX2) (N := 11) (ci := 2) (q := 6) (ref := "OrderChains$Engine") 6 rfl il_X6_restore_X2 rfl rfl fl_X6_restore_85 rfl rfl dX6_restore_64 ?_
          refine V_same (X' := [oO A ea n, sA G A ea, zA G (A 5) 2 fl, eK G (ea 16) s0, eK G (ea 17) s1, hO (A 3) (A 7) (va_up o 1 0), eK G (ea 14) (cpC e s1)]) (opK (P := [oO A ea n, sA G A ea, zA G (A 5) 2 fl, eK G (ea 16) s0, eK G (ea 17) s1, hO (A 3) (A 7) (va_up o 1 0)]) (Q := []) (a := (ea 14)) (e := (cpC e s1))).symm ?_
          refine V_iret hR dX6_restore_67 hkc hks ?_
          exact ⟨⟨by decide, by omega⟩, rfl, rfl⟩
        · refine V_ISEW (is := 271) (text := "nothing has been saved there") hT rfl xk_X6_restore_63 xi_X6_restore_63 xw_X6_restore_67 (List.mem_of_getElem? (i := 18) rfl) ⟨rfl, rfl⟩ hmx hmx dX6_restore_29 dX6_restore_32 dX6_restore_33 dX6_restore_36 dX6_restore_39 ?_
          exact ⟨Or.inr ⟨rfl, by decide, by omega⟩, rfl⟩
    · refine V_IOBW (is := 269) (text := "no such save slot") hT rfl xk_X6_restore_113 xi_X6_restore_113 xw_X6_restore_117 (List.mem_of_getElem? (i := 17) rfl) ⟨rfl, rfl⟩ hmx hmx dX6_restore_9 dX6_restore_12 dX6_restore_13 dX6_restore_16 dX6_restore_19 ?_
      exact ⟨Or.inl ⟨rfl, by omega⟩, rfl⟩

end OC4
