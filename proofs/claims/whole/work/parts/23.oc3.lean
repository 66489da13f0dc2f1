section OC3
theorem V_lcmp {l : Launch} {G : vG} {M : vM} {Γ : vF} {k n pc : Nat} {L : List (Option Value)} {st : List Value} {X : List va_W} {x y : Int64} {v : Nat} (d : decode M.1 pc = .ok (.lcmp, 1)) (hv : lg_cmp x y = nI v) (kk : V l G M Γ k n (pc + 1) L (.int (nI v) :: st) X) : V l G M Γ k n pc L (.long y :: .long x :: st) X := by
  intro ok H locs ls hl hP hD hS
  refine W.lcmp ok.1 ok.2.1 d ?_
  rw [hv]
  exact kk ok _ _ _ hl hP hD hS
theorem V_lret {l : Launch} {G : vG} {M : vM} {Γ : vF} {k n pc : Nat} {L : List (Option Value)} {X : List va_W} {E : Option Value → List va_W → Prop} {mc ms : Nat} {x : Int64} (hR : vRet G Γ (some .long) E mc ms) (d : decode M.1 pc = .ok (.lreturn, 1)) (hk : k ≤ mc) (hn : n ≤ ms) (hE : E (some (.long x)) X) : V l G M Γ k n pc L [.long x] X :=
  V_end (g := fun _ => F0 Γ.2.2.2.1 pc #[] []) hR hE hk hn (fun Qc H locs ls ok hr hq hf => W.lret ok.1 ok.2.1 hr hq hf d ok.2.2.2.2.2.2.2)
def laC (n : Nat) (t e : vE) : vE := (runC n (cpC t e)).2

abbrev rX6_start : Room := { frames := 6, cells := 1, slots := 6, locals := 92 }
theorem vy_X6_start : vY yX6_start wsX6_start cX6_start 4 (some .int) 2 := ⟨⟨_, rfl⟩, by decide +kernel, by decide +kernel, by decide +kernel⟩
theorem xk_X6_start_113 : Cond.classLink RX6 113 "java/lang/IndexOutOfBoundsException" ∈ wsX6_start := List.mem_of_getElem? (i := 1) rfl
theorem xi_X6_start_113 : Cond.initialized "java/lang/IndexOutOfBoundsException" ∈ wsX6_start := List.mem_of_getElem? (i := 2) rfl
theorem xw_X6_start_117 : ∀ w ∈ (vx_atS RX6 117 sIOB nms).filter goodWord, w ∈ wsX6_start := fun _ h => List.mem_cons_of_mem _ (List.mem_append_right _ h)
theorem fl_X6_start_37 : Cond.fieldLink RX6 37 "OrderChains" "history" "LOrderChains$History;" ∈ wsX6_start := List.mem_of_getElem? (i := 3) rfl
theorem il_X6_start_X6 : ∀ w ∈ wsX60, w ∈ wsX6_start := fun _ h => List.mem_cons_of_mem _ (List.mem_append_left _ (List.mem_append_left _ (List.mem_append_left _ (List.mem_append_left _ (List.mem_append_right _ h)))))
theorem fl_X6_start_27 : Cond.fieldLink RX6 27 "OrderChains" "live" "LOrderChains$Engine;" ∈ wsX6_start := List.mem_of_getElem? (i := 4) rfl
theorem fl_X6_start_137 : Cond.fieldLink RX6 137 "OrderChains$Engine" "channels" "[LOrderChains$Channel;" ∈ wsX6_start := List.mem_of_getElem? (i := 5) rfl
theorem il_X6_start_X2 : ∀ w ∈ wsX20, w ∈ wsX6_start := fun _ h => List.mem_cons_of_mem _ (List.mem_append_left _ (List.mem_append_left _ (List.mem_append_left _ (List.mem_append_right _ h))))
theorem fl_X6_start_141 : Cond.fieldLink RX6 141 "OrderChains$Channel" "condition" "I" ∈ wsX6_start := List.mem_of_getElem? (i := 6) rfl
theorem il_X6_start_X1 : ∀ w ∈ wsX10, w ∈ wsX6_start := fun _ h => List.mem_cons_of_mem _ (List.mem_append_left _ (List.mem_append_left _ (List.mem_append_right _ h)))
set_option maxHeartbeats 4000000 in
set_option maxRecDepth 100000 in
/-- start -/
theorem c_X6_start (l : Launch) (hst : l.stackTraces = false) (G : vG) (A : Nat → Nat) (ea : Nat → Nat → Nat) (o : Nat → Nat) (hs : Nat → vE) (n h p : Nat) (e : vE) (he : eB e) (h0 : o 0 < 14) (h1 : o 1 < 15) (hh : h < 4294967296) (hp : p < 4294967296) : Kx l G yX6_start wsX6_start rX6_start [.ref (A 0), .int (nI h), .int (nI p)] [oO A ea n, hO (A 3) (A 7) o, hA G (A 7) ea, hK G ea hs, eK G (ea 14) e] (fun v Y => (h < 3 ∧ p < 96) ∧ v = some (.int (nI (e.2.2.2.2.2.2 h 0))) ∧ Y = [oO A ea n, hO (A 3) (A 7) (rmO o), hA G (A 7) ea, hK G ea (rmH o hs e), eK G (ea 14) (setC e h (qBegin p (e.2.2.2.2.2.2 h)))]) (fun c Y => (c = sIOB ∧ ¬ (h < 3 ∧ p < 96)) ∧ Y = [oO A ea n, hO (A 3) (A 7) o, hA G (A 7) ea, hK G ea hs, eK G (ea 14) e]) 1 6 := by
  refine V_enterX (own := RX6) [some (.ref (A 0)), some (.int (nI h)), some (.int (nI p)), none] hst (by decide +kernel) rfl rfl (Nat.le_of_ble_eq_true rfl) rfl (fun Γ hR hT => ?_)
  have hkc : 0 ≤ 1 := Nat.zero_le _
  have hks : 0 ≤ 6 := Nat.zero_le _
  have hmx : 0 + 1 ≤ 1 ∧ 0 + 6 ≤ 6 := ⟨by decide, by decide⟩
  obtain ⟨val, own, mark, lw, bits, s, ch⟩ := e
  obtain ⟨hv, ho, hm, hb, hs0, hs4, hq⟩ := id he
  dsimp only at hv ho hm hb hs0 hs4 hq
  refine V_iload_n (i := 1) dX6_start_0 rfl rfl ?_
  refine V_callS (As := _) (rest := []) [] (c_X6_isChannel l G (h) hh) vy_X6_isChannel gX6_start_X6_isChannel rfl rfl rfl rfl ⟨rfl, rfl⟩ ⟨rfl, rfl⟩ ⟨Nat.zero_le _, Nat.zero_le _⟩ rfl dX6_start_1 (fun v Y hE => ?_)
  obtain ⟨rfl, rfl⟩ := hE
  refine ⟨rfl, ?_⟩
  dsimp only [vfill, List.set_cons_zero, List.set_cons_succ, Option.toList, List.cons_append, List.nil_append, Nat.add_zero]
  refine V_if_eq (tgt := 14) (by split <;> decide) dX6_start_4 rfl (fun h_4 => ?_) (fun h_4 => ?_)
  · refine V_IOB (is := 201) (text := "no such channel or cell") hT rfl xk_X6_start_113 xi_X6_start_113 xw_X6_start_117 (List.mem_of_getElem? (i := 9) rfl) ⟨rfl, rfl⟩ hmx hmx dX6_start_14 dX6_start_17 dX6_start_18 dX6_start_20 dX6_start_23 ?_
    refine ⟨⟨rfl, fun z => ?_⟩, rfl⟩
    first | exact b00 h_4 z.1 | exact b00 h_11 z.2
  · refine V_iload_n (i := 2) dX6_start_7 rfl rfl ?_
    refine V_callS (As := _) (rest := []) [] (c_X6_isCell l G (p) hp) vy_X6_isCell gX6_start_X6_isCell rfl rfl rfl rfl ⟨rfl, rfl⟩ ⟨rfl, rfl⟩ ⟨Nat.zero_le _, Nat.zero_le _⟩ rfl dX6_start_8 (fun v Y hE => ?_)
    obtain ⟨rfl, rfl⟩ := hE
    refine ⟨rfl, ?_⟩
    dsimp only [vfill, List.set_cons_zero, List.set_cons_succ, Option.toList, List.cons_append, List.nil_append, Nat.add_zero]
    refine V_if_ne (tgt := 24) (by split <;> decide) dX6_start_11 rfl (fun h_11 => ?_) (fun h_11 => ?_)
    · have hz := b01 h_4
      have hy := b01 h_11
      refine V_aload_n (i := 0) dX6_start_24 rfl rfl ?_
      refine V_get (C := RX6) (T := TX6) (N := 9) (ci := 5) (q := 0) (ref := "OrderChains") 5 rfl il_X6_start_X6 rfl rfl fl_X6_start_37 rfl rfl dX6_start_25 ?_
      refine V_aload_n (i := 0) dX6_start_28 rfl rfl ?_
      refine V_get (C := RX6) (T := TX6) (N := 9) (ci := 5) (q := 0) (ref := "OrderChains") 3 rfl il_X6_start_X6 rfl rfl fl_X6_start_27 rfl rfl dX6_start_29 ?_
      refine V_callV (C := RX3) (q := 0) (ci := 3) (As := _) (rest := []) [1, 2, 3, 4] (c_X3_remember l G (A 3) (A 7) ea (ea 14) o hs (val, own, mark, lw, bits, s, ch) h0 h1) vy_X3_remember gX6_start_X3_remember rfl rfl rfl rfl rfl rfl rfl ⟨rfl, rfl⟩ ⟨rfl, rfl⟩ ⟨Nat.zero_le _, Nat.zero_le _⟩ rfl dX6_start_32 (fun v Y hE => ?_)
      obtain ⟨rfl, rfl⟩ := hE
      refine ⟨rfl, ?_⟩
      dsimp only [vfill, List.set_cons_zero, List.set_cons_succ, Option.toList, List.cons_append, List.nil_append, Nat.add_zero]
      refine V_same (X' := [oO A ea n, hO (A 3) (A 7) (rmO o), hA G (A 7) ea, hK G ea (rmH o hs (val, own, mark, lw, bits, s, ch)), eO (ea 14) s, iA G ((ea 14) 1) 96 val, iA G ((ea 14) 2) 96 own, iA G ((ea 14) 3) 96 mark, iA G ((ea 14) 4) 96 lw, eC G (ea 14), cX ((ea 14) 6) (ch 0), cX ((ea 14) 7) (ch 1), cX ((ea 14) 8) (ch 2), iA G ((ea 14) 9) 96 bits]) (opK (P := [oO A ea n, hO (A 3) (A 7) (rmO o), hA G (A 7) ea, hK G ea (rmH o hs (val, own, mark, lw, bits, s, ch))]) (Q := []) (a := (ea 14)) (e := (val, own, mark, lw, bits, s, ch))) ?_
      refine V_aload_n (i := 0) dX6_start_35 rfl rfl ?_
      rcases (show h = 0 ∨ h = 1 ∨ h = 2 by omega) with rfl | rfl | rfl
      · refine V_get (C := RX6) (T := TX6) (N := 9) (ci := 5) (q := 0) (ref := "OrderChains") 3 rfl il_X6_start_X6 rfl rfl fl_X6_start_27 rfl rfl dX6_start_36 ?_
        refine V_get (C := RX2) (T := TX2) (N := 11) (ci := 2) (q := 4) (ref := "OrderChains$Engine") 4 rfl il_X6_start_X2 rfl rfl fl_X6_start_137 rfl rfl dX6_start_39 ?_
        refine V_iload_n (i := 1) dX6_start_42 rfl rfl ?_
        refine V_aaldC (q := 9) rfl (by omega) rfl dX6_start_43 ?_
        refine V_get (C := RX1) (T := TX1) (N := 13) (ci := 1) (q := 10) (ref := "OrderChains$Channel") 0 rfl il_X6_start_X1 rfl rfl fl_X6_start_141 rfl rfl dX6_start_44 ?_
        refine V_istore_n (i := 3) dX6_start_47 rfl rfl rfl ?_
        dsimp only [List.set_cons_zero, List.set_cons_succ]
        refine V_aload_n (i := 0) dX6_start_48 rfl rfl ?_
        refine V_get (C := RX6) (T := TX6) (N := 9) (ci := 5) (q := 0) (ref := "OrderChains") 3 rfl il_X6_start_X6 rfl rfl fl_X6_start_27 rfl rfl dX6_start_49 ?_
        refine V_get (C := RX2) (T := TX2) (N := 11) (ci := 2) (q := 4) (ref := "OrderChains$Engine") 4 rfl il_X6_start_X2 rfl rfl fl_X6_start_137 rfl rfl dX6_start_52 ?_
        refine V_iload_n (i := 1) dX6_start_55 rfl rfl ?_
        refine V_aaldC (q := 9) rfl (by omega) rfl dX6_start_56 ?_
        refine V_iload_n (i := 2) dX6_start_57 rfl rfl ?_
        refine V_callV (C := RX1) (q := 0) (ci := 1) (As := _) (rest := []) [10] (c_X1_beginAt l G (ea 14 6) p (ch 0)) vy_X1_beginAt gX6_start_X1_beginAt rfl rfl rfl rfl rfl rfl rfl ⟨rfl, rfl⟩ ⟨rfl, rfl⟩ ⟨Nat.zero_le _, Nat.zero_le _⟩ rfl dX6_start_58 (fun v Y hE => ?_)
        obtain ⟨rfl, rfl⟩ := hE
        refine ⟨rfl, ?_⟩
        dsimp only [vfill, List.set_cons_zero, List.set_cons_succ, Option.toList, List.cons_append, List.nil_append, Nat.add_zero]
        refine V_iload_n (i := 3) dX6_start_61 rfl rfl ?_
        refine V_same (X' := [oO A ea n, hO (A 3) (A 7) (rmO o), hA G (A 7) ea, hK G ea (rmH o hs (val, own, mark, lw, bits, s, ch)), eK G (ea 14) (setC (val, own, mark, lw, bits, s, ch) 0 (qBegin p (ch 0)))]) (opK (P := [oO A ea n, hO (A 3) (A 7) (rmO o), hA G (A 7) ea, hK G ea (rmH o hs (val, own, mark, lw, bits, s, ch))]) (Q := []) (a := (ea 14)) (e := (setC (val, own, mark, lw, bits, s, ch) 0 (qBegin p (ch 0))))).symm ?_
        refine V_iret hR dX6_start_62 hkc hks ?_
        exact ⟨⟨hz, hy⟩, rfl, rfl⟩
      · refine V_get (C := RX6) (T := TX6) (N := 9) (ci := 5) (q := 0) (ref := "OrderChains") 3 rfl il_X6_start_X6 rfl rfl fl_X6_start_27 rfl rfl dX6_start_36 ?_
        refine V_get (C := RX2) (T := TX2) (N := 11) (ci := 2) (q := 4) (ref := "OrderChains$Engine") 4 rfl il_X6_start_X2 rfl rfl fl_X6_start_137 rfl rfl dX6_start_39 ?_
        refine V_iload_n (i := 1) dX6_start_42 rfl rfl ?_
        refine V_aaldC (q := 9) rfl (by omega) rfl dX6_start_43 ?_
        refine V_get (C := RX1) (T := TX1) (N := 13) (ci := 1) (q := 11) (ref := "OrderChains$Channel") 0 rfl il_X6_start_X1 rfl rfl fl_X6_start_141 rfl rfl dX6_start_44 ?_
        refine V_istore_n (i := 3) dX6_start_47 rfl rfl rfl ?_
        dsimp only [List.set_cons_zero, List.set_cons_succ]
        refine V_aload_n (i := 0) dX6_start_48 rfl rfl ?_
        refine V_get (C := RX6) (T := TX6) (N := 9) (ci := 5) (q := 0) (ref := "OrderChains") 3 rfl il_X6_start_X6 rfl rfl fl_X6_start_27 rfl rfl dX6_start_49 ?_
        refine V_get (C := RX2) (T := TX2) (N := 11) (ci := 2) (q := 4) (ref := "OrderChains$Engine") 4 rfl il_X6_start_X2 rfl rfl fl_X6_start_137 rfl rfl dX6_start_52 ?_
        refine V_iload_n (i := 1) dX6_start_55 rfl rfl ?_
        refine V_aaldC (q := 9) rfl (by omega) rfl dX6_start_56 ?_
        refine V_iload_n (i := 2) dX6_start_57 rfl rfl ?_
        refine V_callV (C := RX1) (q := 0) (ci := 1) (As := _) (rest := []) [11] (c_X1_beginAt l G (ea 14 7) p (ch 1)) vy_X1_beginAt gX6_start_X1_beginAt rfl rfl rfl rfl rfl rfl rfl ⟨rfl, rfl⟩ ⟨rfl, rfl⟩ ⟨Nat.zero_le _, Nat.zero_le _⟩ rfl dX6_start_58 (fun v Y hE => ?_)
        obtain ⟨rfl, rfl⟩ := hE
        refine ⟨rfl, ?_⟩
        dsimp only [vfill, List.set_cons_zero, List.set_cons_succ, Option.toList, List.cons_append, List.nil_append, Nat.add_zero]
        refine V_iload_n (i := 3) dX6_start_61 rfl rfl ?_
        refine V_same (X' := [oO A ea n, hO (A 3) (A 7) (rmO o), hA G (A 7) ea, hK G ea (rmH o hs (val, own, mark, lw, bits, s, ch)), eK G (ea 14) (setC (val, own, mark, lw, bits, s, ch) 1 (qBegin p (ch 1)))]) (opK (P := [oO A ea n, hO (A 3) (A 7) (rmO o), hA G (A 7) ea, hK G ea (rmH o hs (val, own, mark, lw, bits, s, ch))]) (Q := []) (a := (ea 14)) (e := (setC (val, own, mark, lw, bits, s, ch) 1 (qBegin p (ch 1))))).symm ?_
        refine V_iret hR dX6_start_62 hkc hks ?_
        exact ⟨⟨hz, hy⟩, rfl, rfl⟩
      · refine V_get (C := RX6) (T := TX6) (N := 9) (ci := 5) (q := 0) (ref := "OrderChains") 3 rfl il_X6_start_X6 rfl rfl fl_X6_start_27 rfl rfl dX6_start_36 ?_
        refine V_get (C := RX2) (T := TX2) (N := 11) (ci := 2) (q := 4) (ref := "OrderChains$Engine") 4 rfl il_X6_start_X2 rfl rfl fl_X6_start_137 rfl rfl dX6_start_39 ?_
        refine V_iload_n (i := 1) dX6_start_42 rfl rfl ?_
        refine V_aaldC (q := 9) rfl (by omega) rfl dX6_start_43 ?_
        refine V_get (C := RX1) (T := TX1) (N := 13) (ci := 1) (q := 12) (ref := "OrderChains$Channel") 0 rfl il_X6_start_X1 rfl rfl fl_X6_start_141 rfl rfl dX6_start_44 ?_
        refine V_istore_n (i := 3) dX6_start_47 rfl rfl rfl ?_
        dsimp only [List.set_cons_zero, List.set_cons_succ]
        refine V_aload_n (i := 0) dX6_start_48 rfl rfl ?_
        refine V_get (C := RX6) (T := TX6) (N := 9) (ci := 5) (q := 0) (ref := "OrderChains") 3 rfl il_X6_start_X6 rfl rfl fl_X6_start_27 rfl rfl dX6_start_49 ?_
        refine V_get (C := RX2) (T := TX2) (N := 11) (ci := 2) (q := 4) (ref := "OrderChains$Engine") 4 rfl il_X6_start_X2 rfl rfl fl_X6_start_137 rfl rfl dX6_start_52 ?_
        refine V_iload_n (i := 1) dX6_start_55 rfl rfl ?_
        refine V_aaldC (q := 9) rfl (by omega) rfl dX6_start_56 ?_
        refine V_iload_n (i := 2) dX6_start_57 rfl rfl ?_
        refine V_callV (C := RX1) (q := 0) (ci := 1) (As := _) (rest := []) [12] (c_X1_beginAt l G (ea 14 8) p (ch 2)) vy_X1_beginAt gX6_start_X1_beginAt rfl rfl rfl rfl rfl rfl rfl ⟨rfl, rfl⟩ ⟨rfl, rfl⟩ ⟨Nat.zero_le _, Nat.zero_le _⟩ rfl dX6_start_58 (fun v Y hE => ?_)
        obtain ⟨rfl, rfl⟩ := hE
        refine ⟨rfl, ?_⟩
        dsimp only [vfill, List.set_cons_zero, List.set_cons_succ, Option.toList, List.cons_append, List.nil_append, Nat.add_zero]
        refine V_iload_n (i := 3) dX6_start_61 rfl rfl ?_
        refine V_same (X' := [oO A ea n, hO (A 3) (A 7) (rmO o), hA G (A 7) ea, hK G ea (rmH o hs (val, own, mark, lw, bits, s, ch)), eK G (ea 14) (setC (val, own, mark, lw, bits, s, ch) 2 (qBegin p (ch 2)))]) (opK (P := [oO A ea n, hO (A 3) (A 7) (rmO o), hA G (A 7) ea, hK G ea (rmH o hs (val, own, mark, lw, bits, s, ch))]) (Q := []) (a := (ea 14)) (e := (setC (val, own, mark, lw, bits, s, ch) 2 (qBegin p (ch 2))))).symm ?_
        refine V_iret hR dX6_start_62 hkc hks ?_
        exact ⟨⟨hz, hy⟩, rfl, rfl⟩
    · refine V_IOB (is := 201) (text := "no such channel or cell") hT rfl xk_X6_start_113 xi_X6_start_113 xw_X6_start_117 (List.mem_of_getElem? (i := 9) rfl) ⟨rfl, rfl⟩ hmx hmx dX6_start_14 dX6_start_17 dX6_start_18 dX6_start_20 dX6_start_23 ?_
      refine ⟨⟨rfl, fun z => ?_⟩, rfl⟩
      first | exact b00 h_4 z.1 | exact b00 h_11 z.2

abbrev rX6_stop : Room := { frames := 6, cells := 1, slots := 6, locals := 92 }
theorem vy_X6_stop : vY yX6_stop wsX6_stop cX6_stop 3 (some .int) 1 := ⟨⟨_, rfl⟩, by decide +kernel, by decide +kernel, by decide +kernel⟩
theorem fl_X6_stop_27 : Cond.fieldLink RX6 27 "OrderChains" "live" "LOrderChains$Engine;" ∈ wsX6_stop := List.mem_of_getElem? (i := 5) rfl
theorem il_X6_stop_X6 : ∀ w ∈ wsX60, w ∈ wsX6_stop := fun _ h => List.mem_cons_of_mem _ (List.mem_append_left _ (List.mem_append_left _ (List.mem_append_left _ (List.mem_append_left _ (List.mem_append_left _ (List.mem_append_right _ h))))))
theorem fl_X6_stop_137 : Cond.fieldLink RX6 137 "OrderChains$Engine" "channels" "[LOrderChains$Channel;" ∈ wsX6_stop := List.mem_of_getElem? (i := 6) rfl
theorem il_X6_stop_X2 : ∀ w ∈ wsX20, w ∈ wsX6_stop := fun _ h => List.mem_cons_of_mem _ (List.mem_append_left _ (List.mem_append_left _ (List.mem_append_left _ (List.mem_append_left _ (List.mem_append_right _ h)))))
theorem fl_X6_stop_141 : Cond.fieldLink RX6 141 "OrderChains$Channel" "condition" "I" ∈ wsX6_stop := List.mem_of_getElem? (i := 7) rfl
theorem il_X6_stop_X1 : ∀ w ∈ wsX10, w ∈ wsX6_stop := fun _ h => List.mem_cons_of_mem _ (List.mem_append_left _ (List.mem_append_left _ (List.mem_append_left _ (List.mem_append_right _ h))))
theorem fl_X6_stop_37 : Cond.fieldLink RX6 37 "OrderChains" "history" "LOrderChains$History;" ∈ wsX6_stop := List.mem_of_getElem? (i := 8) rfl
theorem xk_X6_stop_63 : Cond.classLink RX6 63 "java/lang/IllegalStateException" ∈ wsX6_stop := List.mem_of_getElem? (i := 3) rfl
theorem xi_X6_stop_63 : Cond.initialized "java/lang/IllegalStateException" ∈ wsX6_stop := List.mem_of_getElem? (i := 4) rfl
theorem xw_X6_stop_67 : ∀ w ∈ (vx_atS RX6 67 sISE nms).filter goodWord, w ∈ wsX6_stop := fun _ h => List.mem_cons_of_mem _ (List.mem_append_right _ h)
theorem xk_X6_stop_113 : Cond.classLink RX6 113 "java/lang/IndexOutOfBoundsException" ∈ wsX6_stop := List.mem_of_getElem? (i := 1) rfl
theorem xi_X6_stop_113 : Cond.initialized "java/lang/IndexOutOfBoundsException" ∈ wsX6_stop := List.mem_of_getElem? (i := 2) rfl
theorem xw_X6_stop_117 : ∀ w ∈ (vx_atS RX6 117 sIOB nms).filter goodWord, w ∈ wsX6_stop := fun _ h => List.mem_cons_of_mem _ (List.mem_append_left _ (List.mem_append_right _ h))
set_option maxHeartbeats 4000000 in
set_option maxRecDepth 100000 in
/-- stop -/
theorem c_X6_stop (l : Launch) (hst : l.stackTraces = false) (G : vG) (A : Nat → Nat) (ea : Nat → Nat → Nat) (o : Nat → Nat) (hs : Nat → vE) (n h : Nat) (e : vE) (he : eB e) (h0 : o 0 < 14) (h1 : o 1 < 15) (hh : h < 4294967296) : Kx l G yX6_stop wsX6_stop rX6_stop [.ref (A 0), .int (nI h)] [oO A ea n, hO (A 3) (A 7) o, hA G (A 7) ea, hK G ea hs, eK G (ea 14) e] (fun v Y => (h < 3 ∧ e.2.2.2.2.2.2 h 0 = 1) ∧ v = some (.int (nI (if e.2.2.2.2.2.2 h 5 = 4294967287 ∨ e.2.2.2.2.2.2 h 7 = 6 then 0 else e.2.2.2.2.2.2 h 10 - e.2.2.2.2.2.2 h 6))) ∧ Y = [oO A ea n, hO (A 3) (A 7) (rmO o), hA G (A 7) ea, hK G ea (rmH o hs e), eK G (ea 14) (setC e h (qBc 0 (e.2.2.2.2.2.2 h)))]) (fun c Y => ((c = sIOB ∧ ¬ h < 3) ∨ (c = sISE ∧ h < 3 ∧ ¬ e.2.2.2.2.2.2 h 0 = 1)) ∧ Y = [oO A ea n, hO (A 3) (A 7) o, hA G (A 7) ea, hK G ea hs, eK G (ea 14) e]) 1 6 := by
  refine V_enterX (own := RX6) [some (.ref (A 0)), some (.int (nI h)), none] hst (by decide +kernel) rfl rfl (Nat.le_of_ble_eq_true rfl) rfl (fun Γ hR hT => ?_)
  have hkc : 0 ≤ 1 := Nat.zero_le _
  have hks : 0 ≤ 6 := Nat.zero_le _
  have hmx : 0 + 1 ≤ 1 ∧ 0 + 6 ≤ 6 := ⟨by decide, by decide⟩
  obtain ⟨val, own, mark, lw, bits, s, ch⟩ := e
  obtain ⟨hv, ho, hm, hb, hs0, hs4, hq⟩ := id he
  dsimp only at hv ho hm hb hs0 hs4 hq
  refine V_iload_n (i := 1) dX6_stop_0 rfl rfl ?_
  refine V_callS (As := _) (rest := []) [] (c_X6_isChannel l G (h) hh) vy_X6_isChannel gX6_stop_X6_isChannel rfl rfl rfl rfl ⟨rfl, rfl⟩ ⟨rfl, rfl⟩ ⟨Nat.zero_le _, Nat.zero_le _⟩ rfl dX6_stop_1 (fun v Y hE => ?_)
  obtain ⟨rfl, rfl⟩ := hE
  refine ⟨rfl, ?_⟩
  dsimp only [vfill, List.set_cons_zero, List.set_cons_succ, Option.toList, List.cons_append, List.nil_append, Nat.add_zero]
  refine V_if_ne (tgt := 17) (by split <;> decide) dX6_stop_4 rfl (fun h_4 => ?_) (fun h_4 => ?_)
  · have hz := b01 h_4
    refine V_same (X' := [oO A ea n, hO (A 3) (A 7) o, hA G (A 7) ea, hK G ea hs, eO (ea 14) s, iA G ((ea 14) 1) 96 val, iA G ((ea 14) 2) 96 own, iA G ((ea 14) 3) 96 mark, iA G ((ea 14) 4) 96 lw, eC G (ea 14), cX ((ea 14) 6) (ch 0), cX ((ea 14) 7) (ch 1), cX ((ea 14) 8) (ch 2), iA G ((ea 14) 9) 96 bits]) (opK (P := [oO A ea n, hO (A 3) (A 7) o, hA G (A 7) ea, hK G ea hs]) (Q := []) (a := (ea 14)) (e := (val, own, mark, lw, bits, s, ch))) ?_
    refine V_aload_n (i := 0) dX6_stop_17 rfl rfl ?_
    rcases (show h = 0 ∨ h = 1 ∨ h = 2 by omega) with rfl | rfl | rfl
    · refine V_get (C := RX6) (T := TX6) (N := 9) (ci := 5) (q := 0) (ref := "OrderChains") 3 rfl il_X6_stop_X6 rfl rfl fl_X6_stop_27 rfl rfl dX6_stop_18 ?_
      refine V_get (C := RX2) (T := TX2) (N := 11) (ci := 2) (q := 4) (ref := "OrderChains$Engine") 4 rfl il_X6_stop_X2 rfl rfl fl_X6_stop_137 rfl rfl dX6_stop_21 ?_
      refine V_iload_n (i := 1) dX6_stop_24 rfl rfl ?_
      refine V_aaldC (q := 9) rfl (by omega) rfl dX6_stop_25 ?_
      refine V_get (C := RX1) (T := TX1) (N := 13) (ci := 1) (q := 10) (ref := "OrderChains$Channel") 0 rfl il_X6_stop_X1 rfl rfl fl_X6_stop_141 rfl rfl dX6_stop_26 ?_
      refine V_iconst (v := 1) dX6_stop_29 rfl ?_
      refine V_icmp_eq (tgt := 43) (by have := (hq 0 (by decide)).1; have := (hq 1 (by decide)).1; have := (hq 2 (by decide)).1; omega) (by have := (hq 0 (by decide)).1; have := (hq 1 (by decide)).1; have := (hq 2 (by decide)).1; omega) dX6_stop_30 rfl (fun h_30 => ?_) (fun h_30 => ?_)
      · refine V_same (X' := [oO A ea n, hO (A 3) (A 7) o, hA G (A 7) ea, hK G ea hs, eK G (ea 14) (val, own, mark, lw, bits, s, ch)]) (opK (P := [oO A ea n, hO (A 3) (A 7) o, hA G (A 7) ea, hK G ea hs]) (Q := []) (a := (ea 14)) (e := (val, own, mark, lw, bits, s, ch))).symm ?_
        refine V_aload_n (i := 0) dX6_stop_43 rfl rfl ?_
        refine V_get (C := RX6) (T := TX6) (N := 9) (ci := 5) (q := 0) (ref := "OrderChains") 5 rfl il_X6_stop_X6 rfl rfl fl_X6_stop_37 rfl rfl dX6_stop_44 ?_
        refine V_aload_n (i := 0) dX6_stop_47 rfl rfl ?_
        refine V_get (C := RX6) (T := TX6) (N := 9) (ci := 5) (q := 0) (ref := "OrderChains") 3 rfl il_X6_stop_X6 rfl rfl fl_X6_stop_27 rfl rfl dX6_stop_48 ?_
        refine V_callV (C := RX3) (q := 0) (ci := 3) (As := _) (rest := []) [1, 2, 3, 4] (c_X3_remember l G (A 3) (A 7) ea (ea 14) o hs (val, own, mark, lw, bits, s, ch) h0 h1) vy_X3_remember gX6_stop_X3_remember rfl rfl rfl rfl rfl rfl rfl ⟨rfl, rfl⟩ ⟨rfl, rfl⟩ ⟨Nat.zero_le _, Nat.zero_le _⟩ rfl dX6_stop_51 (fun v Y hE => ?_)
        obtain ⟨rfl, rfl⟩ := hE
        refine ⟨rfl, ?_⟩
        dsimp only [vfill, List.set_cons_zero, List.set_cons_succ, Option.toList, List.cons_append, List.nil_append, Nat.add_zero]
        refine V_same (X' := [oO A ea n, hO (A 3) (A 7) (rmO o), hA G (A 7) ea, hK G ea (rmH o hs (val, own, mark, lw, bits, s, ch)), eO (ea 14) s, iA G ((ea 14) 1) 96 val, iA G ((ea 14) 2) 96 own, iA G ((ea 14) 3) 96 mark, iA G ((ea 14) 4) 96 lw, eC G (ea 14), cX ((ea 14) 6) (ch 0), cX ((ea 14) 7) (ch 1), cX ((ea 14) 8) (ch 2), iA G ((ea 14) 9) 96 bits]) (opK (P := [oO A ea n, hO (A 3) (A 7) (rmO o), hA G (A 7) ea, hK G ea (rmH o hs (val, own, mark, lw, bits, s, ch))]) (Q := []) (a := (ea 14)) (e := (val, own, mark, lw, bits, s, ch))) ?_
        refine V_aload_n (i := 0) dX6_stop_54 rfl rfl ?_
        refine V_get (C := RX6) (T := TX6) (N := 9) (ci := 5) (q := 0) (ref := "OrderChains") 3 rfl il_X6_stop_X6 rfl rfl fl_X6_stop_27 rfl rfl dX6_stop_55 ?_
        refine V_get (C := RX2) (T := TX2) (N := 11) (ci := 2) (q := 4) (ref := "OrderChains$Engine") 4 rfl il_X6_stop_X2 rfl rfl fl_X6_stop_137 rfl rfl dX6_stop_58 ?_
        refine V_iload_n (i := 1) dX6_stop_61 rfl rfl ?_
        refine V_aaldC (q := 9) rfl (by omega) rfl dX6_stop_62 ?_
        refine V_callV (C := RX1) (q := 0) (ci := 1) (As := []) (rest := []) [10] (c_X1_unitsLeft l G (ea 14 6) (ch 0) (by have := (hq 0 (by decide)).2.2.2.1; omega) (by have := (hq 0 (by decide)).2.2.2.2.2.1; omega) (by have := (hq 0 (by decide)).2.2.2.1; omega)) vy_X1_unitsLeft gX6_stop_X1_unitsLeft rfl rfl rfl rfl rfl rfl rfl ⟨rfl, rfl⟩ ⟨rfl, rfl⟩ ⟨Nat.zero_le _, Nat.zero_le _⟩ rfl dX6_stop_63 (fun v Y hE => ?_)
        obtain ⟨rfl, rfl⟩ := hE
        refine ⟨rfl, ?_⟩
        dsimp only [vfill, List.set_cons_zero, List.set_cons_succ, Option.toList, List.cons_append, List.nil_append, Nat.add_zero]
        refine V_istore_n (i := 2) dX6_stop_66 rfl rfl rfl ?_
        dsimp only [List.set_cons_zero, List.set_cons_succ]
        refine V_aload_n (i := 0) dX6_stop_67 rfl rfl ?_
        refine V_get (C := RX6) (T := TX6) (N := 9) (ci := 5) (q := 0) (ref := "OrderChains") 3 rfl il_X6_stop_X6 rfl rfl fl_X6_stop_27 rfl rfl dX6_stop_68 ?_
        refine V_get (C := RX2) (T := TX2) (N := 11) (ci := 2) (q := 4) (ref := "OrderChains$Engine") 4 rfl il_X6_stop_X2 rfl rfl fl_X6_stop_137 rfl rfl dX6_stop_71 ?_
        refine V_iload_n (i := 1) dX6_stop_74 rfl rfl ?_
        refine V_aaldC (q := 9) rfl (by omega) rfl dX6_stop_75 ?_
        refine V_iconst (v := 0) dX6_stop_76 rfl ?_
        refine V_callV (C := RX1) (q := 0) (ci := 1) (As := _) (rest := []) [10] (c_X1_become l G (ea 14 6) 0 (ch 0)) vy_X1_become gX6_stop_X1_become rfl rfl rfl rfl rfl rfl rfl ⟨rfl, rfl⟩ ⟨rfl, rfl⟩ ⟨Nat.zero_le _, Nat.zero_le _⟩ rfl dX6_stop_77 (fun v Y hE => ?_)
        obtain ⟨rfl, rfl⟩ := hE
        refine ⟨rfl, ?_⟩
        dsimp only [vfill, List.set_cons_zero, List.set_cons_succ, Option.toList, List.cons_append, List.nil_append, Nat.add_zero]
        refine V_iload_n (i := 2) dX6_stop_80 rfl rfl ?_
        refine V_same (X' := [oO A ea n, hO (A 3) (A 7) (rmO o), hA G (A 7) ea, hK G ea (rmH o hs (val, own, mark, lw, bits, s, ch)), eK G (ea 14) (setC (val, own, mark, lw, bits, s, ch) 0 (qBc 0 (ch 0)))]) (opK (P := [oO A ea n, hO (A 3) (A 7) (rmO o), hA G (A 7) ea, hK G ea (rmH o hs (val, own, mark, lw, bits, s, ch))]) (Q := []) (a := (ea 14)) (e := (setC (val, own, mark, lw, bits, s, ch) 0 (qBc 0 (ch 0))))).symm ?_
        refine V_iret hR dX6_stop_81 hkc hks ?_
        exact ⟨⟨hz, h_30⟩, rfl, rfl⟩
      · refine V_same (X' := [oO A ea n, hO (A 3) (A 7) o, hA G (A 7) ea, hK G ea hs, eK G (ea 14) (val, own, mark, lw, bits, s, ch)]) (opK (P := [oO A ea n, hO (A 3) (A 7) o, hA G (A 7) ea, hK G ea hs]) (Q := []) (a := (ea 14)) (e := (val, own, mark, lw, bits, s, ch))).symm ?_
        refine V_ISE (is := 207) (text := "the channel is not busy") hT rfl xk_X6_stop_63 xi_X6_stop_63 xw_X6_stop_67 (List.mem_of_getElem? (i := 10) rfl) ⟨rfl, rfl⟩ hmx hmx dX6_stop_33 dX6_stop_36 dX6_stop_37 dX6_stop_39 dX6_stop_42 ?_
        exact ⟨Or.inr ⟨rfl, hz, h_30⟩, rfl⟩
    · refine V_get (C := RX6) (T := TX6) (N := 9) (ci := 5) (q := 0) (ref := "OrderChains") 3 rfl il_X6_stop_X6 rfl rfl fl_X6_stop_27 rfl rfl dX6_stop_18 ?_
      refine V_get (C := RX2) (T := TX2) (N := 11) (ci := 2) (q := 4) (ref := "OrderChains$Engine") 4 rfl il_X6_stop_X2 rfl rfl fl_X6_stop_137 rfl rfl dX6_stop_21 ?_
      refine V_iload_n (i := 1) dX6_stop_24 rfl rfl ?_
      refine V_aaldC (q := 9) rfl (by omega) rfl dX6_stop_25 ?_
      refine V_get (C := RX1) (T := TX1) (N := 13) (ci := 1) (q := 11) (ref := "OrderChains$Channel") 0 rfl il_X6_stop_X1 rfl rfl fl_X6_stop_141 rfl rfl dX6_stop_26 ?_
      refine V_iconst (v := 1) dX6_stop_29 rfl ?_
      refine V_icmp_eq (tgt := 43) (by have := (hq 0 (by decide)).1; have := (hq 1 (by decide)).1; have := (hq 2 (by decide)).1; omega) (by have := (hq 0 (by decide)).1; have := (hq 1 (by decide)).1; have := (hq 2 (by decide)).1; omega) dX6_stop_30 rfl (fun h_30 => ?_) (fun h_30 => ?_)
      · refine V_same (X' := [oO A ea n, hO (A 3) (A 7) o, hA G (A 7) ea, hK G ea hs, eK G (ea 14) (val, own, mark, lw, bits, s, ch)]) (opK (P := [oO A ea n, hO (A 3) (A 7) o, hA G (A 7) ea, hK G ea hs]) (Q := []) (a := (ea 14)) (e := (val, own, mark, lw, bits, s, ch))).symm ?_
        refine V_aload_n (i := 0) dX6_stop_43 rfl rfl ?_
        refine V_get (C := RX6) (T := TX6) (N := 9) (ci := 5) (q := 0) (ref := "OrderChains") 5 rfl il_X6_stop_X6 rfl rfl fl_X6_stop_37 rfl rfl dX6_stop_44 ?_
        refine V_aload_n (i := 0) dX6_stop_47 rfl rfl ?_
        refine V_get (C := RX6) (T := TX6) (N := 9) (ci := 5) (q := 0) (ref := "OrderChains") 3 rfl il_X6_stop_X6 rfl rfl fl_X6_stop_27 rfl rfl dX6_stop_48 ?_
        refine V_callV (C := RX3) (q := 0) (ci := 3) (As := _) (rest := []) [1, 2, 3, 4] (c_X3_remember l G (A 3) (A 7) ea (ea 14) o hs (val, own, mark, lw, bits, s, ch) h0 h1) vy_X3_remember gX6_stop_X3_remember rfl rfl rfl rfl rfl rfl rfl ⟨rfl, rfl⟩ ⟨rfl, rfl⟩ ⟨Nat.zero_le _, Nat.zero_le _⟩ rfl dX6_stop_51 (fun v Y hE => ?_)
        obtain ⟨rfl, rfl⟩ := hE
        refine ⟨rfl, ?_⟩
        dsimp only [vfill, List.set_cons_zero, List.set_cons_succ, Option.toList, List.cons_append, List.nil_append, Nat.add_zero]
        refine V_same (X' := [oO A ea n, hO (A 3) (A 7) (rmO o), hA G (A 7) ea, hK G ea (rmH o hs (val, own, mark, lw, bits, s, ch)), eO (ea 14) s, iA G ((ea 14) 1) 96 val, iA G ((ea 14) 2) 96 own, iA G ((ea 14) 3) 96 mark, iA G ((ea 14) 4) 96 lw, eC G (ea 14), cX ((ea 14) 6) (ch 0), cX ((ea 14) 7) (ch 1), cX ((ea 14) 8) (ch 2), iA G ((ea 14) 9) 96 bits]) (opK (P := [oO A ea n, hO (A 3) (A 7) (rmO o), hA G (A 7) ea, hK G ea (rmH o hs (val, own, mark, lw, bits, s, ch))]) (Q := []) (a := (ea 14)) (e := (val, own, mark, lw, bits, s, ch))) ?_
        refine V_aload_n (i := 0) dX6_stop_54 rfl rfl ?_
        refine V_get (C := RX6) (T := TX6) (N := 9) (ci := 5) (q := 0) (ref := "OrderChains") 3 rfl il_X6_stop_X6 rfl rfl fl_X6_stop_27 rfl rfl dX6_stop_55 ?_
        refine V_get (C := RX2) (T := TX2) (N := 11) (ci := 2) (q := 4) (ref := "OrderChains$Engine") 4 rfl il_X6_stop_X2 rfl rfl fl_X6_stop_137 rfl rfl dX6_stop_58 ?_
        refine V_iload_n (i := 1) dX6_stop_61 rfl rfl ?_
        refine V_aaldC (q := 9) rfl (by omega) rfl dX6_stop_62 ?_
        refine V_callV (C := RX1) (q := 0) (ci := 1) (As := []) (rest := []) [11] (c_X1_unitsLeft l G (ea 14 7) (ch 1) (by have := (hq 1 (by decide)).2.2.2.1; omega) (by have := (hq 1 (by decide)).2.2.2.2.2.1; omega) (by have := (hq 1 (by decide)).2.2.2.1; omega)) vy_X1_unitsLeft gX6_stop_X1_unitsLeft rfl rfl rfl rfl rfl rfl rfl ⟨rfl, rfl⟩ ⟨rfl, rfl⟩ ⟨Nat.zero_le _, Nat.zero_le _⟩ rfl dX6_stop_63 (fun v Y hE => ?_)
        obtain ⟨rfl, rfl⟩ := hE
        refine ⟨rfl, ?_⟩
        dsimp only [vfill, List.set_cons_zero, List.set_cons_succ, Option.toList, List.cons_append, List.nil_append, Nat.add_zero]
        refine V_istore_n (i := 2) dX6_stop_66 rfl rfl rfl ?_
        dsimp only [List.set_cons_zero, List.set_cons_succ]
        refine V_aload_n (i := 0) dX6_stop_67 rfl rfl ?_
        refine V_get (C := RX6) (T := TX6) (N := 9) (ci := 5) (q := 0) (ref := "OrderChains") 3 rfl il_X6_stop_X6 rfl rfl fl_X6_stop_27 rfl rfl dX6_stop_68 ?_
        refine V_get (C := RX2) (T := TX2) (N := 11) (ci := 2) (q := 4) (ref := "OrderChains$Engine") 4 rfl il_X6_stop_X2 rfl rfl fl_X6_stop_137 rfl rfl dX6_stop_71 ?_
        refine V_iload_n (i := 1) dX6_stop_74 rfl rfl ?_
        refine V_aaldC (q := 9) rfl (by omega) rfl dX6_stop_75 ?_
        refine V_iconst (v := 0) dX6_stop_76 rfl ?_
        refine V_callV (C := RX1) (q := 0) (ci := 1) (As := _) (rest := []) [11] (c_X1_become l G (ea 14 7) 0 (ch 1)) vy_X1_become gX6_stop_X1_become rfl rfl rfl rfl rfl rfl rfl ⟨rfl, rfl⟩ ⟨rfl, rfl⟩ ⟨Nat.zero_le _, Nat.zero_le _⟩ rfl dX6_stop_77 (fun v Y hE => ?_)
        obtain ⟨rfl, rfl⟩ := hE
        refine ⟨rfl, ?_⟩
        dsimp only [vfill, List.set_cons_zero, List.set_cons_succ, Option.toList, List.cons_append, List.nil_append, Nat.add_zero]
        refine V_iload_n (i := 2) dX6_stop_80 rfl rfl ?_
        refine V_same (X' := [oO A ea n, hO (A 3) (A 7) (rmO o), hA G (A 7) ea, hK G ea (rmH o hs (val, own, mark, lw, bits, s, ch)), eK G (ea 14) (setC (val, own, mark, lw, bits, s, ch) 1 (qBc 0 (ch 1)))]) (opK (P := [oO A ea n, hO (A 3) (A 7) (rmO o), hA G (A 7) ea, hK G ea (rmH o hs (val, own, mark, lw, bits, s, ch))]) (Q := []) (a := (ea 14)) (e := (setC (val, own, mark, lw, bits, s, ch) 1 (qBc 0 (ch 1))))).symm ?_
        refine V_iret hR dX6_stop_81 hkc hks ?_
        exact ⟨⟨hz, h_30⟩, rfl, rfl⟩
      · refine V_same (X' := [oO A ea n, hO (A 3) (A 7) o, hA G (A 7) ea, hK G ea hs, eK G (ea 14) (val, own, mark, lw, bits, s, ch)]) (opK (P := [oO A ea n, hO (A 3) (A 7) o, hA G (A 7) ea, hK G ea hs]) (Q := []) (a := (ea 14)) (e := (val, own, mark, lw, bits, s, ch))).symm ?_
        refine V_ISE (is := 207) (text := "the channel is not busy") hT rfl xk_X6_stop_63 xi_X6_stop_63 xw_X6_stop_67 (List.mem_of_getElem? (i := 10) rfl) ⟨rfl, rfl⟩ hmx hmx dX6_stop_33 dX6_stop_36 dX6_stop_37 dX6_stop_39 dX6_stop_42 ?_
        exact ⟨Or.inr ⟨rfl, hz, h_30⟩, rfl⟩
    · refine V_get (C := RX6) (T := TX6) (N := 9) (ci := 5) (q := 0) (ref := "OrderChains") 3 rfl il_X6_stop_X6 rfl rfl fl_X6_stop_27 rfl rfl dX6_stop_18 ?_
      refine V_get (C := RX2) (T := TX2) (N := 11) (ci := 2) (q := 4) (ref := "OrderChains$Engine") 4 rfl il_X6_stop_X2 rfl rfl fl_X6_stop_137 rfl rfl dX6_stop_21 ?_
      refine V_iload_n (i := 1) dX6_stop_24 rfl rfl ?_
      refine V_aaldC (q := 9) rfl (by omega) rfl dX6_stop_25 ?_
      refine V_get (C := RX1) (T := TX1) (N := 13) (ci := 1) (q := 12) (ref := "OrderChains$Channel") 0 rfl il_X6_stop_X1 rfl rfl fl_X6_stop_141 rfl rfl dX6_stop_26 ?_
      refine V_iconst (v := 1) dX6_stop_29 rfl ?_
      refine V_icmp_eq (tgt := 43) (by have := (hq 0 (by decide)).1; have := (hq 1 (by decide)).1; have := (hq 2 (by decide)).1; omega) (by have := (hq 0 (by decide)).1; have := (hq 1 (by decide)).1; have := (hq 2 (by decide)).1; omega) dX6_stop_30 rfl (fun h_30 => ?_) (fun h_30 => ?_)
      · refine V_same (X' := [oO A ea n, hO (A 3) (A 7) o, hA G (A 7) ea, hK G ea hs, eK G (ea 14) (val, own, mark, lw, bits, s, ch)]) (opK (P := [oO A ea n, hO (A 3) (A 7) o, hA G (A 7) ea, hK G ea hs]) (Q := []) (a := (ea 14)) (e := (val, own, mark, lw, bits, s, ch))).symm ?_
        refine V_aload_n (i := 0) dX6_stop_43 rfl rfl ?_
        refine V_get (C := RX6) (T := TX6) (N := 9) (ci := 5) (q := 0) (ref := "OrderChains") 5 rfl il_X6_stop_X6 rfl rfl fl_X6_stop_37 rfl rfl dX6_stop_44 ?_
        refine V_aload_n (i := 0) dX6_stop_47 rfl rfl ?_
        refine V_get (C := RX6) (T := TX6) (N := 9) (ci := 5) (q := 0) (ref := "OrderChains") 3 rfl il_X6_stop_X6 rfl rfl fl_X6_stop_27 rfl rfl dX6_stop_48 ?_
        refine V_callV (C := RX3) (q := 0) (ci := 3) (As := _) (rest := []) [1, 2, 3, 4] (c_X3_remember l G (A 3) (A 7) ea (ea 14) o hs (val, own, mark, lw, bits, s, ch) h0 h1) vy_X3_remember gX6_stop_X3_remember rfl rfl rfl rfl rfl rfl rfl ⟨rfl, rfl⟩ ⟨rfl, rfl⟩ ⟨Nat.zero_le _, Nat.zero_le _⟩ rfl dX6_stop_51 (fun v Y hE => ?_)
        obtain ⟨rfl, rfl⟩ := hE
        refine ⟨rfl, ?_⟩
        dsimp only [vfill, List.set_cons_zero, List.set_cons_succ, Option.toList, List.cons_append, List.nil_append, Nat.add_zero]
        refine V_same (X' := [oO A ea n, hO (A 3) (A 7) (rmO o), hA G (A 7) ea, hK G ea (rmH o hs (val, own, mark, lw, bits, s, ch)), eO (ea 14) s, iA G ((ea 14) 1) 96 val, iA G ((ea 14) 2) 96 own, iA G ((ea 14) 3) 96 mark, iA G ((ea 14) 4) 96 lw, eC G (ea 14), cX ((ea 14) 6) (ch 0), cX ((ea 14) 7) (ch 1), cX ((ea 14) 8) (ch 2), iA G ((ea 14) 9) 96 bits]) (opK (P := [oO A ea n, hO (A 3) (A 7) (rmO o), hA G (A 7) ea, hK G ea (rmH o hs (val, own, mark, lw, bits, s, ch))]) (Q := []) (a := (ea 14)) (e := (val, own, mark, lw, bits, s, ch))) ?_
        refine V_aload_n (i := 0) dX6_stop_54 rfl rfl ?_
        refine V_get (C := RX6) (T := TX6) (N := 9) (ci := 5) (q := 0) (ref := "OrderChains") 3 rfl il_X6_stop_X6 rfl rfl fl_X6_stop_27 rfl rfl dX6_stop_55 ?_
        refine V_get (C := RX2) (T := TX2) (N := 11) (ci := 2) (q := 4) (ref := "OrderChains$Engine") 4 rfl il_X6_stop_X2 rfl rfl fl_X6_stop_137 rfl rfl dX6_stop_58 ?_
        refine V_iload_n (i := 1) dX6_stop_61 rfl rfl ?_
        refine V_aaldC (q := 9) rfl (by omega) rfl dX6_stop_62 ?_
        refine V_callV (C := RX1) (q := 0) (ci := 1) (As := []) (rest := []) [12] (c_X1_unitsLeft l G (ea 14 8) (ch 2) (by have := (hq 2 (by decide)).2.2.2.1; omega) (by have := (hq 2 (by decide)).2.2.2.2.2.1; omega) (by have := (hq 2 (by decide)).2.2.2.1; omega)) vy_X1_unitsLeft gX6_stop_X1_unitsLeft rfl rfl rfl rfl rfl rfl rfl ⟨rfl, rfl⟩ ⟨rfl, rfl⟩ ⟨Nat.zero_le _, Nat.zero_le _⟩ rfl dX6_stop_63 (fun v Y hE => ?_)
        obtain ⟨rfl, rfl⟩ := hE
        refine ⟨rfl, ?_⟩
        dsimp only [vfill, List.set_cons_zero, List.set_cons_succ, Option.toList, List.cons_append, List.nil_append, Nat.add_zero]
        refine V_istore_n (i := 2) dX6_stop_66 rfl rfl rfl ?_
        dsimp only [List.set_cons_zero, List.set_cons_succ]
        refine V_aload_n (i := 0) dX6_stop_67 rfl rfl ?_
        refine V_get (C := RX6) (T := TX6) (N := 9) (ci := 5) (q := 0) (ref := "OrderChains") 3 rfl il_X6_stop_X6 rfl rfl fl_X6_stop_27 rfl rfl dX6_stop_68 ?_
        refine V_get (C := RX2) (T := TX2) (N := 11) (ci := 2) (q := 4) (ref := "OrderChains$Engine") 4 rfl il_X6_stop_X2 rfl rfl fl_X6_stop_137 rfl rfl dX6_stop_71 ?_
        refine V_iload_n (i := 1) dX6_stop_74 rfl rfl ?_
        refine V_aaldC (q := 9) rfl (by omega) rfl dX6_stop_75 ?_
        refine V_iconst (v := 0) dX6_stop_76 rfl ?_
        refine V_callV (C := RX1) (q := 0) (ci := 1) (As := _) (rest := []) [12] (c_X1_become l G (ea 14 8) 0 (ch 2)) vy_X1_become gX6_stop_X1_become rfl rfl rfl rfl rfl rfl rfl ⟨rfl, rfl⟩ ⟨rfl, rfl⟩ ⟨Nat.zero_le _, Nat.zero_le _⟩ rfl dX6_stop_77 (fun v Y hE => ?_)
        obtain ⟨rfl, rfl⟩ := hE
        refine ⟨rfl, ?_⟩
        dsimp only [vfill, List.set_cons_zero, List.set_cons_succ, Option.toList, List.cons_append, List.nil_append, Nat.add_zero]
        refine V_iload_n (i := 2) dX6_stop_80 rfl rfl ?_
        refine V_same (X' := [oO A ea n, hO (A 3) (A 7) (rmO o), hA G (A 7) ea, hK G ea (rmH o hs (val, own, mark, lw, bits, s, ch)), eK G (ea 14) (setC (val, own, mark, lw, bits, s, ch) 2 (qBc 0 (ch 2)))]) (opK (P := [oO A ea n, hO (A 3) (A 7) (rmO o), hA G (A 7) ea, hK G ea (rmH o hs (val, own, mark, lw, bits, s, ch))]) (Q := []) (a := (ea 14)) (e := (setC (val, own, mark, lw, bits, s, ch) 2 (qBc 0 (ch 2))))).symm ?_
        refine V_iret hR dX6_stop_81 hkc hks ?_
        exact ⟨⟨hz, h_30⟩, rfl, rfl⟩
      · refine V_same (X' := [oO A ea n, hO (A 3) (A 7) o, hA G (A 7) ea, hK G ea hs, eK G (ea 14) (val, own, mark, lw, bits, s, ch)]) (opK (P := [oO A ea n, hO (A 3) (A 7) o, hA G (A 7) ea, hK G ea hs]) (Q := []) (a := (ea 14)) (e := (val, own, mark, lw, bits, s, ch))).symm ?_
        refine V_ISE (is := 207) (text := "the channel is not busy") hT rfl xk_X6_stop_63 xi_X6_stop_63 xw_X6_stop_67 (List.mem_of_getElem? (i := 10) rfl) ⟨rfl, rfl⟩ hmx hmx dX6_stop_33 dX6_stop_36 dX6_stop_37 dX6_stop_39 dX6_stop_42 ?_
        exact ⟨Or.inr ⟨rfl, hz, h_30⟩, rfl⟩
  · refine V_IOB (is := 135) (text := "no such channel") hT rfl xk_X6_stop_113 xi_X6_stop_113 xw_X6_stop_117 (List.mem_of_getElem? (i := 3) rfl) ⟨rfl, rfl⟩ hmx hmx dX6_stop_7 dX6_stop_10 dX6_stop_11 dX6_stop_13 dX6_stop_16 ?_
    exact ⟨Or.inl ⟨rfl, b00 h_4⟩, rfl⟩

theorem nT_l32 (t : Nat) (ch : Nat → Nat → Nat) : nT t ch < 4294967296 := by
  unfold nT
  repeat' split
  all_goals omega
abbrev rX6_run : Room := { frames := 6, cells := 1, slots := 6, locals := 133 }
theorem vy_X6_run : vY yX6_run wsX6_run cX6_run 2 (some .int) 1 := ⟨⟨_, rfl⟩, by decide +kernel, by decide +kernel, by decide +kernel⟩
theorem xk_X6_run_56 : Cond.classLink RX6 56 "java/lang/IllegalArgumentException" ∈ wsX6_run := List.mem_of_getElem? (i := 1) rfl
theorem xi_X6_run_56 : Cond.initialized "java/lang/IllegalArgumentException" ∈ wsX6_run := List.mem_of_getElem? (i := 2) rfl
theorem xw_X6_run_60 : ∀ w ∈ (vx_atS RX6 60 sIAE nms).filter goodWord, w ∈ wsX6_run := fun _ h => List.mem_cons_of_mem _ (List.mem_append_left _ (List.mem_append_right _ h))
theorem fl_X6_run_27 : Cond.fieldLink RX6 27 "OrderChains" "live" "LOrderChains$Engine;" ∈ wsX6_run := List.mem_of_getElem? (i := 5) rfl
theorem il_X6_run_X6 : ∀ w ∈ wsX60, w ∈ wsX6_run := fun _ h => List.mem_cons_of_mem _ (List.mem_append_left _ (List.mem_append_left _ (List.mem_append_left _ (List.mem_append_left _ (List.mem_append_left _ (List.mem_append_right _ h))))))
theorem fl_X6_run_37 : Cond.fieldLink RX6 37 "OrderChains" "history" "LOrderChains$History;" ∈ wsX6_run := List.mem_of_getElem? (i := 6) rfl
theorem xk_X6_run_63 : Cond.classLink RX6 63 "java/lang/IllegalStateException" ∈ wsX6_run := List.mem_of_getElem? (i := 3) rfl
theorem xi_X6_run_63 : Cond.initialized "java/lang/IllegalStateException" ∈ wsX6_run := List.mem_of_getElem? (i := 4) rfl
theorem xw_X6_run_67 : ∀ w ∈ (vx_atS RX6 67 sISE nms).filter goodWord, w ∈ wsX6_run := fun _ h => List.mem_cons_of_mem _ (List.mem_append_right _ h)
set_option maxHeartbeats 4000000 in
set_option maxRecDepth 100000 in
/-- run -/
theorem c_X6_run (l : Launch) (hst : l.stackTraces = false) (G : vG) (A : Nat → Nat) (ea : Nat → Nat → Nat) (o : Nat → Nat) (hs : Nat → vE) (n w : Nat) (e : vE) (he : eB e) (h0 : o 0 < 14) (h1 : o 1 < 15) (hw : w < 4294967296) : Kx l G yX6_run wsX6_run rX6_run [.ref (A 0), .int (nI w)] [oO A ea n, hO (A 3) (A 7) o, hA G (A 7) ea, hK G ea hs, eK G (ea 14) e] (fun v Y => (1 ≤ w ∧ w < 100 ∧ ¬ (nT (e.2.2.2.2.2.1 0) e.2.2.2.2.2.2) = 4294967287) ∧ v = some (.int (nI (runC w e).1)) ∧ Y = [oO A ea n, hO (A 3) (A 7) (rmO o), hA G (A 7) ea, hK G ea (rmH o hs e), eK G (ea 14) (runC w e).2]) (fun c Y => ((c = sIAE ∧ ¬ (1 ≤ w ∧ w < 100)) ∨ (c = sISE ∧ (1 ≤ w ∧ w < 100) ∧ (nT (e.2.2.2.2.2.1 0) e.2.2.2.2.2.2) = 4294967287)) ∧ Y = [oO A ea n, hO (A 3) (A 7) o, hA G (A 7) ea, hK G ea hs, eK G (ea 14) e]) 1 6 := by
  refine V_enterX (own := RX6) [some (.ref (A 0)), some (.int (nI w))] hst (by decide +kernel) rfl rfl (Nat.le_of_ble_eq_true rfl) rfl (fun Γ hR hT => ?_)
  have hkc : 0 ≤ 1 := Nat.zero_le _
  have hks : 0 ≤ 6 := Nat.zero_le _
  have hmx : 0 + 1 ≤ 1 ∧ 0 + 6 ≤ 6 := ⟨by decide, by decide⟩
  obtain ⟨val, own, mark, lw, bits, s, ch⟩ := e
  obtain ⟨hv, ho, hm, hb, hs0, hs4, hq⟩ := id he
  dsimp only at hv ho hm hb hs0 hs4 hq
  refine V_iload_n (i := 1) dX6_run_0 rfl rfl ?_
  refine V_iconst (v := 1) dX6_run_1 rfl ?_
  refine V_icmp_ltA (tgt := 11) (by omega) (by omega) dX6_run_2 rfl (fun h_2 => ?_) (fun h_2 => ?_)
  · refine V_IAE (is := 215) (text := "no such number of ticks") hT rfl xk_X6_run_56 xi_X6_run_56 xw_X6_run_60 (List.mem_of_getElem? (i := 11) rfl) ⟨rfl, rfl⟩ hmx hmx dX6_run_11 dX6_run_14 dX6_run_15 dX6_run_17 dX6_run_20 ?_
    exact ⟨Or.inl ⟨rfl, by omega⟩, rfl⟩
  · refine V_iload_n (i := 1) dX6_run_5 rfl rfl ?_
    refine V_bipush (v := 99) dX6_run_6 (by decide) ?_
    refine V_icmp_leA (tgt := 21) (by omega) (by omega) dX6_run_8 rfl (fun h_8 => ?_) (fun h_8 => ?_)
    · refine V_same (X' := [oO A ea n, hO (A 3) (A 7) o, hA G (A 7) ea, hK G ea hs, eO (ea 14) s, iA G ((ea 14) 1) 96 val, iA G ((ea 14) 2) 96 own, iA G ((ea 14) 3) 96 mark, iA G ((ea 14) 4) 96 lw, eC G (ea 14), cX ((ea 14) 6) (ch 0), cX ((ea 14) 7) (ch 1), cX ((ea 14) 8) (ch 2), iA G ((ea 14) 9) 96 bits]) (opK (P := [oO A ea n, hO (A 3) (A 7) o, hA G (A 7) ea, hK G ea hs]) (Q := []) (a := (ea 14)) (e := (val, own, mark, lw, bits, s, ch))) ?_
      refine V_aload_n (i := 0) dX6_run_21 rfl rfl ?_
      refine V_get (C := RX6) (T := TX6) (N := 9) (ci := 5) (q := 0) (ref := "OrderChains") 3 rfl il_X6_run_X6 rfl rfl fl_X6_run_27 rfl rfl dX6_run_22 ?_
      refine V_callV (C := RX2) (q := 0) (ci := 2) (As := []) (rest := []) [4, 9, 10, 11, 12] (c_X2_nextTurn l G (ea 14) s ch hs0 (by have := (hq 0 (by decide)).1; omega) (by have := (hq 1 (by decide)).1; omega) (by have := (hq 2 (by decide)).1; omega)) vy_X2_nextTurn gX6_run_X2_nextTurn rfl rfl rfl rfl rfl rfl rfl ⟨rfl, rfl⟩ ⟨rfl, rfl⟩ ⟨Nat.zero_le _, Nat.zero_le _⟩ rfl dX6_run_25 (fun v Y hE => ?_)
      obtain ⟨rfl, rfl⟩ := hE
      refine ⟨rfl, ?_⟩
      dsimp only [vfill, List.set_cons_zero, List.set_cons_succ, Option.toList, List.cons_append, List.nil_append, Nat.add_zero]
      refine V_bipush (v := 4294967287) dX6_run_28 (by decide) ?_
      refine V_icmp_ne (tgt := 43) (nT_l32 _ _) (by omega) dX6_run_30 rfl (fun h_30 => ?_) (fun h_30 => ?_)
      · refine V_same (X' := [oO A ea n, hO (A 3) (A 7) o, hA G (A 7) ea, hK G ea hs, eK G (ea 14) (val, own, mark, lw, bits, s, ch)]) (opK (P := [oO A ea n, hO (A 3) (A 7) o, hA G (A 7) ea, hK G ea hs]) (Q := []) (a := (ea 14)) (e := (val, own, mark, lw, bits, s, ch))).symm ?_
        refine V_aload_n (i := 0) dX6_run_43 rfl rfl ?_
        refine V_get (C := RX6) (T := TX6) (N := 9) (ci := 5) (q := 0) (ref := "OrderChains") 5 rfl il_X6_run_X6 rfl rfl fl_X6_run_37 rfl rfl dX6_run_44 ?_
        refine V_aload_n (i := 0) dX6_run_47 rfl rfl ?_
        refine V_get (C := RX6) (T := TX6) (N := 9) (ci := 5) (q := 0) (ref := "OrderChains") 3 rfl il_X6_run_X6 rfl rfl fl_X6_run_27 rfl rfl dX6_run_48 ?_
        refine V_callV (C := RX3) (q := 0) (ci := 3) (As := _) (rest := []) [1, 2, 3, 4] (c_X3_remember l G (A 3) (A 7) ea (ea 14) o hs (val, own, mark, lw, bits, s, ch) h0 h1) vy_X3_remember gX6_run_X3_remember rfl rfl rfl rfl rfl rfl rfl ⟨rfl, rfl⟩ ⟨rfl, rfl⟩ ⟨Nat.zero_le _, Nat.zero_le _⟩ rfl dX6_run_51 (fun v Y hE => ?_)
        obtain ⟨rfl, rfl⟩ := hE
        refine ⟨rfl, ?_⟩
        dsimp only [vfill, List.set_cons_zero, List.set_cons_succ, Option.toList, List.cons_append, List.nil_append, Nat.add_zero]
        refine V_aload_n (i := 0) dX6_run_54 rfl rfl ?_
        refine V_get (C := RX6) (T := TX6) (N := 9) (ci := 5) (q := 0) (ref := "OrderChains") 3 rfl il_X6_run_X6 rfl rfl fl_X6_run_27 rfl rfl dX6_run_55 ?_
        refine V_iload_n (i := 1) dX6_run_58 rfl rfl ?_
        refine V_callV (C := RX2) (q := 0) (ci := 2) (As := _) (rest := []) [4] (c_X2_letTicksGoBy l G (ea 14) (val, own, mark, lw, bits, s, ch) w (by omega) he) vy_X2_letTicksGoBy gX6_run_X2_letTicksGoBy rfl rfl rfl rfl rfl rfl rfl ⟨rfl, rfl⟩ ⟨rfl, rfl⟩ ⟨Nat.zero_le _, Nat.zero_le _⟩ rfl dX6_run_59 (fun v Y hE => ?_)
        obtain ⟨rfl, rfl⟩ := hE
        refine ⟨rfl, ?_⟩
        dsimp only [vfill, List.set_cons_zero, List.set_cons_succ, Option.toList, List.cons_append, List.nil_append, Nat.add_zero]
        refine V_iret hR dX6_run_62 hkc hks ?_
        exact ⟨⟨by omega, by omega, h_30⟩, rfl, rfl⟩
      · refine V_same (X' := [oO A ea n, hO (A 3) (A 7) o, hA G (A 7) ea, hK G ea hs, eK G (ea 14) (val, own, mark, lw, bits, s, ch)]) (opK (P := [oO A ea n, hO (A 3) (A 7) o, hA G (A 7) ea, hK G ea hs]) (Q := []) (a := (ea 14)) (e := (val, own, mark, lw, bits, s, ch))).symm ?_
        refine V_ISE (is := 217) (text := "no channel is busy") hT rfl xk_X6_run_63 xi_X6_run_63 xw_X6_run_67 (List.mem_of_getElem? (i := 12) rfl) ⟨rfl, rfl⟩ hmx hmx dX6_run_33 dX6_run_36 dX6_run_37 dX6_run_39 dX6_run_42 ?_
        exact ⟨Or.inr ⟨rfl, by omega, h_30⟩, rfl⟩
    · refine V_IAE (is := 215) (text := "no such number of ticks") hT rfl xk_X6_run_56 xi_X6_run_56 xw_X6_run_60 (List.mem_of_getElem? (i := 11) rfl) ⟨rfl, rfl⟩ hmx hmx dX6_run_11 dX6_run_14 dX6_run_15 dX6_run_17 dX6_run_20 ?_
      exact ⟨Or.inl ⟨rfl, by omega⟩, rfl⟩

abbrev rX6_undo : Room := { frames := 6, cells := 1, slots := 6, locals := 92 }
theorem vy_X6_undo : vY yX6_undo wsX6_undo cX6_undo 1 (some .int) 0 := ⟨⟨_, rfl⟩, by decide +kernel, by decide +kernel, by decide +kernel⟩
theorem fl_X6_undo_37 : Cond.fieldLink RX6 37 "OrderChains" "history" "LOrderChains$History;" ∈ wsX6_undo := List.mem_of_getElem? (i := 3) rfl
theorem il_X6_undo_X6 : ∀ w ∈ wsX60, w ∈ wsX6_undo := fun _ h => List.mem_cons_of_mem _ (List.mem_append_left _ (List.mem_append_left _ (List.mem_append_left _ (List.mem_append_left _ (List.mem_append_right _ h)))))
theorem fl_X6_undo_222 : Cond.fieldLink RX6 222 "OrderChains$History" "size" "I" ∈ wsX6_undo := List.mem_of_getElem? (i := 4) rfl
theorem il_X6_undo_X3 : ∀ w ∈ wsX30, w ∈ wsX6_undo := fun _ h => List.mem_cons_of_mem _ (List.mem_append_left _ (List.mem_append_left _ (List.mem_append_left _ (List.mem_append_right _ h))))
theorem fl_X6_undo_27 : Cond.fieldLink RX6 27 "OrderChains" "live" "LOrderChains$Engine;" ∈ wsX6_undo := List.mem_of_getElem? (i := 5) rfl
theorem xk_X6_undo_63 : Cond.classLink RX6 63 "java/lang/IllegalStateException" ∈ wsX6_undo := List.mem_of_getElem? (i := 1) rfl
theorem xi_X6_undo_63 : Cond.initialized "java/lang/IllegalStateException" ∈ wsX6_undo := List.mem_of_getElem? (i := 2) rfl
theorem xw_X6_undo_67 : ∀ w ∈ (vx_atS RX6 67 sISE nms).filter goodWord, w ∈ wsX6_undo := fun _ h => List.mem_cons_of_mem _ (List.mem_append_right _ h)
set_option maxHeartbeats 4000000 in
set_option maxRecDepth 100000 in
/-- undo -/
theorem c_X6_undo (l : Launch) (hst : l.stackTraces = false) (G : vG) (A : Nat → Nat) (ea : Nat → Nat → Nat) (o : Nat → Nat) (hs : Nat → vE) (n : Nat) (e : vE) (he : eB e) (h0 : o 0 < 14) (h1 : o 1 < 15) : Kx l G yX6_undo wsX6_undo rX6_undo [.ref (A 0)] [oO A ea n, hO (A 3) (A 7) o, hA G (A 7) ea, hK G ea hs, eK G (ea 14) e] (fun v Y => 0 < o 1 ∧ v = some (.int (nI (o 1 - 1))) ∧ Y = [oO A ea n, hO (A 3) (A 7) (va_up o 1 (o 1 - 1)), hA G (A 7) ea, hK G ea hs, eK G (ea 14) (cpC e (hs ((o 0 + (o 1 - 1)) % 14)))]) (fun c Y => (c = sISE ∧ o 1 = 0) ∧ Y = [oO A ea n, hO (A 3) (A 7) o, hA G (A 7) ea, hK G ea hs, eK G (ea 14) e]) 1 6 := by
  refine V_enterX (own := RX6) [some (.ref (A 0))] hst (by decide +kernel) rfl rfl (Nat.le_of_ble_eq_true rfl) rfl (fun Γ hR hT => ?_)
  have hkc : 0 ≤ 1 := Nat.zero_le _
  have hks : 0 ≤ 6 := Nat.zero_le _
  have hmx : 0 + 1 ≤ 1 ∧ 0 + 6 ≤ 6 := ⟨by decide, by decide⟩
  refine V_aload_n (i := 0) dX6_undo_0 rfl rfl ?_
  refine V_get (C := RX6) (T := TX6) (N := 9) (ci := 5) (q := 0) (ref := "OrderChains") 5 rfl il_X6_undo_X6 rfl rfl fl_X6_undo_37 rfl rfl dX6_undo_1 ?_
  refine V_get (C := RX3) (T := TX3) (N := 3) (ci := 3) (q := 1) (ref := "OrderChains$History") 2 rfl il_X6_undo_X3 rfl rfl fl_X6_undo_222 rfl rfl dX6_undo_4 ?_
  refine V_if_ne (tgt := 20) (by omega) dX6_undo_7 rfl (fun h_7 => ?_) (fun h_7 => ?_)
  · refine V_aload_n (i := 0) dX6_undo_20 rfl rfl ?_
    refine V_get (C := RX6) (T := TX6) (N := 9) (ci := 5) (q := 0) (ref := "OrderChains") 5 rfl il_X6_undo_X6 rfl rfl fl_X6_undo_37 rfl rfl dX6_undo_21 ?_
    refine V_aload_n (i := 0) dX6_undo_24 rfl rfl ?_
    refine V_get (C := RX6) (T := TX6) (N := 9) (ci := 5) (q := 0) (ref := "OrderChains") 3 rfl il_X6_undo_X6 rfl rfl fl_X6_undo_27 rfl rfl dX6_undo_25 ?_
    refine V_callV (C := RX3) (q := 0) (ci := 3) (As := _) (rest := []) [1, 2, 3, 4] (c_X3_takeBack l G (A 3) (A 7) ea (ea 14) o hs e h0 h1 (by omega)) vy_X3_takeBack gX6_undo_X3_takeBack rfl rfl rfl rfl rfl rfl rfl ⟨rfl, rfl⟩ ⟨rfl, rfl⟩ ⟨Nat.zero_le _, Nat.zero_le _⟩ rfl dX6_undo_28 (fun v Y hE => ?_)
    obtain ⟨rfl, rfl⟩ := hE
    refine ⟨rfl, ?_⟩
    dsimp only [vfill, List.set_cons_zero, List.set_cons_succ, Option.toList, List.cons_append, List.nil_append, Nat.add_zero]
    refine V_aload_n (i := 0) dX6_undo_31 rfl rfl ?_
    refine V_get (C := RX6) (T := TX6) (N := 9) (ci := 5) (q := 0) (ref := "OrderChains") 5 rfl il_X6_undo_X6 rfl rfl fl_X6_undo_37 rfl rfl dX6_undo_32 ?_
    refine V_get (C := RX3) (T := TX3) (N := 3) (ci := 3) (q := 1) (ref := "OrderChains$History") 2 rfl il_X6_undo_X3 rfl rfl fl_X6_undo_222 rfl rfl dX6_undo_35 ?_
    refine V_iret hR dX6_undo_38 hkc hks ?_
    exact ⟨by omega, rfl, rfl⟩
  · refine V_ISE (is := 225) (text := "no state is remembered") hT rfl xk_X6_undo_63 xi_X6_undo_63 xw_X6_undo_67 (List.mem_of_getElem? (i := 13) rfl) ⟨rfl, rfl⟩ hmx hmx dX6_undo_10 dX6_undo_13 dX6_undo_14 dX6_undo_16 dX6_undo_19 ?_
    exact ⟨⟨rfl, by omega⟩, rfl⟩

abbrev rX6_lookAhead : Room := { frames := 6, cells := 0, slots := 0, locals := 133 }
theorem vy_X6_lookAhead : vY yX6_lookAhead wsX6_lookAhead cX6_lookAhead 2 none 1 := ⟨⟨_, rfl⟩, by decide +kernel, by decide +kernel, by decide +kernel⟩
theorem fl_X6_lookAhead_31 : Cond.fieldLink RX6 31 "OrderChains" "trial" "LOrderChains$Engine;" ∈ wsX6_lookAhead := List.mem_of_getElem? (i := 1) rfl
theorem il_X6_lookAhead_X6 : ∀ w ∈ wsX60, w ∈ wsX6_lookAhead := fun _ h => List.mem_cons_of_mem _ (List.mem_append_left _ (List.mem_append_left _ (List.mem_append_right _ h)))
theorem fl_X6_lookAhead_27 : Cond.fieldLink RX6 27 "OrderChains" "live" "LOrderChains$Engine;" ∈ wsX6_lookAhead := List.mem_of_getElem? (i := 2) rfl
set_option maxHeartbeats 4000000 in
set_option maxRecDepth 100000 in
/-- lookAhead -/
theorem c_X6_lookAhead (l : Launch) (G : vG) (A : Nat → Nat) (ea : Nat → Nat → Nat) (n m : Nat) (e t : vE) (he : eB e) (hm : m < 2147483648) : Kc l G yX6_lookAhead wsX6_lookAhead rX6_lookAhead [.ref (A 0), .int (nI m)] [oO A ea n, eK G (ea 14) e, eK G (ea 15) t] (fun v Y => v = none ∧ Y = [oO A ea n, eK G (ea 14) e, eK G (ea 15) (laC m t e)]) 0 0 := by
  refine V_enter (own := RX6) [some (.ref (A 0)), some (.int (nI m))] (by decide +kernel) rfl rfl (Nat.le_of_ble_eq_true rfl) rfl (fun Γ hR hin => ?_)
  have hkc : 0 ≤ 0 := Nat.le_refl 0
  have hks : 0 ≤ 0 := Nat.le_refl 0
  refine V_aload_n (i := 0) dX6_lookAhead_0 rfl rfl ?_
  refine V_get (C := RX6) (T := TX6) (N := 9) (ci := 5) (q := 0) (ref := "OrderChains") 4 rfl il_X6_lookAhead_X6 rfl rfl fl_X6_lookAhead_31 rfl rfl dX6_lookAhead_1 ?_
  refine V_aload_n (i := 0) dX6_lookAhead_4 rfl rfl ?_
  refine V_get (C := RX6) (T := TX6) (N := 9) (ci := 5) (q := 0) (ref := "OrderChains") 3 rfl il_X6_lookAhead_X6 rfl rfl fl_X6_lookAhead_27 rfl rfl dX6_lookAhead_5 ?_
  refine V_callV (C := RX2) (q := 0) (ci := 2) (As := _) (rest := []) [2, 1] (c_X2_copyFromK l G (ea 15) (ea 14) t e) vy_X2_copyFrom gX6_lookAhead_X2_copyFrom rfl rfl rfl rfl rfl rfl rfl ⟨rfl, rfl⟩ ⟨rfl, rfl⟩ ⟨Nat.zero_le _, Nat.zero_le _⟩ rfl dX6_lookAhead_8 (fun v Y hE => ?_)
  obtain ⟨rfl, rfl⟩ := hE
  refine ⟨rfl, ?_⟩
  dsimp only [vfill, List.set_cons_zero, List.set_cons_succ, Option.toList, List.cons_append, List.nil_append, Nat.add_zero]
  refine V_aload_n (i := 0) dX6_lookAhead_11 rfl rfl ?_
  refine V_get (C := RX6) (T := TX6) (N := 9) (ci := 5) (q := 0) (ref := "OrderChains") 4 rfl il_X6_lookAhead_X6 rfl rfl fl_X6_lookAhead_31 rfl rfl dX6_lookAhead_12 ?_
  refine V_iload_n (i := 1) dX6_lookAhead_15 rfl rfl ?_
  refine V_callV (C := RX2) (q := 0) (ci := 2) (As := _) (rest := []) [2] (c_X2_letTicksGoBy l G (ea 15) (cpC t e) m hm (eB_cp he)) vy_X2_letTicksGoBy gX6_lookAhead_X2_letTicksGoBy rfl rfl rfl rfl rfl rfl rfl ⟨rfl, rfl⟩ ⟨rfl, rfl⟩ ⟨Nat.zero_le _, Nat.zero_le _⟩ rfl dX6_lookAhead_16 (fun v Y hE => ?_)
  obtain ⟨rfl, rfl⟩ := hE
  refine ⟨rfl, ?_⟩
  dsimp only [vfill, List.set_cons_zero, List.set_cons_succ, Option.toList, List.cons_append, List.nil_append, Nat.add_zero]
  refine V_pop dX6_lookAhead_19 rfl ?_
  refine V_vret hR dX6_lookAhead_20 hkc hks ?_
  exact ⟨rfl, rfl⟩

abbrev rX6_endOf : Room := { frames := 7, cells := 1, slots := 6, locals := 154 }
theorem vy_X6_endOf : vY yX6_endOf wsX6_endOf cX6_endOf 3 (some .int) 1 := ⟨⟨_, rfl⟩, by decide +kernel, by decide +kernel, by decide +kernel⟩
theorem fl_X6_endOf_31 : Cond.fieldLink RX6 31 "OrderChains" "trial" "LOrderChains$Engine;" ∈ wsX6_endOf := List.mem_of_getElem? (i := 3) rfl
theorem il_X6_endOf_X6 : ∀ w ∈ wsX60, w ∈ wsX6_endOf := fun _ h => List.mem_cons_of_mem _ (List.mem_append_left _ (List.mem_append_left _ (List.mem_append_left _ (List.mem_append_right _ h))))
theorem fl_X6_endOf_137 : Cond.fieldLink RX6 137 "OrderChains$Engine" "channels" "[LOrderChains$Channel;" ∈ wsX6_endOf := List.mem_of_getElem? (i := 4) rfl
theorem il_X6_endOf_X2 : ∀ w ∈ wsX20, w ∈ wsX6_endOf := fun _ h => List.mem_cons_of_mem _ (List.mem_append_left _ (List.mem_append_left _ (List.mem_append_right _ h)))
theorem fl_X6_endOf_141 : Cond.fieldLink RX6 141 "OrderChains$Channel" "condition" "I" ∈ wsX6_endOf := List.mem_of_getElem? (i := 5) rfl
theorem il_X6_endOf_X1 : ∀ w ∈ wsX10, w ∈ wsX6_endOf := fun _ h => List.mem_cons_of_mem _ (List.mem_append_left _ (List.mem_append_right _ h))
theorem fl_X6_endOf_149 : Cond.fieldLink RX6 149 "OrderChains$Channel" "cause" "I" ∈ wsX6_endOf := List.mem_of_getElem? (i := 6) rfl
theorem xk_X6_endOf_113 : Cond.classLink RX6 113 "java/lang/IndexOutOfBoundsException" ∈ wsX6_endOf := List.mem_of_getElem? (i := 1) rfl
theorem xi_X6_endOf_113 : Cond.initialized "java/lang/IndexOutOfBoundsException" ∈ wsX6_endOf := List.mem_of_getElem? (i := 2) rfl
theorem xw_X6_endOf_117 : ∀ w ∈ (vx_atS RX6 117 sIOB nms).filter goodWord, w ∈ wsX6_endOf := fun _ h => List.mem_cons_of_mem _ (List.mem_append_right _ h)
set_option maxHeartbeats 4000000 in
set_option maxRecDepth 100000 in
/-- endOf -/
theorem c_X6_endOf (l : Launch) (hst : l.stackTraces = false) (G : vG) (A : Nat → Nat) (ea : Nat → Nat → Nat) (h : Nat) (n : Nat) (e t : vE) (he : eB e) (hh : h < 4294967296) : Kx l G yX6_endOf wsX6_endOf rX6_endOf [.ref (A 0), .int (nI h)] [oO A ea n, eK G (ea 14) e, eK G (ea 15) t] (fun v Y => h < 3 ∧ v = some (.int (nI (if (laC 500 t e).2.2.2.2.2.2 h 0 = 2 then 0 else (laC 500 t e).2.2.2.2.2.2 h 2))) ∧ Y = [oO A ea n, eK G (ea 14) e, eK G (ea 15) (laC 500 t e)]) (fun c Y => (c = sIOB ∧ ¬ h < 3) ∧ Y = [oO A ea n, eK G (ea 14) e, eK G (ea 15) t]) 1 6 := by
  refine V_enterX (own := RX6) [some (.ref (A 0)), some (.int (nI h)), none] hst (by decide +kernel) rfl rfl (Nat.le_of_ble_eq_true rfl) rfl (fun Γ hR hT => ?_)
  have hkc : 0 ≤ 1 := Nat.zero_le _
  have hks : 0 ≤ 6 := Nat.zero_le _
  have hmx : 0 + 1 ≤ 1 ∧ 0 + 6 ≤ 6 := ⟨by decide, by decide⟩
  refine V_iload_n (i := 1) dX6_endOf_0 rfl rfl ?_
  refine V_callS (As := _) (rest := []) [] (c_X6_isChannel l G (h) hh) vy_X6_isChannel gX6_endOf_X6_isChannel rfl rfl rfl rfl ⟨rfl, rfl⟩ ⟨rfl, rfl⟩ ⟨Nat.zero_le _, Nat.zero_le _⟩ rfl dX6_endOf_1 (fun v Y hE => ?_)
  obtain ⟨rfl, rfl⟩ := hE
  refine ⟨rfl, ?_⟩
  dsimp only [vfill, List.set_cons_zero, List.set_cons_succ, Option.toList, List.cons_append, List.nil_append, Nat.add_zero]
  refine V_if_ne (tgt := 17) (by split <;> decide) dX6_endOf_4 rfl (fun h_4 => ?_) (fun h_4 => ?_)
  · have hz := b01 h_4
    refine V_aload_n (i := 0) dX6_endOf_17 rfl rfl ?_
    refine V_sipush (v := 500) dX6_endOf_18 (by decide) ?_
    refine V_callV (C := RX6) (q := 0) (ci := 5) (As := _) (rest := []) [0, 1, 2] (c_X6_lookAhead l G A ea n 500 e t he (by decide)) vy_X6_lookAhead gX6_endOf_X6_lookAhead rfl rfl rfl rfl rfl rfl rfl ⟨rfl, rfl⟩ ⟨rfl, rfl⟩ ⟨Nat.zero_le _, Nat.zero_le _⟩ rfl dX6_endOf_21 (fun v Y hE => ?_)
    obtain ⟨rfl, rfl⟩ := hE
    refine ⟨rfl, ?_⟩
    dsimp only [vfill, List.set_cons_zero, List.set_cons_succ, Option.toList, List.cons_append, List.nil_append, Nat.add_zero]
    have hT9 := eB_run 500 _ (eB_cp (e := t) he)
    obtain ⟨hv, ho, hm, hb, hs0, hs4, hq⟩ := id hT9
    refine V_same (X' := [oO A ea n, eK G (ea 14) e, eO (ea 15) (laC 500 t e).2.2.2.2.2.1, iA G ((ea 15) 1) 96 (laC 500 t e).1, iA G ((ea 15) 2) 96 (laC 500 t e).2.1, iA G ((ea 15) 3) 96 (laC 500 t e).2.2.1, iA G ((ea 15) 4) 96 (laC 500 t e).2.2.2.1, eC G (ea 15), cX ((ea 15) 6) ((laC 500 t e).2.2.2.2.2.2 0), cX ((ea 15) 7) ((laC 500 t e).2.2.2.2.2.2 1), cX ((ea 15) 8) ((laC 500 t e).2.2.2.2.2.2 2), iA G ((ea 15) 9) 96 (laC 500 t e).2.2.2.2.1]) (opK (P := [oO A ea n, eK G (ea 14) e]) (Q := []) (a := (ea 15)) (e := (laC 500 t e))) ?_
    refine V_aload_n (i := 0) dX6_endOf_24 rfl rfl ?_
    rcases (show h = 0 ∨ h = 1 ∨ h = 2 by omega) with rfl | rfl | rfl
    · refine V_get (C := RX6) (T := TX6) (N := 9) (ci := 5) (q := 0) (ref := "OrderChains") 4 rfl il_X6_endOf_X6 rfl rfl fl_X6_endOf_31 rfl rfl dX6_endOf_25 ?_
      refine V_get (C := RX2) (T := TX2) (N := 11) (ci := 2) (q := 2) (ref := "OrderChains$Engine") 4 rfl il_X6_endOf_X2 rfl rfl fl_X6_endOf_137 rfl rfl dX6_endOf_28 ?_
      refine V_iload_n (i := 1) dX6_endOf_31 rfl rfl ?_
      refine V_aaldC (q := 7) rfl (by omega) rfl dX6_endOf_32 ?_
      refine V_astore_n (i := 2) dX6_endOf_33 rfl rfl rfl ?_
      dsimp only [List.set_cons_zero, List.set_cons_succ]
      refine V_aload_n (i := 2) dX6_endOf_34 rfl rfl ?_
      refine V_get (C := RX1) (T := TX1) (N := 13) (ci := 1) (q := 8) (ref := "OrderChains$Channel") 0 rfl il_X6_endOf_X1 rfl rfl fl_X6_endOf_141 rfl rfl dX6_endOf_35 ?_
      refine V_iconst (v := 2) dX6_endOf_38 rfl ?_
      refine V_icmp_ne (tgt := 44) (by have := (hq 0 (by decide)).1; have := (hq 1 (by decide)).1; have := (hq 2 (by decide)).1; show (laC 500 t e).2.2.2.2.2.2 _ 0 < 4294967296; first | exact Nat.lt_trans (hq 0 (by decide)).1 (by decide) | exact Nat.lt_trans (hq 1 (by decide)).1 (by decide) | exact Nat.lt_trans (hq 2 (by decide)).1 (by decide)) (by omega) dX6_endOf_39 rfl (fun h_39 => ?_) (fun h_39 => ?_)
      · refine V_aload_n (i := 2) dX6_endOf_44 rfl rfl ?_
        refine V_get (C := RX1) (T := TX1) (N := 13) (ci := 1) (q := 8) (ref := "OrderChains$Channel") 2 rfl il_X6_endOf_X1 rfl rfl fl_X6_endOf_149 rfl rfl dX6_endOf_45 ?_
        refine V_same (X' := [oO A ea n, eK G (ea 14) e, eK G (ea 15) (laC 500 t e)]) (opK (P := [oO A ea n, eK G (ea 14) e]) (Q := []) (a := (ea 15)) (e := (laC 500 t e))).symm ?_
        refine V_iret hR dX6_endOf_48 hkc hks ?_
        refine ⟨hz, ?_, rfl⟩
        rw [if_neg h_39]
      · refine V_iconst (v := 0) dX6_endOf_42 rfl ?_
        refine V_same (X' := [oO A ea n, eK G (ea 14) e, eK G (ea 15) (laC 500 t e)]) (opK (P := [oO A ea n, eK G (ea 14) e]) (Q := []) (a := (ea 15)) (e := (laC 500 t e))).symm ?_
        refine V_iret hR dX6_endOf_43 hkc hks ?_
        refine ⟨hz, ?_, rfl⟩
        rw [if_pos h_39]
    · refine V_get (C := RX6) (T := TX6) (N := 9) (ci := 5) (q := 0) (ref := "OrderChains") 4 rfl il_X6_endOf_X6 rfl rfl fl_X6_endOf_31 rfl rfl dX6_endOf_25 ?_
      refine V_get (C := RX2) (T := TX2) (N := 11) (ci := 2) (q := 2) (ref := "OrderChains$Engine") 4 rfl il_X6_endOf_X2 rfl rfl fl_X6_endOf_137 rfl rfl dX6_endOf_28 ?_
      refine V_iload_n (i := 1) dX6_endOf_31 rfl rfl ?_
      refine V_aaldC (q := 7) rfl (by omega) rfl dX6_endOf_32 ?_
      refine V_astore_n (i := 2) dX6_endOf_33 rfl rfl rfl ?_
      dsimp only [List.set_cons_zero, List.set_cons_succ]
      refine V_aload_n (i := 2) dX6_endOf_34 rfl rfl ?_
      refine V_get (C := RX1) (T := TX1) (N := 13) (ci := 1) (q := 9) (ref := "OrderChains$Channel") 0 rfl il_X6_endOf_X1 rfl rfl fl_X6_endOf_141 rfl rfl dX6_endOf_35 ?_
      refine V_iconst (v := 2) dX6_endOf_38 rfl ?_
      refine V_icmp_ne (tgt := 44) (by have := (hq 0 (by decide)).1; have := (hq 1 (by decide)).1; have := (hq 2 (by decide)).1; show (laC 500 t e).2.2.2.2.2.2 _ 0 < 4294967296; first | exact Nat.lt_trans (hq 0 (by decide)).1 (by decide) | exact Nat.lt_trans (hq 1 (by decide)).1 (by decide) | exact Nat.lt_trans (hq 2 (by decide)).1 (by decide)) (by omega) dX6_endOf_39 rfl (fun h_39 => ?_) (fun h_39 => ?_)
      · refine V_aload_n (i := 2) dX6_endOf_44 rfl rfl ?_
        refine V_get (C := RX1) (T := TX1) (N := 13) (ci := 1) (q := 9) (ref := "OrderChains$Channel") 2 rfl il_X6_endOf_X1 rfl rfl fl_X6_endOf_149 rfl rfl dX6_endOf_45 ?_
        refine V_same (X' := [oO A ea n, eK G (ea 14) e, eK G (ea 15) (laC 500 t e)]) (opK (P := [oO A ea n, eK G (ea 14) e]) (Q := []) (a := (ea 15)) (e := (laC 500 t e))).symm ?_
        refine V_iret hR dX6_endOf_48 hkc hks ?_
        refine ⟨hz, ?_, rfl⟩
        rw [if_neg h_39]
      · refine V_iconst (v := 0) dX6_endOf_42 rfl ?_
        refine V_same (X' := [oO A ea n, eK G (ea 14) e, eK G (ea 15) (laC 500 t e)]) (opK (P := [oO A ea n, eK G (ea 14) e]) (Q := []) (a := (ea 15)) (e := (laC 500 t e))).symm ?_
        refine V_iret hR dX6_endOf_43 hkc hks ?_
        refine ⟨hz, ?_, rfl⟩
        rw [if_pos h_39]
    · refine V_get (C := RX6) (T := TX6) (N := 9) (ci := 5) (q := 0) (ref := "OrderChains") 4 rfl il_X6_endOf_X6 rfl rfl fl_X6_endOf_31 rfl rfl dX6_endOf_25 ?_
      refine V_get (C := RX2) (T := TX2) (N := 11) (ci := 2) (q := 2) (ref := "OrderChains$Engine") 4 rfl il_X6_endOf_X2 rfl rfl fl_X6_endOf_137 rfl rfl dX6_endOf_28 ?_
      refine V_iload_n (i := 1) dX6_endOf_31 rfl rfl ?_
      refine V_aaldC (q := 7) rfl (by omega) rfl dX6_endOf_32 ?_
      refine V_astore_n (i := 2) dX6_endOf_33 rfl rfl rfl ?_
      dsimp only [List.set_cons_zero, List.set_cons_succ]
      refine V_aload_n (i := 2) dX6_endOf_34 rfl rfl ?_
      refine V_get (C := RX1) (T := TX1) (N := 13) (ci := 1) (q := 10) (ref := "OrderChains$Channel") 0 rfl il_X6_endOf_X1 rfl rfl fl_X6_endOf_141 rfl rfl dX6_endOf_35 ?_
      refine V_iconst (v := 2) dX6_endOf_38 rfl ?_
      refine V_icmp_ne (tgt := 44) (by have := (hq 0 (by decide)).1; have := (hq 1 (by decide)).1; have := (hq 2 (by decide)).1; show (laC 500 t e).2.2.2.2.2.2 _ 0 < 4294967296; first | exact Nat.lt_trans (hq 0 (by decide)).1 (by decide) | exact Nat.lt_trans (hq 1 (by decide)).1 (by decide) | exact Nat.lt_trans (hq 2 (by decide)).1 (by decide)) (by omega) dX6_endOf_39 rfl (fun h_39 => ?_) (fun h_39 => ?_)
      · refine V_aload_n (i := 2) dX6_endOf_44 rfl rfl ?_
        refine V_get (C := RX1) (T := TX1) (N := 13) (ci := 1) (q := 10) (ref := "OrderChains$Channel") 2 rfl il_X6_endOf_X1 rfl rfl fl_X6_endOf_149 rfl rfl dX6_endOf_45 ?_
        refine V_same (X' := [oO A ea n, eK G (ea 14) e, eK G (ea 15) (laC 500 t e)]) (opK (P := [oO A ea n, eK G (ea 14) e]) (Q := []) (a := (ea 15)) (e := (laC 500 t e))).symm ?_
        refine V_iret hR dX6_endOf_48 hkc hks ?_
        refine ⟨hz, ?_, rfl⟩
        rw [if_neg h_39]
      · refine V_iconst (v := 0) dX6_endOf_42 rfl ?_
        refine V_same (X' := [oO A ea n, eK G (ea 14) e, eK G (ea 15) (laC 500 t e)]) (opK (P := [oO A ea n, eK G (ea 14) e]) (Q := []) (a := (ea 15)) (e := (laC 500 t e))).symm ?_
        refine V_iret hR dX6_endOf_43 hkc hks ?_
        refine ⟨hz, ?_, rfl⟩
        rw [if_pos h_39]
  · refine V_IOB (is := 135) (text := "no such channel") hT rfl xk_X6_endOf_113 xi_X6_endOf_113 xw_X6_endOf_117 (List.mem_of_getElem? (i := 3) rfl) ⟨rfl, rfl⟩ hmx hmx dX6_endOf_7 dX6_endOf_10 dX6_endOf_11 dX6_endOf_13 dX6_endOf_16 ?_
    exact ⟨⟨rfl, b00 h_4⟩, rfl⟩

abbrev rX6_later : Room := { frames := 7, cells := 1, slots := 6, locals := 154 }
theorem vy_X6_later : vY yX6_later wsX6_later cX6_later 3 (some .int) 2 := ⟨⟨_, rfl⟩, by decide +kernel, by decide +kernel, by decide +kernel⟩
theorem fl_X6_later_31 : Cond.fieldLink RX6 31 "OrderChains" "trial" "LOrderChains$Engine;" ∈ wsX6_later := List.mem_of_getElem? (i := 5) rfl
theorem il_X6_later_X6 : ∀ w ∈ wsX60, w ∈ wsX6_later := fun _ h => List.mem_cons_of_mem _ (List.mem_append_left _ (List.mem_append_left _ (List.mem_append_left _ (List.mem_append_left _ (List.mem_append_right _ h)))))
theorem fl_X6_later_118 : Cond.fieldLink RX6 118 "OrderChains$Engine" "values" "[I" ∈ wsX6_later := List.mem_of_getElem? (i := 6) rfl
theorem il_X6_later_X2 : ∀ w ∈ wsX20, w ∈ wsX6_later := fun _ h => List.mem_cons_of_mem _ (List.mem_append_left _ (List.mem_append_left _ (List.mem_append_left _ (List.mem_append_right _ h))))
theorem xk_X6_later_56 : Cond.classLink RX6 56 "java/lang/IllegalArgumentException" ∈ wsX6_later := List.mem_of_getElem? (i := 3) rfl
theorem xi_X6_later_56 : Cond.initialized "java/lang/IllegalArgumentException" ∈ wsX6_later := List.mem_of_getElem? (i := 4) rfl
theorem xw_X6_later_60 : ∀ w ∈ (vx_atS RX6 60 sIAE nms).filter goodWord, w ∈ wsX6_later := fun _ h => List.mem_cons_of_mem _ (List.mem_append_right _ h)
theorem xk_X6_later_113 : Cond.classLink RX6 113 "java/lang/IndexOutOfBoundsException" ∈ wsX6_later := List.mem_of_getElem? (i := 1) rfl
theorem xi_X6_later_113 : Cond.initialized "java/lang/IndexOutOfBoundsException" ∈ wsX6_later := List.mem_of_getElem? (i := 2) rfl
theorem xw_X6_later_117 : ∀ w ∈ (vx_atS RX6 117 sIOB nms).filter goodWord, w ∈ wsX6_later := fun _ h => List.mem_cons_of_mem _ (List.mem_append_left _ (List.mem_append_right _ h))
set_option maxHeartbeats 4000000 in
set_option maxRecDepth 100000 in
/-- later -/
theorem c_X6_later (l : Launch) (hst : l.stackTraces = false) (G : vG) (A : Nat → Nat) (ea : Nat → Nat → Nat) (p w : Nat) (n : Nat) (e t : vE) (he : eB e) (hp : p < 4294967296) (hw : w < 4294967296) : Kx l G yX6_later wsX6_later rX6_later [.ref (A 0), .int (nI p), .int (nI w)] [oO A ea n, eK G (ea 14) e, eK G (ea 15) t] (fun v Y => (p < 96 ∧ w < 501) ∧ v = some (.int (nI ((laC w t e).1 p))) ∧ Y = [oO A ea n, eK G (ea 14) e, eK G (ea 15) (laC w t e)]) (fun c Y => ((c = sIOB ∧ ¬ p < 96) ∨ (c = sIAE ∧ p < 96 ∧ ¬ w < 501)) ∧ Y = [oO A ea n, eK G (ea 14) e, eK G (ea 15) t]) 1 6 := by
  refine V_enterX (own := RX6) [some (.ref (A 0)), some (.int (nI p)), some (.int (nI w))] hst (by decide +kernel) rfl rfl (Nat.le_of_ble_eq_true rfl) rfl (fun Γ hR hT => ?_)
  have hkc : 0 ≤ 1 := Nat.zero_le _
  have hks : 0 ≤ 6 := Nat.zero_le _
  have hmx : 0 + 1 ≤ 1 ∧ 0 + 6 ≤ 6 := ⟨by decide, by decide⟩
  refine V_iload_n (i := 1) dX6_later_0 rfl rfl ?_
  refine V_callS (As := _) (rest := []) [] (c_X6_isCell l G (p) hp) vy_X6_isCell gX6_later_X6_isCell rfl rfl rfl rfl ⟨rfl, rfl⟩ ⟨rfl, rfl⟩ ⟨Nat.zero_le _, Nat.zero_le _⟩ rfl dX6_later_1 (fun v Y hE => ?_)
  obtain ⟨rfl, rfl⟩ := hE
  refine ⟨rfl, ?_⟩
  dsimp only [vfill, List.set_cons_zero, List.set_cons_succ, Option.toList, List.cons_append, List.nil_append, Nat.add_zero]
  refine V_if_ne (tgt := 17) (by split <;> decide) dX6_later_4 rfl (fun h_4 => ?_) (fun h_4 => ?_)
  · have hz := b01 h_4
    refine V_iload_n (i := 2) dX6_later_17 rfl rfl ?_
    refine V_callS (As := _) (rest := []) [] (c_X6_isHorizon l G (w) hw) vy_X6_isHorizon gX6_later_X6_isHorizon rfl rfl rfl rfl ⟨rfl, rfl⟩ ⟨rfl, rfl⟩ ⟨Nat.zero_le _, Nat.zero_le _⟩ rfl dX6_later_18 (fun v Y hE => ?_)
    obtain ⟨rfl, rfl⟩ := hE
    refine ⟨rfl, ?_⟩
    dsimp only [vfill, List.set_cons_zero, List.set_cons_succ, Option.toList, List.cons_append, List.nil_append, Nat.add_zero]
    refine V_if_ne (tgt := 34) (by split <;> decide) dX6_later_21 rfl (fun h_21 => ?_) (fun h_21 => ?_)
    · have hy := b01 h_21
      refine V_aload_n (i := 0) dX6_later_34 rfl rfl ?_
      refine V_iload_n (i := 2) dX6_later_35 rfl rfl ?_
      refine V_callV (C := RX6) (q := 0) (ci := 5) (As := _) (rest := []) [0, 1, 2] (c_X6_lookAhead l G A ea n w e t he (by omega)) vy_X6_lookAhead gX6_later_X6_lookAhead rfl rfl rfl rfl rfl rfl rfl ⟨rfl, rfl⟩ ⟨rfl, rfl⟩ ⟨Nat.zero_le _, Nat.zero_le _⟩ rfl dX6_later_36 (fun v Y hE => ?_)
      obtain ⟨rfl, rfl⟩ := hE
      refine ⟨rfl, ?_⟩
      dsimp only [vfill, List.set_cons_zero, List.set_cons_succ, Option.toList, List.cons_append, List.nil_append, Nat.add_zero]
      refine V_same (X' := [oO A ea n, eK G (ea 14) e, eO (ea 15) (laC w t e).2.2.2.2.2.1, iA G ((ea 15) 1) 96 (laC w t e).1, iA G ((ea 15) 2) 96 (laC w t e).2.1, iA G ((ea 15) 3) 96 (laC w t e).2.2.1, iA G ((ea 15) 4) 96 (laC w t e).2.2.2.1, eC G (ea 15), cX ((ea 15) 6) ((laC w t e).2.2.2.2.2.2 0), cX ((ea 15) 7) ((laC w t e).2.2.2.2.2.2 1), cX ((ea 15) 8) ((laC w t e).2.2.2.2.2.2 2), iA G ((ea 15) 9) 96 (laC w t e).2.2.2.2.1]) (opK (P := [oO A ea n, eK G (ea 14) e]) (Q := []) (a := (ea 15)) (e := (laC w t e))) ?_
      refine V_aload_n (i := 0) dX6_later_39 rfl rfl ?_
      refine V_get (C := RX6) (T := TX6) (N := 9) (ci := 5) (q := 0) (ref := "OrderChains") 4 rfl il_X6_later_X6 rfl rfl fl_X6_later_31 rfl rfl dX6_later_40 ?_
      refine V_get (C := RX2) (T := TX2) (N := 11) (ci := 2) (q := 2) (ref := "OrderChains$Engine") 0 rfl il_X6_later_X2 rfl rfl fl_X6_later_118 rfl rfl dX6_later_43 ?_
      refine V_iload_n (i := 1) dX6_later_46 rfl rfl ?_
      refine V_iald (q := 3) rfl (by omega) rfl dX6_later_47 ?_
      refine V_same (X' := [oO A ea n, eK G (ea 14) e, eK G (ea 15) (laC w t e)]) (opK (P := [oO A ea n, eK G (ea 14) e]) (Q := []) (a := (ea 15)) (e := (laC w t e))).symm ?_
      refine V_iret hR dX6_later_48 hkc hks ?_
      exact ⟨⟨hz, hy⟩, rfl, rfl⟩
    · refine V_IAE (is := 215) (text := "no such number of ticks") hT rfl xk_X6_later_56 xi_X6_later_56 xw_X6_later_60 (List.mem_of_getElem? (i := 11) rfl) ⟨rfl, rfl⟩ hmx hmx dX6_later_24 dX6_later_27 dX6_later_28 dX6_later_30 dX6_later_33 ?_
      exact ⟨Or.inr ⟨rfl, hz, b00 h_21⟩, rfl⟩
  · refine V_IOB (is := 115) (text := "no such cell") hT rfl xk_X6_later_113 xi_X6_later_113 xw_X6_later_117 (List.mem_of_getElem? (i := 1) rfl) ⟨rfl, rfl⟩ hmx hmx dX6_later_7 dX6_later_10 dX6_later_11 dX6_later_13 dX6_later_16 ?_
    exact ⟨Or.inl ⟨rfl, b00 h_4⟩, rfl⟩

abbrev rX6_contested : Room := { frames := 7, cells := 1, slots := 6, locals := 154 }
theorem vy_X6_contested : vY yX6_contested wsX6_contested cX6_contested 2 (some .int) 1 := ⟨⟨_, rfl⟩, by decide +kernel, by decide +kernel, by decide +kernel⟩
theorem fl_X6_contested_31 : Cond.fieldLink RX6 31 "OrderChains" "trial" "LOrderChains$Engine;" ∈ wsX6_contested := List.mem_of_getElem? (i := 3) rfl
theorem il_X6_contested_X6 : ∀ w ∈ wsX60, w ∈ wsX6_contested := fun _ h => List.mem_cons_of_mem _ (List.mem_append_left _ (List.mem_append_left _ (List.mem_append_left _ (List.mem_append_right _ h))))
theorem xk_X6_contested_56 : Cond.classLink RX6 56 "java/lang/IllegalArgumentException" ∈ wsX6_contested := List.mem_of_getElem? (i := 1) rfl
theorem xi_X6_contested_56 : Cond.initialized "java/lang/IllegalArgumentException" ∈ wsX6_contested := List.mem_of_getElem? (i := 2) rfl
theorem xw_X6_contested_60 : ∀ w ∈ (vx_atS RX6 60 sIAE nms).filter goodWord, w ∈ wsX6_contested := fun _ h => List.mem_cons_of_mem _ (List.mem_append_right _ h)
set_option maxHeartbeats 4000000 in
set_option maxRecDepth 100000 in
/-- contested -/
theorem c_X6_contested (l : Launch) (hst : l.stackTraces = false) (G : vG) (A : Nat → Nat) (ea : Nat → Nat → Nat) (w : Nat) (n : Nat) (e t : vE) (he : eB e) (hw : w < 4294967296) : Kx l G yX6_contested wsX6_contested rX6_contested [.ref (A 0), .int (nI w)] [oO A ea n, eK G (ea 14) e, eK G (ea 15) t] (fun v Y => w < 501 ∧ v = some (.int (nI (vsum (fun k => if bc8 ((laC w t e).2.2.2.2.1 k) ≤ 1 then 0 else 1) 96))) ∧ Y = [oO A ea n, eK G (ea 14) e, eK G (ea 15) (laC w t e)]) (fun c Y => (c = sIAE ∧ ¬ w < 501) ∧ Y = [oO A ea n, eK G (ea 14) e, eK G (ea 15) t]) 1 6 := by
  refine V_enterX (own := RX6) [some (.ref (A 0)), some (.int (nI w))] hst (by decide +kernel) rfl rfl (Nat.le_of_ble_eq_true rfl) rfl (fun Γ hR hT => ?_)
  have hkc : 0 ≤ 1 := Nat.zero_le _
  have hks : 0 ≤ 6 := Nat.zero_le _
  have hmx : 0 + 1 ≤ 1 ∧ 0 + 6 ≤ 6 := ⟨by decide, by decide⟩
  refine V_iload_n (i := 1) dX6_contested_0 rfl rfl ?_
  refine V_callS (As := _) (rest := []) [] (c_X6_isHorizon l G (w) hw) vy_X6_isHorizon gX6_contested_X6_isHorizon rfl rfl rfl rfl ⟨rfl, rfl⟩ ⟨rfl, rfl⟩ ⟨Nat.zero_le _, Nat.zero_le _⟩ rfl dX6_contested_1 (fun v Y hE => ?_)
  obtain ⟨rfl, rfl⟩ := hE
  refine ⟨rfl, ?_⟩
  dsimp only [vfill, List.set_cons_zero, List.set_cons_succ, Option.toList, List.cons_append, List.nil_append, Nat.add_zero]
  refine V_if_ne (tgt := 17) (by split <;> decide) dX6_contested_4 rfl (fun h_4 => ?_) (fun h_4 => ?_)
  · have hy := b01 h_4
    refine V_aload_n (i := 0) dX6_contested_17 rfl rfl ?_
    refine V_iload_n (i := 1) dX6_contested_18 rfl rfl ?_
    refine V_callV (C := RX6) (q := 0) (ci := 5) (As := _) (rest := []) [0, 1, 2] (c_X6_lookAhead l G A ea n w e t he (by omega)) vy_X6_lookAhead gX6_contested_X6_lookAhead rfl rfl rfl rfl rfl rfl rfl ⟨rfl, rfl⟩ ⟨rfl, rfl⟩ ⟨Nat.zero_le _, Nat.zero_le _⟩ rfl dX6_contested_19 (fun v Y hE => ?_)
    obtain ⟨rfl, rfl⟩ := hE
    refine ⟨rfl, ?_⟩
    dsimp only [vfill, List.set_cons_zero, List.set_cons_succ, Option.toList, List.cons_append, List.nil_append, Nat.add_zero]
    have hT9 := eB_run w _ (eB_cp (e := t) he)
    obtain ⟨hv, ho, hm, hb, hs0, hs4, hq⟩ := id hT9
    refine V_same (X' := [oO A ea n, eK G (ea 14) e, eO (ea 15) (laC w t e).2.2.2.2.2.1, iA G ((ea 15) 1) 96 (laC w t e).1, iA G ((ea 15) 2) 96 (laC w t e).2.1, iA G ((ea 15) 3) 96 (laC w t e).2.2.1, iA G ((ea 15) 4) 96 (laC w t e).2.2.2.1, eC G (ea 15), cX ((ea 15) 6) ((laC w t e).2.2.2.2.2.2 0), cX ((ea 15) 7) ((laC w t e).2.2.2.2.2.2 1), cX ((ea 15) 8) ((laC w t e).2.2.2.2.2.2 2), iA G ((ea 15) 9) 96 (laC w t e).2.2.2.2.1]) (opK (P := [oO A ea n, eK G (ea 14) e]) (Q := []) (a := (ea 15)) (e := (laC w t e))) ?_
    refine V_aload_n (i := 0) dX6_contested_22 rfl rfl ?_
    refine V_get (C := RX6) (T := TX6) (N := 9) (ci := 5) (q := 0) (ref := "OrderChains") 4 rfl il_X6_contested_X6 rfl rfl fl_X6_contested_31 rfl rfl dX6_contested_23 ?_
    refine V_callV (C := RX2) (q := 0) (ci := 2) (As := []) (rest := []) [2, 11] (c_X2_cellsOfSeveralWriters l G (ea 15) (laC w t e).2.2.2.2.2.1 (laC w t e).2.2.2.2.1 hb) vy_X2_cellsOfSeveralWriters gX6_contested_X2_cellsOfSeveralWriters rfl rfl rfl rfl rfl rfl rfl ⟨rfl, rfl⟩ ⟨rfl, rfl⟩ ⟨Nat.zero_le _, Nat.zero_le _⟩ rfl dX6_contested_26 (fun v Y hE => ?_)
    obtain ⟨rfl, rfl⟩ := hE
    refine ⟨rfl, ?_⟩
    dsimp only [vfill, List.set_cons_zero, List.set_cons_succ, Option.toList, List.cons_append, List.nil_append, Nat.add_zero]
    refine V_same (X' := [oO A ea n, eK G (ea 14) e, eK G (ea 15) (laC w t e)]) (opK (P := [oO A ea n, eK G (ea 14) e]) (Q := []) (a := (ea 15)) (e := (laC w t e))).symm ?_
    refine V_iret hR dX6_contested_29 hkc hks ?_
    exact ⟨hy, rfl, rfl⟩
  · refine V_IAE (is := 215) (text := "no such number of ticks") hT rfl xk_X6_contested_56 xi_X6_contested_56 xw_X6_contested_60 (List.mem_of_getElem? (i := 11) rfl) ⟨rfl, rfl⟩ hmx hmx dX6_contested_7 dX6_contested_10 dX6_contested_11 dX6_contested_13 dX6_contested_16 ?_
    exact ⟨⟨rfl, b00 h_4⟩, rfl⟩

abbrev rX6_firstEdit : Room := { frames := 7, cells := 0, slots := 0, locals := 154 }
theorem vy_X6_firstEdit : vY yX6_firstEdit wsX6_firstEdit cX6_firstEdit 1 (some .int) 0 := ⟨⟨_, rfl⟩, by decide +kernel, by decide +kernel, by decide +kernel⟩
theorem fl_X6_firstEdit_31 : Cond.fieldLink RX6 31 "OrderChains" "trial" "LOrderChains$Engine;" ∈ wsX6_firstEdit := List.mem_of_getElem? (i := 1) rfl
theorem il_X6_firstEdit_X6 : ∀ w ∈ wsX60, w ∈ wsX6_firstEdit := fun _ h => List.mem_cons_of_mem _ (List.mem_append_left _ (List.mem_append_left _ (List.mem_append_right _ h)))
theorem fl_X6_firstEdit_242 : Cond.fieldLink RX6 242 "OrderChains$Engine" "earliestEdit" "I" ∈ wsX6_firstEdit := List.mem_of_getElem? (i := 2) rfl
theorem il_X6_firstEdit_X2 : ∀ w ∈ wsX20, w ∈ wsX6_firstEdit := fun _ h => List.mem_cons_of_mem _ (List.mem_append_left _ (List.mem_append_right _ h))
set_option maxHeartbeats 4000000 in
set_option maxRecDepth 100000 in
/-- firstEdit -/
theorem c_X6_firstEdit (l : Launch) (G : vG) (A : Nat → Nat) (ea : Nat → Nat → Nat) (n : Nat) (e t : vE) (he : eB e) : Kc l G yX6_firstEdit wsX6_firstEdit rX6_firstEdit [.ref (A 0)] [oO A ea n, eK G (ea 14) e, eK G (ea 15) t] (fun v Y => v = some (.int (nI ((laC 500 t e).2.2.2.2.2.1 4))) ∧ Y = [oO A ea n, eK G (ea 14) e, eK G (ea 15) (laC 500 t e)]) 0 0 := by
  refine V_enter (own := RX6) [some (.ref (A 0))] (by decide +kernel) rfl rfl (Nat.le_of_ble_eq_true rfl) rfl (fun Γ hR hin => ?_)
  have hkc : 0 ≤ 0 := Nat.le_refl 0
  have hks : 0 ≤ 0 := Nat.le_refl 0
  refine V_aload_n (i := 0) dX6_firstEdit_0 rfl rfl ?_
  refine V_sipush (v := 500) dX6_firstEdit_1 (by decide) ?_
  refine V_callV (C := RX6) (q := 0) (ci := 5) (As := _) (rest := []) [0, 1, 2] (c_X6_lookAhead l G A ea n 500 e t he (by decide)) vy_X6_lookAhead gX6_firstEdit_X6_lookAhead rfl rfl rfl rfl rfl rfl rfl ⟨rfl, rfl⟩ ⟨rfl, rfl⟩ ⟨Nat.zero_le _, Nat.zero_le _⟩ rfl dX6_firstEdit_4 (fun v Y hE => ?_)
  obtain ⟨rfl, rfl⟩ := hE
  refine ⟨rfl, ?_⟩
  dsimp only [vfill, List.set_cons_zero, List.set_cons_succ, Option.toList, List.cons_append, List.nil_append, Nat.add_zero]
  refine V_same (X' := [oO A ea n, eK G (ea 14) e, eO (ea 15) (laC 500 t e).2.2.2.2.2.1, iA G ((ea 15) 1) 96 (laC 500 t e).1, iA G ((ea 15) 2) 96 (laC 500 t e).2.1, iA G ((ea 15) 3) 96 (laC 500 t e).2.2.1, iA G ((ea 15) 4) 96 (laC 500 t e).2.2.2.1, eC G (ea 15), cX ((ea 15) 6) ((laC 500 t e).2.2.2.2.2.2 0), cX ((ea 15) 7) ((laC 500 t e).2.2.2.2.2.2 1), cX ((ea 15) 8) ((laC 500 t e).2.2.2.2.2.2 2), iA G ((ea 15) 9) 96 (laC 500 t e).2.2.2.2.1]) (opK (P := [oO A ea n, eK G (ea 14) e]) (Q := []) (a := (ea 15)) (e := (laC 500 t e))) ?_
  refine V_aload_n (i := 0) dX6_firstEdit_7 rfl rfl ?_
  refine V_get (C := RX6) (T := TX6) (N := 9) (ci := 5) (q := 0) (ref := "OrderChains") 4 rfl il_X6_firstEdit_X6 rfl rfl fl_X6_firstEdit_31 rfl rfl dX6_firstEdit_8 ?_
  refine V_get (C := RX2) (T := TX2) (N := 11) (ci := 2) (q := 2) (ref := "OrderChains$Engine") 10 rfl il_X6_firstEdit_X2 rfl rfl fl_X6_firstEdit_242 rfl rfl dX6_firstEdit_11 ?_
  refine V_same (X' := [oO A ea n, eK G (ea 14) e, eK G (ea 15) (laC 500 t e)]) (opK (P := [oO A ea n, eK G (ea 14) e]) (Q := []) (a := (ea 15)) (e := (laC 500 t e))).symm ?_
  refine V_iret hR dX6_firstEdit_14 hkc hks ?_
  exact ⟨rfl, rfl⟩

end OC3
