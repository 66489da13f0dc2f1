section WRAPS
def lA (G : vG) (a : Nat) (f : Nat → Int64) : va_W := [(a, .inl (G.2 4, 1, .inr (.inl f)))]
abbrev rL_append : Room := { frames := 7, cells := 1, slots := 6, locals := 113 }
theorem hl_L_append_13 : Cond.classLink RL 13 "java/lang/IllegalArgumentException" ∈ wsL_append := List.mem_of_getElem? (i := 1) rfl
theorem hl_L_append_15 : Cond.classLink RL 15 "java/lang/IllegalStateException" ∈ wsL_append := List.mem_of_getElem? (i := 2) rfl
set_option maxHeartbeats 4000000 in
set_option maxRecDepth 100000 in
theorem c_L_append (l : Launch) (hst : l.stackTraces = false) (G : vG) (A : Nat → Nat) (ea : Nat → Nat → Nat) (tx : Nat → Nat) (n p : Nat) (hp : p < 4294967296) (hn : n ≤ 140) (ou : Nat) (fo : Nat → Int64) : Kw l G yL_append wsL_append rL_append [.ref (A 0), .int (nI p), .ref ou] [oO A ea n, iA G (A 1) 140 tx, lA G ou fo] (fun v Y => ((p < 256 ∧ n < 140) ∧ v = some (.int (nI 0)) ∧ Y = [oO A ea (n + 1), iA G (A 1) 140 (va_up tx n p)] ++ [lA G ou (vp_updL fo 0 (nI (n + 1)).toInt64)]) ∨ (¬ p < 256 ∧ v = some (.int (nI 1)) ∧ Y = [oO A ea n, iA G (A 1) 140 tx] ++ [lA G ou fo]) ∨ ((p < 256 ∧ ¬ n < 140) ∧ v = some (.int (nI 2)) ∧ Y = [oO A ea n, iA G (A 1) 140 tx] ++ [lA G ou fo])) 1 6 := by
  refine V_enterH (own := RL) (hh := [(0, 9, 12, 13), (0, 9, 15, 15)]) [some (.ref (A 0)), some (.int (nI p)), some (.ref ou), none] hst (by decide +kernel) rfl rfl (Nat.le_of_ble_eq_true rfl) rfl (fun Γ hR hC => ?_)
  have hkc : 0 + 1 ≤ 1 := by decide
  have hks : 0 + 6 ≤ 6 := by decide
  refine V_aload_n (i := 2) dL_append_0 rfl rfl ?_
  refine V_iconst (v := 0) dL_append_1 rfl ?_
  refine V_aload_n (i := 0) dL_append_2 rfl rfl ?_
  refine V_iload_n (i := 1) dL_append_3 rfl rfl ?_
  refine V_callVX (C := RX6) (q := 0) (ci := 5) (As := _) (rest := _) (hh := [(0, 9, 12, 13), (0, 9, 15, 15)]) [0, 1] hC (c_X6_append l hst G A ea tx n p hp hn) vy_X6_append gL_append_X6_append rfl rfl rfl rfl rfl rfl rfl ⟨rfl, rfl⟩ ⟨rfl, rfl⟩ ⟨Nat.le_of_ble_eq_true rfl, Nat.le_of_ble_eq_true rfl⟩ rfl dL_append_4 (fun v Y hE => ?_) (fun c Y hE => ?_)
  · obtain ⟨hcnd, rfl, rfl⟩ := hE
    refine ⟨rfl, ?_⟩
    dsimp only [vfill, List.set_cons_zero, List.set_cons_succ, Option.toList, List.cons_append, List.nil_append]
    refine V_i2l dL_append_7 ?_
    refine V_last (q := 2) rfl (by omega) rfl dL_append_8 ?_
    dsimp only [List.set_cons_zero, List.set_cons_succ]
    refine V_goto (tgt := 18) dL_append_9 rfl ?_
    refine V_iconst (v := 0) dL_append_18 rfl ?_
    refine V_iret hR dL_append_19 hkc hks ?_
    exact Or.inl ⟨hcnd, rfl, rfl⟩
  · rcases hE with ⟨⟨rfl, hx⟩ | ⟨rfl, hx⟩, rfl⟩
    · refine ⟨rfl, ?_⟩
      refine ⟨[], _, _, sIAE, rfl, fun z hz => absurd hz List.not_mem_nil, rfl, by decide, hl_L_append_13, fun _ h => h.2.2.2.1, fun q9 => ?_⟩
      show V l G _ Γ _ _ 12 _ _ _
      dsimp only [vfill, List.set_cons_zero, List.set_cons_succ, Option.toList, List.cons_append, List.nil_append]
      refine V_astore_n (i := 3) dL_append_12 rfl rfl rfl ?_
      dsimp only [List.set_cons_zero, List.set_cons_succ]
      refine V_iconst (v := 1) dL_append_13 rfl ?_
      refine V_iret hR dL_append_14 hkc hks ?_
      exact Or.inr (Or.inl ⟨hx, rfl, rfl⟩)
    · refine ⟨rfl, ?_⟩
      refine ⟨[_], _, _, sISE, rfl, fun z hz => by
        cases List.mem_singleton.mp hz
        exact Or.inr ⟨by decide, sIAE, hl_L_append_13, fun _ h => h.1⟩, rfl, by decide, hl_L_append_15, fun _ h => h.2.2.2.2.1, fun q9 => ?_⟩
      show V l G _ Γ _ _ 15 _ _ _
      dsimp only [vfill, List.set_cons_zero, List.set_cons_succ, Option.toList, List.cons_append, List.nil_append]
      refine V_astore_n (i := 3) dL_append_15 rfl rfl rfl ?_
      dsimp only [List.set_cons_zero, List.set_cons_succ]
      refine V_iconst (v := 2) dL_append_16 rfl ?_
      refine V_iret hR dL_append_17 hkc hks ?_
      exact Or.inr (Or.inr ⟨hx, rfl, rfl⟩)

abbrev rL_load : Room := { frames := 7, cells := 1, slots := 6, locals := 153 }
theorem hl_L_load_15 : Cond.classLink RL 15 "java/lang/IllegalStateException" ∈ wsL_load := List.mem_of_getElem? (i := 1) rfl
set_option maxHeartbeats 4000000 in
set_option maxRecDepth 100000 in
theorem c_L_load (l : Launch) (hst : l.stackTraces = false) (G : vG) (A : Nat → Nat) (ea : Nat → Nat → Nat) (r tx : Nat → Nat) (t : vE) (n : Nat) (hn : n ≤ 140) (ht : ∀ k, k < 140 → tx k < 256) (hr : rB r) (het : eB t) (e : vE) (o fl : Nat → Nat) (ou : Nat) (fo : Nat → Int64) : Kw l G yL_load wsL_load rL_load [.ref (A 0), .ref ou] [oO A ea n, tR (A 2) r, eK G (ea 15) t, iA G (A 1) 140 tx, eK G (ea 14) e, hO (A 3) (A 7) o, zA G (A 5) 2 fl, lA G ou fo] (fun v Y => ((psT tx n 0 (va_up (va_up (va_up r 0 0) 2 0) 3 0, rsC t)).1 = 4294967287 ∧ v = some (.int (nI 0)) ∧ Y = [oO A ea n, tR (A 2) (psT tx n 0 (va_up (va_up (va_up r 0 0) 2 0) 3 0, rsC t)).2.1, eK G (ea 15) (psT tx n 0 (va_up (va_up (va_up r 0 0) 2 0) 3 0, rsC t)).2.2, iA G (A 1) 140 tx, eK G (ea 14) (cpC e (psT tx n 0 (va_up (va_up (va_up r 0 0) 2 0) 3 0, rsC t)).2.2), hO (A 3) (A 7) (va_up o 1 0), zA G (A 5) 2 (va_up (va_up fl 0 0) 1 0)] ++ [lA G ou (vp_updL fo 0 (nI (vsum (fun h => if (psT tx n 0 (va_up (va_up (va_up r 0 0) 2 0) 3 0, rsC t)).2.2.2.2.2.2.2.2 h 0 = 1 then 1 else 0) 3)).toInt64)]) ∨ (¬ (psT tx n 0 (va_up (va_up (va_up r 0 0) 2 0) 3 0, rsC t)).1 = 4294967287 ∧ v = some (.int (nI 1)) ∧ Y = [oO A ea n, tR (A 2) (psT tx n 0 (va_up (va_up (va_up r 0 0) 2 0) 3 0, rsC t)).2.1, eK G (ea 15) (psT tx n 0 (va_up (va_up (va_up r 0 0) 2 0) 3 0, rsC t)).2.2, iA G (A 1) 140 tx, eK G (ea 14) e, hO (A 3) (A 7) o, zA G (A 5) 2 fl] ++ [lA G ou fo])) 1 6 := by
  refine V_enterH (own := RL) (hh := [(0, 8, 11, 15)]) [some (.ref (A 0)), some (.ref ou), none] hst (by decide +kernel) rfl rfl (Nat.le_of_ble_eq_true rfl) rfl (fun Γ hR hC => ?_)
  have hkc : 0 + 1 ≤ 1 := by decide
  have hks : 0 + 6 ≤ 6 := by decide
  refine V_aload_n (i := 1) dL_load_0 rfl rfl ?_
  refine V_iconst (v := 0) dL_load_1 rfl ?_
  refine V_aload_n (i := 0) dL_load_2 rfl rfl ?_
  refine V_callVX (C := RX6) (q := 0) (ci := 5) (As := []) (rest := _) (hh := [(0, 8, 11, 15)]) [0, 1, 2, 3, 4, 5, 6] hC (c_X6_load l hst G A ea r tx t n hn ht hr het e o fl) vy_X6_load gL_load_X6_load rfl rfl rfl rfl rfl rfl rfl ⟨rfl, rfl⟩ ⟨rfl, rfl⟩ ⟨Nat.le_of_ble_eq_true rfl, Nat.le_of_ble_eq_true rfl⟩ rfl dL_load_3 (fun v Y hE => ?_) (fun c Y hE => ?_)
  · obtain ⟨hcnd, rfl, rfl⟩ := hE
    refine ⟨rfl, ?_⟩
    dsimp only [vfill, List.set_cons_zero, List.set_cons_succ, Option.toList, List.cons_append, List.nil_append]
    refine V_i2l dL_load_6 ?_
    refine V_last (q := 7) rfl (by omega) rfl dL_load_7 ?_
    dsimp only [List.set_cons_zero, List.set_cons_succ]
    refine V_goto (tgt := 14) dL_load_8 rfl ?_
    refine V_iconst (v := 0) dL_load_14 rfl ?_
    refine V_iret hR dL_load_15 hkc hks ?_
    exact Or.inl ⟨hcnd, rfl, rfl⟩
  · obtain ⟨rfl, hx, rfl⟩ := hE
    refine ⟨rfl, ?_⟩
    refine ⟨[], _, _, sISE, rfl, fun z hz => absurd hz List.not_mem_nil, rfl, by decide, hl_L_load_15, fun _ h => h.2.2.2.2.1, fun q9 => ?_⟩
    show V l G _ Γ _ _ 11 _ _ _
    dsimp only [vfill, List.set_cons_zero, List.set_cons_succ, Option.toList, List.cons_append, List.nil_append]
    refine V_astore_n (i := 2) dL_load_11 rfl rfl rfl ?_
    dsimp only [List.set_cons_zero, List.set_cons_succ]
    refine V_iconst (v := 1) dL_load_12 rfl ?_
    refine V_iret hR dL_load_13 hkc hks ?_
    exact Or.inr ⟨hx, rfl, rfl⟩

abbrev rL_about : Room := { frames := 7, cells := 1, slots := 6, locals := 113 }
theorem hl_L_about_13 : Cond.classLink RL 13 "java/lang/IllegalArgumentException" ∈ wsL_about := List.mem_of_getElem? (i := 1) rfl
set_option maxHeartbeats 4000000 in
set_option maxRecDepth 100000 in
theorem c_L_about (l : Launch) (hst : l.stackTraces = false) (G : vG) (A : Nat → Nat) (ea : Nat → Nat → Nat) (n w : Nat) (e : vE) (he : eB e) (hw : w < 4294967296) (ou : Nat) (fo : Nat → Int64) : Kw l G yL_about wsL_about rL_about [.ref (A 0), .int (nI w), .ref ou] [oO A ea n, eK G (ea 14) e, lA G ou fo] (fun v Y => (w < 10 ∧ v = some (.int (nI 0)) ∧ Y = [oO A ea n, eK G (ea 14) e] ++ [lA G ou (vp_updL fo 0 (nI (aboutV e w)).toInt64)]) ∨ (¬ w < 10 ∧ v = some (.int (nI 1)) ∧ Y = [oO A ea n, eK G (ea 14) e] ++ [lA G ou fo])) 1 6 := by
  refine V_enterH (own := RL) (hh := [(0, 9, 12, 13)]) [some (.ref (A 0)), some (.int (nI w)), some (.ref ou), none] hst (by decide +kernel) rfl rfl (Nat.le_of_ble_eq_true rfl) rfl (fun Γ hR hC => ?_)
  have hkc : 0 + 1 ≤ 1 := by decide
  have hks : 0 + 6 ≤ 6 := by decide
  refine V_aload_n (i := 2) dL_about_0 rfl rfl ?_
  refine V_iconst (v := 0) dL_about_1 rfl ?_
  refine V_aload_n (i := 0) dL_about_2 rfl rfl ?_
  refine V_iload_n (i := 1) dL_about_3 rfl rfl ?_
  refine V_callVX (C := RX6) (q := 0) (ci := 5) (As := _) (rest := _) (hh := [(0, 9, 12, 13)]) [0, 1] hC (c_X6_about l hst G A ea n w e he hw) vy_X6_about gL_about_X6_about rfl rfl rfl rfl rfl rfl rfl ⟨rfl, rfl⟩ ⟨rfl, rfl⟩ ⟨Nat.le_of_ble_eq_true rfl, Nat.le_of_ble_eq_true rfl⟩ rfl dL_about_4 (fun v Y hE => ?_) (fun c Y hE => ?_)
  · obtain ⟨hcnd, rfl, rfl⟩ := hE
    refine ⟨rfl, ?_⟩
    dsimp only [vfill, List.set_cons_zero, List.set_cons_succ, Option.toList, List.cons_append, List.nil_append]
    refine V_i2l dL_about_7 ?_
    refine V_last (q := 2) rfl (by omega) rfl dL_about_8 ?_
    dsimp only [List.set_cons_zero, List.set_cons_succ]
    refine V_goto (tgt := 15) dL_about_9 rfl ?_
    refine V_iconst (v := 0) dL_about_15 rfl ?_
    refine V_iret hR dL_about_16 hkc hks ?_
    exact Or.inl ⟨hcnd, rfl, rfl⟩
  · obtain ⟨⟨rfl, hx⟩, rfl⟩ := hE
    refine ⟨rfl, ?_⟩
    refine ⟨[], _, _, sIAE, rfl, fun z hz => absurd hz List.not_mem_nil, rfl, by decide, hl_L_about_13, fun _ h => h.2.2.2.1, fun q9 => ?_⟩
    show V l G _ Γ _ _ 12 _ _ _
    dsimp only [vfill, List.set_cons_zero, List.set_cons_succ, Option.toList, List.cons_append, List.nil_append]
    refine V_astore_n (i := 3) dL_about_12 rfl rfl rfl ?_
    dsimp only [List.set_cons_zero, List.set_cons_succ]
    refine V_iconst (v := 1) dL_about_13 rfl ?_
    refine V_iret hR dL_about_14 hkc hks ?_
    exact Or.inr ⟨hx, rfl, rfl⟩

abbrev rL_cell : Room := { frames := 7, cells := 1, slots := 6, locals := 114 }
theorem hl_L_cell_28 : Cond.classLink RL 28 "java/lang/IndexOutOfBoundsException" ∈ wsL_cell := List.mem_of_getElem? (i := 1) rfl
theorem hl_L_cell_13 : Cond.classLink RL 13 "java/lang/IllegalArgumentException" ∈ wsL_cell := List.mem_of_getElem? (i := 2) rfl
set_option maxHeartbeats 4000000 in
set_option maxRecDepth 100000 in
theorem c_L_cell (l : Launch) (hst : l.stackTraces = false) (G : vG) (A : Nat → Nat) (ea : Nat → Nat → Nat) (n p w : Nat) (e : vE) (hp : p < 4294967296) (hw : w < 4294967296) (ou : Nat) (fo : Nat → Int64) : Kw l G yL_cell wsL_cell rL_cell [.ref (A 0), .int (nI p), .int (nI w), .ref ou] [oO A ea n, eK G (ea 14) e, lA G ou fo] (fun v Y => ((p < 96 ∧ w < 4) ∧ v = some (.int (nI 0)) ∧ Y = [oO A ea n, eK G (ea 14) e] ++ [lA G ou (vp_updL fo 0 (nI (cellV e p w)).toInt64)]) ∨ (¬ p < 96 ∧ v = some (.int (nI 1)) ∧ Y = [oO A ea n, eK G (ea 14) e] ++ [lA G ou fo]) ∨ ((p < 96 ∧ ¬ w < 4) ∧ v = some (.int (nI 2)) ∧ Y = [oO A ea n, eK G (ea 14) e] ++ [lA G ou fo])) 1 6 := by
  refine V_enterH (own := RL) (hh := [(0, 10, 13, 28), (0, 10, 17, 13)]) [some (.ref (A 0)), some (.int (nI p)), some (.int (nI w)), some (.ref ou), none] hst (by decide +kernel) rfl rfl (Nat.le_of_ble_eq_true rfl) rfl (fun Γ hR hC => ?_)
  have hkc : 0 + 1 ≤ 1 := by decide
  have hks : 0 + 6 ≤ 6 := by decide
  refine V_aload_n (i := 3) dL_cell_0 rfl rfl ?_
  refine V_iconst (v := 0) dL_cell_1 rfl ?_
  refine V_aload_n (i := 0) dL_cell_2 rfl rfl ?_
  refine V_iload_n (i := 1) dL_cell_3 rfl rfl ?_
  refine V_iload_n (i := 2) dL_cell_4 rfl rfl ?_
  refine V_callVX (C := RX6) (q := 0) (ci := 5) (As := _) (rest := _) (hh := [(0, 10, 13, 28), (0, 10, 17, 13)]) [0, 1] hC (c_X6_cell l hst G A ea n p w e hp hw) vy_X6_cell gL_cell_X6_cell rfl rfl rfl rfl rfl rfl rfl ⟨rfl, rfl⟩ ⟨rfl, rfl⟩ ⟨Nat.le_of_ble_eq_true rfl, Nat.le_of_ble_eq_true rfl⟩ rfl dL_cell_5 (fun v Y hE => ?_) (fun c Y hE => ?_)
  · obtain ⟨hcnd, rfl, rfl⟩ := hE
    refine ⟨rfl, ?_⟩
    dsimp only [vfill, List.set_cons_zero, List.set_cons_succ, Option.toList, List.cons_append, List.nil_append]
    refine V_i2l dL_cell_8 ?_
    refine V_last (q := 2) rfl (by omega) rfl dL_cell_9 ?_
    dsimp only [List.set_cons_zero, List.set_cons_succ]
    refine V_goto (tgt := 21) dL_cell_10 rfl ?_
    refine V_iconst (v := 0) dL_cell_21 rfl ?_
    refine V_iret hR dL_cell_22 hkc hks ?_
    exact Or.inl ⟨hcnd, rfl, rfl⟩
  · rcases hE with ⟨⟨rfl, hx⟩ | ⟨rfl, hx⟩, rfl⟩
    · refine ⟨rfl, ?_⟩
      refine ⟨[], _, _, sIOB, rfl, fun z hz => absurd hz List.not_mem_nil, rfl, by decide, hl_L_cell_28, fun _ h => h.2.2.2.2.2.1, fun q9 => ?_⟩
      show V l G _ Γ _ _ 13 _ _ _
      dsimp only [vfill, List.set_cons_zero, List.set_cons_succ, Option.toList, List.cons_append, List.nil_append]
      refine V_astore (i := 4) dL_cell_13 rfl rfl ?_
      dsimp only [List.set_cons_zero, List.set_cons_succ]
      refine V_iconst (v := 1) dL_cell_15 rfl ?_
      refine V_iret hR dL_cell_16 hkc hks ?_
      exact Or.inr (Or.inl ⟨hx, rfl, rfl⟩)
    · refine ⟨rfl, ?_⟩
      refine ⟨[_], _, _, sIAE, rfl, fun z hz => by
        cases List.mem_singleton.mp hz
        exact Or.inr ⟨by decide, sIOB, hl_L_cell_28, fun _ h => h.2.1⟩, rfl, by decide, hl_L_cell_13, fun _ h => h.2.2.2.1, fun q9 => ?_⟩
      show V l G _ Γ _ _ 17 _ _ _
      dsimp only [vfill, List.set_cons_zero, List.set_cons_succ, Option.toList, List.cons_append, List.nil_append]
      refine V_astore (i := 4) dL_cell_17 rfl rfl ?_
      dsimp only [List.set_cons_zero, List.set_cons_succ]
      refine V_iconst (v := 2) dL_cell_19 rfl ?_
      refine V_iret hR dL_cell_20 hkc hks ?_
      exact Or.inr (Or.inr ⟨hx, rfl, rfl⟩)

abbrev rL_channel : Room := { frames := 7, cells := 1, slots := 6, locals := 115 }
theorem hl_L_channel_28 : Cond.classLink RL 28 "java/lang/IndexOutOfBoundsException" ∈ wsL_channel := List.mem_of_getElem? (i := 1) rfl
theorem hl_L_channel_13 : Cond.classLink RL 13 "java/lang/IllegalArgumentException" ∈ wsL_channel := List.mem_of_getElem? (i := 2) rfl
set_option maxHeartbeats 4000000 in
set_option maxRecDepth 100000 in
theorem c_L_channel (l : Launch) (hst : l.stackTraces = false) (G : vG) (A : Nat → Nat) (ea : Nat → Nat → Nat) (n h w : Nat) (e : vE) (he : eB e) (hp : h < 4294967296) (hw : w < 4294967296) (ou : Nat) (fo : Nat → Int64) : Kw l G yL_channel wsL_channel rL_channel [.ref (A 0), .int (nI h), .int (nI w), .ref ou] [oO A ea n, eK G (ea 14) e, lA G ou fo] (fun v Y => ((h < 3 ∧ w < 8) ∧ v = some (.int (nI 0)) ∧ Y = [oO A ea n, eK G (ea 14) e] ++ [lA G ou (vp_updL fo 0 (nI (chanV (e.2.2.2.2.2.2 h) w)).toInt64)]) ∨ (¬ h < 3 ∧ v = some (.int (nI 1)) ∧ Y = [oO A ea n, eK G (ea 14) e] ++ [lA G ou fo]) ∨ ((h < 3 ∧ ¬ w < 8) ∧ v = some (.int (nI 2)) ∧ Y = [oO A ea n, eK G (ea 14) e] ++ [lA G ou fo])) 1 6 := by
  refine V_enterH (own := RL) (hh := [(0, 10, 13, 28), (0, 10, 17, 13)]) [some (.ref (A 0)), some (.int (nI h)), some (.int (nI w)), some (.ref ou), none] hst (by decide +kernel) rfl rfl (Nat.le_of_ble_eq_true rfl) rfl (fun Γ hR hC => ?_)
  have hkc : 0 + 1 ≤ 1 := by decide
  have hks : 0 + 6 ≤ 6 := by decide
  refine V_aload_n (i := 3) dL_channel_0 rfl rfl ?_
  refine V_iconst (v := 0) dL_channel_1 rfl ?_
  refine V_aload_n (i := 0) dL_channel_2 rfl rfl ?_
  refine V_iload_n (i := 1) dL_channel_3 rfl rfl ?_
  refine V_iload_n (i := 2) dL_channel_4 rfl rfl ?_
  refine V_callVX (C := RX6) (q := 0) (ci := 5) (As := _) (rest := _) (hh := [(0, 10, 13, 28), (0, 10, 17, 13)]) [0, 1] hC (c_X6_channel l hst G A ea n h w e he hp hw) vy_X6_channel gL_channel_X6_channel rfl rfl rfl rfl rfl rfl rfl ⟨rfl, rfl⟩ ⟨rfl, rfl⟩ ⟨Nat.le_of_ble_eq_true rfl, Nat.le_of_ble_eq_true rfl⟩ rfl dL_channel_5 (fun v Y hE => ?_) (fun c Y hE => ?_)
  · obtain ⟨hcnd, rfl, rfl⟩ := hE
    refine ⟨rfl, ?_⟩
    dsimp only [vfill, List.set_cons_zero, List.set_cons_succ, Option.toList, List.cons_append, List.nil_append]
    refine V_i2l dL_channel_8 ?_
    refine V_last (q := 2) rfl (by omega) rfl dL_channel_9 ?_
    dsimp only [List.set_cons_zero, List.set_cons_succ]
    refine V_goto (tgt := 21) dL_channel_10 rfl ?_
    refine V_iconst (v := 0) dL_channel_21 rfl ?_
    refine V_iret hR dL_channel_22 hkc hks ?_
    exact Or.inl ⟨hcnd, rfl, rfl⟩
  · rcases hE with ⟨⟨rfl, hx⟩ | ⟨rfl, hx⟩, rfl⟩
    · refine ⟨rfl, ?_⟩
      refine ⟨[], _, _, sIOB, rfl, fun z hz => absurd hz List.not_mem_nil, rfl, by decide, hl_L_channel_28, fun _ h => h.2.2.2.2.2.1, fun q9 => ?_⟩
      show V l G _ Γ _ _ 13 _ _ _
      dsimp only [vfill, List.set_cons_zero, List.set_cons_succ, Option.toList, List.cons_append, List.nil_append]
      refine V_astore (i := 4) dL_channel_13 rfl rfl ?_
      dsimp only [List.set_cons_zero, List.set_cons_succ]
      refine V_iconst (v := 1) dL_channel_15 rfl ?_
      refine V_iret hR dL_channel_16 hkc hks ?_
      exact Or.inr (Or.inl ⟨hx, rfl, rfl⟩)
    · refine ⟨rfl, ?_⟩
      refine ⟨[_], _, _, sIAE, rfl, fun z hz => by
        cases List.mem_singleton.mp hz
        exact Or.inr ⟨by decide, sIOB, hl_L_channel_28, fun _ h => h.2.1⟩, rfl, by decide, hl_L_channel_13, fun _ h => h.2.2.2.1, fun q9 => ?_⟩
      show V l G _ Γ _ _ 17 _ _ _
      dsimp only [vfill, List.set_cons_zero, List.set_cons_succ, Option.toList, List.cons_append, List.nil_append]
      refine V_astore (i := 4) dL_channel_17 rfl rfl ?_
      dsimp only [List.set_cons_zero, List.set_cons_succ]
      refine V_iconst (v := 2) dL_channel_19 rfl ?_
      refine V_iret hR dL_channel_20 hkc hks ?_
      exact Or.inr (Or.inr ⟨hx, rfl, rfl⟩)

abbrev rL_chain : Room := { frames := 7, cells := 1, slots := 6, locals := 114 }
theorem hl_L_chain_28 : Cond.classLink RL 28 "java/lang/IndexOutOfBoundsException" ∈ wsL_chain := List.mem_of_getElem? (i := 1) rfl
theorem hl_L_chain_13 : Cond.classLink RL 13 "java/lang/IllegalArgumentException" ∈ wsL_chain := List.mem_of_getElem? (i := 2) rfl
set_option maxHeartbeats 4000000 in
set_option maxRecDepth 100000 in
theorem c_L_chain (l : Launch) (hst : l.stackTraces = false) (G : vG) (A : Nat → Nat) (ea : Nat → Nat → Nat) (wo sn : Nat → Nat) (n p w : Nat) (e : vE) (he : eB e) (hp : p < 4294967296) (hw : w < 4294967296) (ou : Nat) (fo : Nat → Int64) : Kw l G yL_chain wsL_chain rL_chain [.ref (A 0), .int (nI p), .int (nI w), .ref ou] [oO A ea n, wO (A 6) (A 8) wo, iA G (A 8) 96 sn, eK G (ea 14) e, lA G ou fo] (fun v Y => ((p < 96 ∧ w < 2) ∧ v = some (.int (nI 0)) ∧ Y = [oO A ea n, wO (A 6) (A 8) (va_up (va_up wo 0 (flC e.1 97 (fil 0 sn) 0 p).1) 1 (flC e.1 97 (fil 0 sn) 0 p).2.1), iA G (A 8) 96 (flC e.1 97 (fil 0 sn) 0 p).2.2, eK G (ea 14) e] ++ [lA G ou (vp_updL fo 0 (nI (if w = 0 then (flC e.1 97 (fil 0 sn) 0 p).1 else (flC e.1 97 (fil 0 sn) 0 p).2.1)).toInt64)]) ∨ (¬ p < 96 ∧ v = some (.int (nI 1)) ∧ Y = [oO A ea n, wO (A 6) (A 8) wo, iA G (A 8) 96 sn, eK G (ea 14) e] ++ [lA G ou fo]) ∨ ((p < 96 ∧ ¬ w < 2) ∧ v = some (.int (nI 2)) ∧ Y = [oO A ea n, wO (A 6) (A 8) wo, iA G (A 8) 96 sn, eK G (ea 14) e] ++ [lA G ou fo])) 1 6 := by
  refine V_enterH (own := RL) (hh := [(0, 10, 13, 28), (0, 10, 17, 13)]) [some (.ref (A 0)), some (.int (nI p)), some (.int (nI w)), some (.ref ou), none] hst (by decide +kernel) rfl rfl (Nat.le_of_ble_eq_true rfl) rfl (fun Γ hR hC => ?_)
  have hkc : 0 + 1 ≤ 1 := by decide
  have hks : 0 + 6 ≤ 6 := by decide
  refine V_aload_n (i := 3) dL_chain_0 rfl rfl ?_
  refine V_iconst (v := 0) dL_chain_1 rfl ?_
  refine V_aload_n (i := 0) dL_chain_2 rfl rfl ?_
  refine V_iload_n (i := 1) dL_chain_3 rfl rfl ?_
  refine V_iload_n (i := 2) dL_chain_4 rfl rfl ?_
  refine V_callVX (C := RX6) (q := 0) (ci := 5) (As := _) (rest := _) (hh := [(0, 10, 13, 28), (0, 10, 17, 13)]) [0, 1, 2, 3] hC (c_X6_chain l hst G A ea wo sn n p w e he hp hw) vy_X6_chain gL_chain_X6_chain rfl rfl rfl rfl rfl rfl rfl ⟨rfl, rfl⟩ ⟨rfl, rfl⟩ ⟨Nat.le_of_ble_eq_true rfl, Nat.le_of_ble_eq_true rfl⟩ rfl dL_chain_5 (fun v Y hE => ?_) (fun c Y hE => ?_)
  · obtain ⟨hcnd, rfl, rfl⟩ := hE
    refine ⟨rfl, ?_⟩
    dsimp only [vfill, List.set_cons_zero, List.set_cons_succ, Option.toList, List.cons_append, List.nil_append]
    refine V_i2l dL_chain_8 ?_
    refine V_last (q := 4) rfl (by omega) rfl dL_chain_9 ?_
    dsimp only [List.set_cons_zero, List.set_cons_succ]
    refine V_goto (tgt := 21) dL_chain_10 rfl ?_
    refine V_iconst (v := 0) dL_chain_21 rfl ?_
    refine V_iret hR dL_chain_22 hkc hks ?_
    exact Or.inl ⟨hcnd, rfl, rfl⟩
  · rcases hE with ⟨⟨rfl, hx⟩ | ⟨rfl, hx⟩, rfl⟩
    · refine ⟨rfl, ?_⟩
      refine ⟨[], _, _, sIOB, rfl, fun z hz => absurd hz List.not_mem_nil, rfl, by decide, hl_L_chain_28, fun _ h => h.2.2.2.2.2.1, fun q9 => ?_⟩
      show V l G _ Γ _ _ 13 _ _ _
      dsimp only [vfill, List.set_cons_zero, List.set_cons_succ, Option.toList, List.cons_append, List.nil_append]
      refine V_astore (i := 4) dL_chain_13 rfl rfl ?_
      dsimp only [List.set_cons_zero, List.set_cons_succ]
      refine V_iconst (v := 1) dL_chain_15 rfl ?_
      refine V_iret hR dL_chain_16 hkc hks ?_
      exact Or.inr (Or.inl ⟨hx, rfl, rfl⟩)
    · refine ⟨rfl, ?_⟩
      refine ⟨[_], _, _, sIAE, rfl, fun z hz => by
        cases List.mem_singleton.mp hz
        exact Or.inr ⟨by decide, sIOB, hl_L_chain_28, fun _ h => h.2.1⟩, rfl, by decide, hl_L_chain_13, fun _ h => h.2.2.2.1, fun q9 => ?_⟩
      show V l G _ Γ _ _ 17 _ _ _
      dsimp only [vfill, List.set_cons_zero, List.set_cons_succ, Option.toList, List.cons_append, List.nil_append]
      refine V_astore (i := 4) dL_chain_17 rfl rfl ?_
      dsimp only [List.set_cons_zero, List.set_cons_succ]
      refine V_iconst (v := 2) dL_chain_19 rfl ?_
      refine V_iret hR dL_chain_20 hkc hks ?_
      exact Or.inr (Or.inr ⟨hx, rfl, rfl⟩)

abbrev rL_poke : Room := { frames := 7, cells := 1, slots := 6, locals := 115 }
theorem hl_L_poke_28 : Cond.classLink RL 28 "java/lang/IndexOutOfBoundsException" ∈ wsL_poke := List.mem_of_getElem? (i := 1) rfl
theorem hl_L_poke_13 : Cond.classLink RL 13 "java/lang/IllegalArgumentException" ∈ wsL_poke := List.mem_of_getElem? (i := 2) rfl
set_option maxHeartbeats 4000000 in
set_option maxRecDepth 100000 in
theorem c_L_poke (l : Launch) (hst : l.stackTraces = false) (G : vG) (A : Nat → Nat) (ea : Nat → Nat → Nat) (o : Nat → Nat) (hs : Nat → vE) (n p w : Nat) (e : vE) (he : eB e) (h0 : o 0 < 14) (h1 : o 1 < 15) (hp : p < 4294967296) (hw : w < 4294967296) (ou : Nat) (fo : Nat → Int64) : Kw l G yL_poke wsL_poke rL_poke [.ref (A 0), .int (nI p), .int (nI w), .ref ou] [oO A ea n, hO (A 3) (A 7) o, hA G (A 7) ea, hK G ea hs, eK G (ea 14) e, lA G ou fo] (fun v Y => ((p < 96 ∧ w < 100) ∧ v = some (.int (nI 0)) ∧ Y = [oO A ea n, hO (A 3) (A 7) (rmO o), hA G (A 7) ea, hK G ea (rmH o hs e), eK G (ea 14) (va_up e.1 p w, e.2)] ++ [lA G ou (vp_updL fo 0 (nI (e.1 p)).toInt64)]) ∨ (¬ p < 96 ∧ v = some (.int (nI 1)) ∧ Y = [oO A ea n, hO (A 3) (A 7) o, hA G (A 7) ea, hK G ea hs, eK G (ea 14) e] ++ [lA G ou fo]) ∨ ((p < 96 ∧ ¬ w < 100) ∧ v = some (.int (nI 2)) ∧ Y = [oO A ea n, hO (A 3) (A 7) o, hA G (A 7) ea, hK G ea hs, eK G (ea 14) e] ++ [lA G ou fo])) 1 6 := by
  refine V_enterH (own := RL) (hh := [(0, 10, 13, 28), (0, 10, 17, 13)]) [some (.ref (A 0)), some (.int (nI p)), some (.int (nI w)), some (.ref ou), none] hst (by decide +kernel) rfl rfl (Nat.le_of_ble_eq_true rfl) rfl (fun Γ hR hC => ?_)
  have hkc : 0 + 1 ≤ 1 := by decide
  have hks : 0 + 6 ≤ 6 := by decide
  refine V_aload_n (i := 3) dL_poke_0 rfl rfl ?_
  refine V_iconst (v := 0) dL_poke_1 rfl ?_
  refine V_aload_n (i := 0) dL_poke_2 rfl rfl ?_
  refine V_iload_n (i := 1) dL_poke_3 rfl rfl ?_
  refine V_iload_n (i := 2) dL_poke_4 rfl rfl ?_
  refine V_callVX (C := RX6) (q := 0) (ci := 5) (As := _) (rest := _) (hh := [(0, 10, 13, 28), (0, 10, 17, 13)]) [0, 1, 2, 3, 4] hC (c_X6_poke l hst G A ea o hs n p w e he h0 h1 hp hw) vy_X6_poke gL_poke_X6_poke rfl rfl rfl rfl rfl rfl rfl ⟨rfl, rfl⟩ ⟨rfl, rfl⟩ ⟨Nat.le_of_ble_eq_true rfl, Nat.le_of_ble_eq_true rfl⟩ rfl dL_poke_5 (fun v Y hE => ?_) (fun c Y hE => ?_)
  · obtain ⟨hcnd, rfl, rfl⟩ := hE
    refine ⟨rfl, ?_⟩
    dsimp only [vfill, List.set_cons_zero, List.set_cons_succ, Option.toList, List.cons_append, List.nil_append]
    refine V_i2l dL_poke_8 ?_
    refine V_last (q := 5) rfl (by omega) rfl dL_poke_9 ?_
    dsimp only [List.set_cons_zero, List.set_cons_succ]
    refine V_goto (tgt := 21) dL_poke_10 rfl ?_
    refine V_iconst (v := 0) dL_poke_21 rfl ?_
    refine V_iret hR dL_poke_22 hkc hks ?_
    exact Or.inl ⟨hcnd, rfl, rfl⟩
  · rcases hE with ⟨⟨rfl, hx⟩ | ⟨rfl, hx⟩, rfl⟩
    · refine ⟨rfl, ?_⟩
      refine ⟨[], _, _, sIOB, rfl, fun z hz => absurd hz List.not_mem_nil, rfl, by decide, hl_L_poke_28, fun _ h => h.2.2.2.2.2.1, fun q9 => ?_⟩
      show V l G _ Γ _ _ 13 _ _ _
      dsimp only [vfill, List.set_cons_zero, List.set_cons_succ, Option.toList, List.cons_append, List.nil_append]
      refine V_astore (i := 4) dL_poke_13 rfl rfl ?_
      dsimp only [List.set_cons_zero, List.set_cons_succ]
      refine V_iconst (v := 1) dL_poke_15 rfl ?_
      refine V_iret hR dL_poke_16 hkc hks ?_
      exact Or.inr (Or.inl ⟨hx, rfl, rfl⟩)
    · refine ⟨rfl, ?_⟩
      refine ⟨[_], _, _, sIAE, rfl, fun z hz => by
        cases List.mem_singleton.mp hz
        exact Or.inr ⟨by decide, sIOB, hl_L_poke_28, fun _ h => h.2.1⟩, rfl, by decide, hl_L_poke_13, fun _ h => h.2.2.2.1, fun q9 => ?_⟩
      show V l G _ Γ _ _ 17 _ _ _
      dsimp only [vfill, List.set_cons_zero, List.set_cons_succ, Option.toList, List.cons_append, List.nil_append]
      refine V_astore (i := 4) dL_poke_17 rfl rfl ?_
      dsimp only [List.set_cons_zero, List.set_cons_succ]
      refine V_iconst (v := 2) dL_poke_19 rfl ?_
      refine V_iret hR dL_poke_20 hkc hks ?_
      exact Or.inr (Or.inr ⟨hx, rfl, rfl⟩)

abbrev rL_order : Room := { frames := 7, cells := 1, slots := 6, locals := 118 }
theorem hl_L_order_28 : Cond.classLink RL 28 "java/lang/IndexOutOfBoundsException" ∈ wsL_order := List.mem_of_getElem? (i := 1) rfl
theorem hl_L_order_13 : Cond.classLink RL 13 "java/lang/IllegalArgumentException" ∈ wsL_order := List.mem_of_getElem? (i := 2) rfl
set_option maxHeartbeats 4000000 in
set_option maxRecDepth 100000 in
theorem c_L_order (l : Launch) (hst : l.stackTraces = false) (G : vG) (A : Nat → Nat) (ea : Nat → Nat → Nat) (o : Nat → Nat) (hs : Nat → vE) (n p k1 k2 k3 k4 : Nat) (e : vE) (he : eB e) (h0 : o 0 < 14) (h1 : o 1 < 15) (hp : p < 4294967296) (hk1 : k1 < 4294967296) (hk2 : k2 < 4294967296) (hk3 : k3 < 4294967296) (hk4 : k4 < 4294967296) (ou : Nat) (fo : Nat → Int64) : Kw l G yL_order wsL_order rL_order [.ref (A 0), .int (nI p), .int (nI k1), .int (nI k2), .int (nI k3), .int (nI k4), .ref ou] [oO A ea n, hO (A 3) (A 7) o, hA G (A 7) ea, hK G ea hs, eK G (ea 14) e, lA G ou fo] (fun v Y => ((p < 96 ∧ p ≤ 90 ∧ k1 < 100 ∧ k2 < 100 ∧ k3 < 100 ∧ k4 < 100) ∧ v = some (.int (nI 0)) ∧ Y = [oO A ea n, hO (A 3) (A 7) (rmO o), hA G (A 7) ea, hK G ea (rmH o hs e), eK G (ea 14) ((va_up (va_up (va_up (va_up (va_up (va_up e.1 p k1) (p + 1) k2) (p + 2) k3) (p + 3) k4) (p + 4) 1) (p + 5) (p + 6)), e.2)] ++ [lA G ou (vp_updL fo 0 (nI (e.1 p)).toInt64)]) ∨ (¬ p < 96 ∧ v = some (.int (nI 1)) ∧ Y = [oO A ea n, hO (A 3) (A 7) o, hA G (A 7) ea, hK G ea hs, eK G (ea 14) e] ++ [lA G ou fo]) ∨ ((p < 96 ∧ ¬ (p ≤ 90 ∧ k1 < 100 ∧ k2 < 100 ∧ k3 < 100 ∧ k4 < 100)) ∧ v = some (.int (nI 2)) ∧ Y = [oO A ea n, hO (A 3) (A 7) o, hA G (A 7) ea, hK G ea hs, eK G (ea 14) e] ++ [lA G ou fo])) 1 6 := by
  refine V_enterH (own := RL) (hh := [(0, 16, 19, 28), (0, 16, 23, 13)]) [some (.ref (A 0)), some (.int (nI p)), some (.int (nI k1)), some (.int (nI k2)), some (.int (nI k3)), some (.int (nI k4)), some (.ref ou), none] hst (by decide +kernel) rfl rfl (Nat.le_of_ble_eq_true rfl) rfl (fun Γ hR hC => ?_)
  have hkc : 0 + 1 ≤ 1 := by decide
  have hks : 0 + 6 ≤ 6 := by decide
  refine V_aload (i := 6) dL_order_0 rfl ?_
  refine V_iconst (v := 0) dL_order_2 rfl ?_
  refine V_aload_n (i := 0) dL_order_3 rfl rfl ?_
  refine V_iload_n (i := 1) dL_order_4 rfl rfl ?_
  refine V_iload_n (i := 2) dL_order_5 rfl rfl ?_
  refine V_iload_n (i := 3) dL_order_6 rfl rfl ?_
  refine V_iload (i := 4) dL_order_7 rfl ?_
  refine V_iload (i := 5) dL_order_9 rfl ?_
  refine V_callVX (C := RX6) (q := 0) (ci := 5) (As := _) (rest := _) (hh := [(0, 16, 19, 28), (0, 16, 23, 13)]) [0, 1, 2, 3, 4] hC (c_X6_order l hst G A ea o hs n p k1 k2 k3 k4 e he h0 h1 hp hk1 hk2 hk3 hk4) vy_X6_order gL_order_X6_order rfl rfl rfl rfl rfl rfl rfl ⟨rfl, rfl⟩ ⟨rfl, rfl⟩ ⟨Nat.le_of_ble_eq_true rfl, Nat.le_of_ble_eq_true rfl⟩ rfl dL_order_11 (fun v Y hE => ?_) (fun c Y hE => ?_)
  · obtain ⟨hcnd, rfl, rfl⟩ := hE
    refine ⟨rfl, ?_⟩
    dsimp only [vfill, List.set_cons_zero, List.set_cons_succ, Option.toList, List.cons_append, List.nil_append]
    refine V_i2l dL_order_14 ?_
    refine V_last (q := 5) rfl (by omega) rfl dL_order_15 ?_
    dsimp only [List.set_cons_zero, List.set_cons_succ]
    refine V_goto (tgt := 27) dL_order_16 rfl ?_
    refine V_iconst (v := 0) dL_order_27 rfl ?_
    refine V_iret hR dL_order_28 hkc hks ?_
    exact Or.inl ⟨hcnd, rfl, rfl⟩
  · rcases hE with ⟨⟨rfl, hx⟩ | ⟨rfl, hx⟩, rfl⟩
    · refine ⟨rfl, ?_⟩
      refine ⟨[], _, _, sIOB, rfl, fun z hz => absurd hz List.not_mem_nil, rfl, by decide, hl_L_order_28, fun _ h => h.2.2.2.2.2.1, fun q9 => ?_⟩
      show V l G _ Γ _ _ 19 _ _ _
      dsimp only [vfill, List.set_cons_zero, List.set_cons_succ, Option.toList, List.cons_append, List.nil_append]
      refine V_astore (i := 7) dL_order_19 rfl rfl ?_
      dsimp only [List.set_cons_zero, List.set_cons_succ]
      refine V_iconst (v := 1) dL_order_21 rfl ?_
      refine V_iret hR dL_order_22 hkc hks ?_
      exact Or.inr (Or.inl ⟨hx, rfl, rfl⟩)
    · refine ⟨rfl, ?_⟩
      refine ⟨[_], _, _, sIAE, rfl, fun z hz => by
        cases List.mem_singleton.mp hz
        exact Or.inr ⟨by decide, sIOB, hl_L_order_28, fun _ h => h.2.1⟩, rfl, by decide, hl_L_order_13, fun _ h => h.2.2.2.1, fun q9 => ?_⟩
      show V l G _ Γ _ _ 23 _ _ _
      dsimp only [vfill, List.set_cons_zero, List.set_cons_succ, Option.toList, List.cons_append, List.nil_append]
      refine V_astore (i := 7) dL_order_23 rfl rfl ?_
      dsimp only [List.set_cons_zero, List.set_cons_succ]
      refine V_iconst (v := 2) dL_order_25 rfl ?_
      refine V_iret hR dL_order_26 hkc hks ?_
      exact Or.inr (Or.inr ⟨hx, rfl, rfl⟩)

abbrev rL_own : Room := { frames := 7, cells := 1, slots := 6, locals := 115 }
theorem hl_L_own_28 : Cond.classLink RL 28 "java/lang/IndexOutOfBoundsException" ∈ wsL_own := List.mem_of_getElem? (i := 1) rfl
theorem hl_L_own_13 : Cond.classLink RL 13 "java/lang/IllegalArgumentException" ∈ wsL_own := List.mem_of_getElem? (i := 2) rfl
set_option maxHeartbeats 4000000 in
set_option maxRecDepth 100000 in
theorem c_L_own (l : Launch) (hst : l.stackTraces = false) (G : vG) (A : Nat → Nat) (ea : Nat → Nat → Nat) (o : Nat → Nat) (hs : Nat → vE) (n p w u : Nat) (e : vE) (he : eB e) (h0 : o 0 < 14) (h1 : o 1 < 15) (hp : p < 4294967296) (hw : w < 4294967296) (hu : u < 4294967296) (ou : Nat) (fo : Nat → Int64) : Kw l G yL_own wsL_own rL_own [.ref (A 0), .int (nI p), .int (nI w), .int (nI u), .ref ou] [oO A ea n, hO (A 3) (A 7) o, hA G (A 7) ea, hK G ea hs, eK G (ea 14) e, lA G ou fo] (fun v Y => ((p < 96 ∧ 1 ≤ w ∧ w < 97 ∧ u < 4) ∧ v = some (.int (nI 0)) ∧ Y = [oO A ea n, hO (A 3) (A 7) (rmO o), hA G (A 7) ea, hK G ea (rmH o hs e), eK G (ea 14) (setO e (gvF p (sm p w) u e.2.1))] ++ [lA G ou (vp_updL fo 0 (nI (gvN p (sm p w) u e.2.1)).toInt64)]) ∨ (¬ p < 96 ∧ v = some (.int (nI 1)) ∧ Y = [oO A ea n, hO (A 3) (A 7) o, hA G (A 7) ea, hK G ea hs, eK G (ea 14) e] ++ [lA G ou fo]) ∨ ((p < 96 ∧ ¬ (1 ≤ w ∧ w < 97 ∧ u < 4)) ∧ v = some (.int (nI 2)) ∧ Y = [oO A ea n, hO (A 3) (A 7) o, hA G (A 7) ea, hK G ea hs, eK G (ea 14) e] ++ [lA G ou fo])) 1 6 := by
  refine V_enterH (own := RL) (hh := [(0, 12, 15, 28), (0, 12, 19, 13)]) [some (.ref (A 0)), some (.int (nI p)), some (.int (nI w)), some (.int (nI u)), some (.ref ou), none] hst (by decide +kernel) rfl rfl (Nat.le_of_ble_eq_true rfl) rfl (fun Γ hR hC => ?_)
  have hkc : 0 + 1 ≤ 1 := by decide
  have hks : 0 + 6 ≤ 6 := by decide
  refine V_aload (i := 4) dL_own_0 rfl ?_
  refine V_iconst (v := 0) dL_own_2 rfl ?_
  refine V_aload_n (i := 0) dL_own_3 rfl rfl ?_
  refine V_iload_n (i := 1) dL_own_4 rfl rfl ?_
  refine V_iload_n (i := 2) dL_own_5 rfl rfl ?_
  refine V_iload_n (i := 3) dL_own_6 rfl rfl ?_
  refine V_callVX (C := RX6) (q := 0) (ci := 5) (As := _) (rest := _) (hh := [(0, 12, 15, 28), (0, 12, 19, 13)]) [0, 1, 2, 3, 4] hC (c_X6_own l hst G A ea o hs n p w u e he h0 h1 hp hw hu) vy_X6_own gL_own_X6_own rfl rfl rfl rfl rfl rfl rfl ⟨rfl, rfl⟩ ⟨rfl, rfl⟩ ⟨Nat.le_of_ble_eq_true rfl, Nat.le_of_ble_eq_true rfl⟩ rfl dL_own_7 (fun v Y hE => ?_) (fun c Y hE => ?_)
  · obtain ⟨hcnd, rfl, rfl⟩ := hE
    refine ⟨rfl, ?_⟩
    dsimp only [vfill, List.set_cons_zero, List.set_cons_succ, Option.toList, List.cons_append, List.nil_append]
    refine V_i2l dL_own_10 ?_
    refine V_last (q := 5) rfl (by omega) rfl dL_own_11 ?_
    dsimp only [List.set_cons_zero, List.set_cons_succ]
    refine V_goto (tgt := 23) dL_own_12 rfl ?_
    refine V_iconst (v := 0) dL_own_23 rfl ?_
    refine V_iret hR dL_own_24 hkc hks ?_
    exact Or.inl ⟨hcnd, rfl, rfl⟩
  · rcases hE with ⟨⟨rfl, hx⟩ | ⟨rfl, hx⟩, rfl⟩
    · refine ⟨rfl, ?_⟩
      refine ⟨[], _, _, sIOB, rfl, fun z hz => absurd hz List.not_mem_nil, rfl, by decide, hl_L_own_28, fun _ h => h.2.2.2.2.2.1, fun q9 => ?_⟩
      show V l G _ Γ _ _ 15 _ _ _
      dsimp only [vfill, List.set_cons_zero, List.set_cons_succ, Option.toList, List.cons_append, List.nil_append]
      refine V_astore (i := 5) dL_own_15 rfl rfl ?_
      dsimp only [List.set_cons_zero, List.set_cons_succ]
      refine V_iconst (v := 1) dL_own_17 rfl ?_
      refine V_iret hR dL_own_18 hkc hks ?_
      exact Or.inr (Or.inl ⟨hx, rfl, rfl⟩)
    · refine ⟨rfl, ?_⟩
      refine ⟨[_], _, _, sIAE, rfl, fun z hz => by
        cases List.mem_singleton.mp hz
        exact Or.inr ⟨by decide, sIOB, hl_L_own_28, fun _ h => h.2.1⟩, rfl, by decide, hl_L_own_13, fun _ h => h.2.2.2.1, fun q9 => ?_⟩
      show V l G _ Γ _ _ 19 _ _ _
      dsimp only [vfill, List.set_cons_zero, List.set_cons_succ, Option.toList, List.cons_append, List.nil_append]
      refine V_astore (i := 5) dL_own_19 rfl rfl ?_
      dsimp only [List.set_cons_zero, List.set_cons_succ]
      refine V_iconst (v := 2) dL_own_21 rfl ?_
      refine V_iret hR dL_own_22 hkc hks ?_
      exact Or.inr (Or.inr ⟨hx, rfl, rfl⟩)

abbrev rL_start : Room := { frames := 7, cells := 1, slots := 6, locals := 115 }
theorem hl_L_start_28 : Cond.classLink RL 28 "java/lang/IndexOutOfBoundsException" ∈ wsL_start := List.mem_of_getElem? (i := 1) rfl
set_option maxHeartbeats 4000000 in
set_option maxRecDepth 100000 in
theorem c_L_start (l : Launch) (hst : l.stackTraces = false) (G : vG) (A : Nat → Nat) (ea : Nat → Nat → Nat) (o : Nat → Nat) (hs : Nat → vE) (n h p : Nat) (e : vE) (he : eB e) (h0 : o 0 < 14) (h1 : o 1 < 15) (hh : h < 4294967296) (hp : p < 4294967296) (ou : Nat) (fo : Nat → Int64) : Kw l G yL_start wsL_start rL_start [.ref (A 0), .int (nI h), .int (nI p), .ref ou] [oO A ea n, hO (A 3) (A 7) o, hA G (A 7) ea, hK G ea hs, eK G (ea 14) e, lA G ou fo] (fun v Y => ((h < 3 ∧ p < 96) ∧ v = some (.int (nI 0)) ∧ Y = [oO A ea n, hO (A 3) (A 7) (rmO o), hA G (A 7) ea, hK G ea (rmH o hs e), eK G (ea 14) (setC e h (qBegin p (e.2.2.2.2.2.2 h)))] ++ [lA G ou (vp_updL fo 0 (nI (e.2.2.2.2.2.2 h 0)).toInt64)]) ∨ ((¬ (h < 3 ∧ p < 96)) ∧ v = some (.int (nI 1)) ∧ Y = [oO A ea n, hO (A 3) (A 7) o, hA G (A 7) ea, hK G ea hs, eK G (ea 14) e] ++ [lA G ou fo])) 1 6 := by
  refine V_enterH (own := RL) (hh := [(0, 10, 13, 28)]) [some (.ref (A 0)), some (.int (nI h)), some (.int (nI p)), some (.ref ou), none] hst (by decide +kernel) rfl rfl (Nat.le_of_ble_eq_true rfl) rfl (fun Γ hR hC => ?_)
  have hkc : 0 + 1 ≤ 1 := by decide
  have hks : 0 + 6 ≤ 6 := by decide
  refine V_aload_n (i := 3) dL_start_0 rfl rfl ?_
  refine V_iconst (v := 0) dL_start_1 rfl ?_
  refine V_aload_n (i := 0) dL_start_2 rfl rfl ?_
  refine V_iload_n (i := 1) dL_start_3 rfl rfl ?_
  refine V_iload_n (i := 2) dL_start_4 rfl rfl ?_
  refine V_callVX (C := RX6) (q := 0) (ci := 5) (As := _) (rest := _) (hh := [(0, 10, 13, 28)]) [0, 1, 2, 3, 4] hC (c_X6_start l hst G A ea o hs n h p e he h0 h1 hh hp) vy_X6_start gL_start_X6_start rfl rfl rfl rfl rfl rfl rfl ⟨rfl, rfl⟩ ⟨rfl, rfl⟩ ⟨Nat.le_of_ble_eq_true rfl, Nat.le_of_ble_eq_true rfl⟩ rfl dL_start_5 (fun v Y hE => ?_) (fun c Y hE => ?_)
  · obtain ⟨hcnd, rfl, rfl⟩ := hE
    refine ⟨rfl, ?_⟩
    dsimp only [vfill, List.set_cons_zero, List.set_cons_succ, Option.toList, List.cons_append, List.nil_append]
    refine V_i2l dL_start_8 ?_
    refine V_last (q := 5) rfl (by omega) rfl dL_start_9 ?_
    dsimp only [List.set_cons_zero, List.set_cons_succ]
    refine V_goto (tgt := 17) dL_start_10 rfl ?_
    refine V_iconst (v := 0) dL_start_17 rfl ?_
    refine V_iret hR dL_start_18 hkc hks ?_
    exact Or.inl ⟨hcnd, rfl, rfl⟩
  · obtain ⟨⟨rfl, hx⟩, rfl⟩ := hE
    refine ⟨rfl, ?_⟩
    refine ⟨[], _, _, sIOB, rfl, fun z hz => absurd hz List.not_mem_nil, rfl, by decide, hl_L_start_28, fun _ h => h.2.2.2.2.2.1, fun q9 => ?_⟩
    show V l G _ Γ _ _ 13 _ _ _
    dsimp only [vfill, List.set_cons_zero, List.set_cons_succ, Option.toList, List.cons_append, List.nil_append]
    refine V_astore (i := 4) dL_start_13 rfl rfl ?_
    dsimp only [List.set_cons_zero, List.set_cons_succ]
    refine V_iconst (v := 1) dL_start_15 rfl ?_
    refine V_iret hR dL_start_16 hkc hks ?_
    exact Or.inr ⟨hx, rfl, rfl⟩

abbrev rL_stop : Room := { frames := 7, cells := 1, slots := 6, locals := 114 }
theorem hl_L_stop_28 : Cond.classLink RL 28 "java/lang/IndexOutOfBoundsException" ∈ wsL_stop := List.mem_of_getElem? (i := 1) rfl
theorem hl_L_stop_15 : Cond.classLink RL 15 "java/lang/IllegalStateException" ∈ wsL_stop := List.mem_of_getElem? (i := 2) rfl
set_option maxHeartbeats 4000000 in
set_option maxRecDepth 100000 in
theorem c_L_stop (l : Launch) (hst : l.stackTraces = false) (G : vG) (A : Nat → Nat) (ea : Nat → Nat → Nat) (o : Nat → Nat) (hs : Nat → vE) (n h : Nat) (e : vE) (he : eB e) (h0 : o 0 < 14) (h1 : o 1 < 15) (hh : h < 4294967296) (ou : Nat) (fo : Nat → Int64) : Kw l G yL_stop wsL_stop rL_stop [.ref (A 0), .int (nI h), .ref ou] [oO A ea n, hO (A 3) (A 7) o, hA G (A 7) ea, hK G ea hs, eK G (ea 14) e, lA G ou fo] (fun v Y => ((h < 3 ∧ e.2.2.2.2.2.2 h 0 = 1) ∧ v = some (.int (nI 0)) ∧ Y = [oO A ea n, hO (A 3) (A 7) (rmO o), hA G (A 7) ea, hK G ea (rmH o hs e), eK G (ea 14) (setC e h (qBc 0 (e.2.2.2.2.2.2 h)))] ++ [lA G ou (vp_updL fo 0 (nI (if e.2.2.2.2.2.2 h 5 = 4294967287 ∨ e.2.2.2.2.2.2 h 7 = 6 then 0 else e.2.2.2.2.2.2 h 10 - e.2.2.2.2.2.2 h 6)).toInt64)]) ∨ (¬ h < 3 ∧ v = some (.int (nI 1)) ∧ Y = [oO A ea n, hO (A 3) (A 7) o, hA G (A 7) ea, hK G ea hs, eK G (ea 14) e] ++ [lA G ou fo]) ∨ ((h < 3 ∧ ¬ e.2.2.2.2.2.2 h 0 = 1) ∧ v = some (.int (nI 2)) ∧ Y = [oO A ea n, hO (A 3) (A 7) o, hA G (A 7) ea, hK G ea hs, eK G (ea 14) e] ++ [lA G ou fo])) 1 6 := by
  refine V_enterH (own := RL) (hh := [(0, 9, 12, 28), (0, 9, 15, 15)]) [some (.ref (A 0)), some (.int (nI h)), some (.ref ou), none] hst (by decide +kernel) rfl rfl (Nat.le_of_ble_eq_true rfl) rfl (fun Γ hR hC => ?_)
  have hkc : 0 + 1 ≤ 1 := by decide
  have hks : 0 + 6 ≤ 6 := by decide
  refine V_aload_n (i := 2) dL_stop_0 rfl rfl ?_
  refine V_iconst (v := 0) dL_stop_1 rfl ?_
  refine V_aload_n (i := 0) dL_stop_2 rfl rfl ?_
  refine V_iload_n (i := 1) dL_stop_3 rfl rfl ?_
  refine V_callVX (C := RX6) (q := 0) (ci := 5) (As := _) (rest := _) (hh := [(0, 9, 12, 28), (0, 9, 15, 15)]) [0, 1, 2, 3, 4] hC (c_X6_stop l hst G A ea o hs n h e he h0 h1 hh) vy_X6_stop gL_stop_X6_stop rfl rfl rfl rfl rfl rfl rfl ⟨rfl, rfl⟩ ⟨rfl, rfl⟩ ⟨Nat.le_of_ble_eq_true rfl, Nat.le_of_ble_eq_true rfl⟩ rfl dL_stop_4 (fun v Y hE => ?_) (fun c Y hE => ?_)
  · obtain ⟨hcnd, rfl, rfl⟩ := hE
    refine ⟨rfl, ?_⟩
    dsimp only [vfill, List.set_cons_zero, List.set_cons_succ, Option.toList, List.cons_append, List.nil_append]
    refine V_i2l dL_stop_7 ?_
    refine V_last (q := 5) rfl (by omega) rfl dL_stop_8 ?_
    dsimp only [List.set_cons_zero, List.set_cons_succ]
    refine V_goto (tgt := 18) dL_stop_9 rfl ?_
    refine V_iconst (v := 0) dL_stop_18 rfl ?_
    refine V_iret hR dL_stop_19 hkc hks ?_
    exact Or.inl ⟨hcnd, rfl, rfl⟩
  · rcases hE with ⟨⟨rfl, hx⟩ | ⟨rfl, hx⟩, rfl⟩
    · refine ⟨rfl, ?_⟩
      refine ⟨[], _, _, sIOB, rfl, fun z hz => absurd hz List.not_mem_nil, rfl, by decide, hl_L_stop_28, fun _ h => h.2.2.2.2.2.1, fun q9 => ?_⟩
      show V l G _ Γ _ _ 12 _ _ _
      dsimp only [vfill, List.set_cons_zero, List.set_cons_succ, Option.toList, List.cons_append, List.nil_append]
      refine V_astore_n (i := 3) dL_stop_12 rfl rfl rfl ?_
      dsimp only [List.set_cons_zero, List.set_cons_succ]
      refine V_iconst (v := 1) dL_stop_13 rfl ?_
      refine V_iret hR dL_stop_14 hkc hks ?_
      exact Or.inr (Or.inl ⟨hx, rfl, rfl⟩)
    · refine ⟨rfl, ?_⟩
      refine ⟨[_], _, _, sISE, rfl, fun z hz => by
        cases List.mem_singleton.mp hz
        exact Or.inr ⟨by decide, sIOB, hl_L_stop_28, fun _ h => h.2.2⟩, rfl, by decide, hl_L_stop_15, fun _ h => h.2.2.2.2.1, fun q9 => ?_⟩
      show V l G _ Γ _ _ 15 _ _ _
      dsimp only [vfill, List.set_cons_zero, List.set_cons_succ, Option.toList, List.cons_append, List.nil_append]
      refine V_astore_n (i := 3) dL_stop_15 rfl rfl rfl ?_
      dsimp only [List.set_cons_zero, List.set_cons_succ]
      refine V_iconst (v := 2) dL_stop_16 rfl ?_
      refine V_iret hR dL_stop_17 hkc hks ?_
      exact Or.inr (Or.inr ⟨hx, rfl, rfl⟩)

abbrev rL_run : Room := { frames := 7, cells := 1, slots := 6, locals := 154 }
theorem hl_L_run_13 : Cond.classLink RL 13 "java/lang/IllegalArgumentException" ∈ wsL_run := List.mem_of_getElem? (i := 1) rfl
theorem hl_L_run_15 : Cond.classLink RL 15 "java/lang/IllegalStateException" ∈ wsL_run := List.mem_of_getElem? (i := 2) rfl
set_option maxHeartbeats 4000000 in
set_option maxRecDepth 100000 in
theorem c_L_run (l : Launch) (hst : l.stackTraces = false) (G : vG) (A : Nat → Nat) (ea : Nat → Nat → Nat) (o : Nat → Nat) (hs : Nat → vE) (n w : Nat) (e : vE) (he : eB e) (h0 : o 0 < 14) (h1 : o 1 < 15) (hw : w < 4294967296) (ou : Nat) (fo : Nat → Int64) : Kw l G yL_run wsL_run rL_run [.ref (A 0), .int (nI w), .ref ou] [oO A ea n, hO (A 3) (A 7) o, hA G (A 7) ea, hK G ea hs, eK G (ea 14) e, lA G ou fo] (fun v Y => ((1 ≤ w ∧ w < 100 ∧ ¬ (nT (e.2.2.2.2.2.1 0) e.2.2.2.2.2.2) = 4294967287) ∧ v = some (.int (nI 0)) ∧ Y = [oO A ea n, hO (A 3) (A 7) (rmO o), hA G (A 7) ea, hK G ea (rmH o hs e), eK G (ea 14) (runC w e).2] ++ [lA G ou (vp_updL fo 0 (nI (runC w e).1).toInt64)]) ∨ ((¬ (1 ≤ w ∧ w < 100)) ∧ v = some (.int (nI 1)) ∧ Y = [oO A ea n, hO (A 3) (A 7) o, hA G (A 7) ea, hK G ea hs, eK G (ea 14) e] ++ [lA G ou fo]) ∨ (((1 ≤ w ∧ w < 100) ∧ (nT (e.2.2.2.2.2.1 0) e.2.2.2.2.2.2) = 4294967287) ∧ v = some (.int (nI 2)) ∧ Y = [oO A ea n, hO (A 3) (A 7) o, hA G (A 7) ea, hK G ea hs, eK G (ea 14) e] ++ [lA G ou fo])) 1 6 := by
  refine V_enterH (own := RL) (hh := [(0, 9, 12, 13), (0, 9, 15, 15)]) [some (.ref (A 0)), some (.int (nI w)), some (.ref ou), none] hst (by decide +kernel) rfl rfl (Nat.le_of_ble_eq_true rfl) rfl (fun Γ hR hC => ?_)
  have hkc : 0 + 1 ≤ 1 := by decide
  have hks : 0 + 6 ≤ 6 := by decide
  refine V_aload_n (i := 2) dL_run_0 rfl rfl ?_
  refine V_iconst (v := 0) dL_run_1 rfl ?_
  refine V_aload_n (i := 0) dL_run_2 rfl rfl ?_
  refine V_iload_n (i := 1) dL_run_3 rfl rfl ?_
  refine V_callVX (C := RX6) (q := 0) (ci := 5) (As := _) (rest := _) (hh := [(0, 9, 12, 13), (0, 9, 15, 15)]) [0, 1, 2, 3, 4] hC (c_X6_run l hst G A ea o hs n w e he h0 h1 hw) vy_X6_run gL_run_X6_run rfl rfl rfl rfl rfl rfl rfl ⟨rfl, rfl⟩ ⟨rfl, rfl⟩ ⟨Nat.le_of_ble_eq_true rfl, Nat.le_of_ble_eq_true rfl⟩ rfl dL_run_4 (fun v Y hE => ?_) (fun c Y hE => ?_)
  · obtain ⟨hcnd, rfl, rfl⟩ := hE
    refine ⟨rfl, ?_⟩
    dsimp only [vfill, List.set_cons_zero, List.set_cons_succ, Option.toList, List.cons_append, List.nil_append]
    refine V_i2l dL_run_7 ?_
    refine V_last (q := 5) rfl (by omega) rfl dL_run_8 ?_
    dsimp only [List.set_cons_zero, List.set_cons_succ]
    refine V_goto (tgt := 18) dL_run_9 rfl ?_
    refine V_iconst (v := 0) dL_run_18 rfl ?_
    refine V_iret hR dL_run_19 hkc hks ?_
    exact Or.inl ⟨hcnd, rfl, rfl⟩
  · rcases hE with ⟨⟨rfl, hx⟩ | ⟨rfl, hx⟩, rfl⟩
    · refine ⟨rfl, ?_⟩
      refine ⟨[], _, _, sIAE, rfl, fun z hz => absurd hz List.not_mem_nil, rfl, by decide, hl_L_run_13, fun _ h => h.2.2.2.1, fun q9 => ?_⟩
      show V l G _ Γ _ _ 12 _ _ _
      dsimp only [vfill, List.set_cons_zero, List.set_cons_succ, Option.toList, List.cons_append, List.nil_append]
      refine V_astore_n (i := 3) dL_run_12 rfl rfl rfl ?_
      dsimp only [List.set_cons_zero, List.set_cons_succ]
      refine V_iconst (v := 1) dL_run_13 rfl ?_
      refine V_iret hR dL_run_14 hkc hks ?_
      exact Or.inr (Or.inl ⟨hx, rfl, rfl⟩)
    · refine ⟨rfl, ?_⟩
      refine ⟨[_], _, _, sISE, rfl, fun z hz => by
        cases List.mem_singleton.mp hz
        exact Or.inr ⟨by decide, sIAE, hl_L_run_13, fun _ h => h.1⟩, rfl, by decide, hl_L_run_15, fun _ h => h.2.2.2.2.1, fun q9 => ?_⟩
      show V l G _ Γ _ _ 15 _ _ _
      dsimp only [vfill, List.set_cons_zero, List.set_cons_succ, Option.toList, List.cons_append, List.nil_append]
      refine V_astore_n (i := 3) dL_run_15 rfl rfl rfl ?_
      dsimp only [List.set_cons_zero, List.set_cons_succ]
      refine V_iconst (v := 2) dL_run_16 rfl ?_
      refine V_iret hR dL_run_17 hkc hks ?_
      exact Or.inr (Or.inr ⟨hx, rfl, rfl⟩)

abbrev rL_undo : Room := { frames := 7, cells := 1, slots := 6, locals := 112 }
theorem hl_L_undo_15 : Cond.classLink RL 15 "java/lang/IllegalStateException" ∈ wsL_undo := List.mem_of_getElem? (i := 1) rfl
set_option maxHeartbeats 4000000 in
set_option maxRecDepth 100000 in
theorem c_L_undo (l : Launch) (hst : l.stackTraces = false) (G : vG) (A : Nat → Nat) (ea : Nat → Nat → Nat) (o : Nat → Nat) (hs : Nat → vE) (n : Nat) (e : vE) (he : eB e) (h0 : o 0 < 14) (h1 : o 1 < 15) (ou : Nat) (fo : Nat → Int64) : Kw l G yL_undo wsL_undo rL_undo [.ref (A 0), .ref ou] [oO A ea n, hO (A 3) (A 7) o, hA G (A 7) ea, hK G ea hs, eK G (ea 14) e, lA G ou fo] (fun v Y => (0 < o 1 ∧ v = some (.int (nI 0)) ∧ Y = [oO A ea n, hO (A 3) (A 7) (va_up o 1 (o 1 - 1)), hA G (A 7) ea, hK G ea hs, eK G (ea 14) (cpC e (hs ((o 0 + (o 1 - 1)) % 14)))] ++ [lA G ou (vp_updL fo 0 (nI (o 1 - 1)).toInt64)]) ∨ (o 1 = 0 ∧ v = some (.int (nI 1)) ∧ Y = [oO A ea n, hO (A 3) (A 7) o, hA G (A 7) ea, hK G ea hs, eK G (ea 14) e] ++ [lA G ou fo])) 1 6 := by
  refine V_enterH (own := RL) (hh := [(0, 8, 11, 15)]) [some (.ref (A 0)), some (.ref ou), none] hst (by decide +kernel) rfl rfl (Nat.le_of_ble_eq_true rfl) rfl (fun Γ hR hC => ?_)
  have hkc : 0 + 1 ≤ 1 := by decide
  have hks : 0 + 6 ≤ 6 := by decide
  refine V_aload_n (i := 1) dL_undo_0 rfl rfl ?_
  refine V_iconst (v := 0) dL_undo_1 rfl ?_
  refine V_aload_n (i := 0) dL_undo_2 rfl rfl ?_
  refine V_callVX (C := RX6) (q := 0) (ci := 5) (As := []) (rest := _) (hh := [(0, 8, 11, 15)]) [0, 1, 2, 3, 4] hC (c_X6_undo l hst G A ea o hs n e he h0 h1) vy_X6_undo gL_undo_X6_undo rfl rfl rfl rfl rfl rfl rfl ⟨rfl, rfl⟩ ⟨rfl, rfl⟩ ⟨Nat.le_of_ble_eq_true rfl, Nat.le_of_ble_eq_true rfl⟩ rfl dL_undo_3 (fun v Y hE => ?_) (fun c Y hE => ?_)
  · obtain ⟨hcnd, rfl, rfl⟩ := hE
    refine ⟨rfl, ?_⟩
    dsimp only [vfill, List.set_cons_zero, List.set_cons_succ, Option.toList, List.cons_append, List.nil_append]
    refine V_i2l dL_undo_6 ?_
    refine V_last (q := 5) rfl (by omega) rfl dL_undo_7 ?_
    dsimp only [List.set_cons_zero, List.set_cons_succ]
    refine V_goto (tgt := 14) dL_undo_8 rfl ?_
    refine V_iconst (v := 0) dL_undo_14 rfl ?_
    refine V_iret hR dL_undo_15 hkc hks ?_
    exact Or.inl ⟨hcnd, rfl, rfl⟩
  · obtain ⟨⟨rfl, hx⟩, rfl⟩ := hE
    refine ⟨rfl, ?_⟩
    refine ⟨[], _, _, sISE, rfl, fun z hz => absurd hz List.not_mem_nil, rfl, by decide, hl_L_undo_15, fun _ h => h.2.2.2.2.1, fun q9 => ?_⟩
    show V l G _ Γ _ _ 11 _ _ _
    dsimp only [vfill, List.set_cons_zero, List.set_cons_succ, Option.toList, List.cons_append, List.nil_append]
    refine V_astore_n (i := 2) dL_undo_11 rfl rfl rfl ?_
    dsimp only [List.set_cons_zero, List.set_cons_succ]
    refine V_iconst (v := 1) dL_undo_12 rfl ?_
    refine V_iret hR dL_undo_13 hkc hks ?_
    exact Or.inr ⟨hx, rfl, rfl⟩

abbrev rL_ends : Room := { frames := 7, cells := 1, slots := 6, locals := 133 }
theorem hl_L_ends_28 : Cond.classLink RL 28 "java/lang/IndexOutOfBoundsException" ∈ wsL_ends := List.mem_of_getElem? (i := 1) rfl
set_option maxHeartbeats 4000000 in
set_option maxRecDepth 100000 in
theorem c_L_ends (l : Launch) (hst : l.stackTraces = false) (G : vG) (A : Nat → Nat) (ea : Nat → Nat → Nat) (h : Nat) (n : Nat) (e t : vE) (he : eB e) (hh : h < 4294967296) (ou : Nat) (fo : Nat → Int64) : Kw l G yL_ends wsL_ends rL_ends [.ref (A 0), .int (nI h), .ref ou] [oO A ea n, eK G (ea 14) e, eK G (ea 15) t, lA G ou fo] (fun v Y => (h < 3 ∧ v = some (.int (nI 0)) ∧ Y = [oO A ea n, eK G (ea 14) e, eK G (ea 15) (enC h 501 0 (cpC t e)).2] ++ [lA G ou (vp_updL fo 0 (nI (enC h 501 0 (cpC t e)).1).toInt64)]) ∨ (¬ h < 3 ∧ v = some (.int (nI 1)) ∧ Y = [oO A ea n, eK G (ea 14) e, eK G (ea 15) t] ++ [lA G ou fo])) 1 6 := by
  refine V_enterH (own := RL) (hh := [(0, 9, 12, 28)]) [some (.ref (A 0)), some (.int (nI h)), some (.ref ou), none] hst (by decide +kernel) rfl rfl (Nat.le_of_ble_eq_true rfl) rfl (fun Γ hR hC => ?_)
  have hkc : 0 + 1 ≤ 1 := by decide
  have hks : 0 + 6 ≤ 6 := by decide
  refine V_aload_n (i := 2) dL_ends_0 rfl rfl ?_
  refine V_iconst (v := 0) dL_ends_1 rfl ?_
  refine V_aload_n (i := 0) dL_ends_2 rfl rfl ?_
  refine V_iload_n (i := 1) dL_ends_3 rfl rfl ?_
  refine V_callVX (C := RX6) (q := 0) (ci := 5) (As := _) (rest := _) (hh := [(0, 9, 12, 28)]) [0, 1, 2] hC (c_X6_ends l hst G A ea h n e t he hh) vy_X6_ends gL_ends_X6_ends rfl rfl rfl rfl rfl rfl rfl ⟨rfl, rfl⟩ ⟨rfl, rfl⟩ ⟨Nat.le_of_ble_eq_true rfl, Nat.le_of_ble_eq_true rfl⟩ rfl dL_ends_4 (fun v Y hE => ?_) (fun c Y hE => ?_)
  · obtain ⟨hcnd, rfl, rfl⟩ := hE
    refine ⟨rfl, ?_⟩
    dsimp only [vfill, List.set_cons_zero, List.set_cons_succ, Option.toList, List.cons_append, List.nil_append]
    refine V_i2l dL_ends_7 ?_
    refine V_last (q := 3) rfl (by omega) rfl dL_ends_8 ?_
    dsimp only [List.set_cons_zero, List.set_cons_succ]
    refine V_goto (tgt := 15) dL_ends_9 rfl ?_
    refine V_iconst (v := 0) dL_ends_15 rfl ?_
    refine V_iret hR dL_ends_16 hkc hks ?_
    exact Or.inl ⟨hcnd, rfl, rfl⟩
  · obtain ⟨⟨rfl, hx⟩, rfl⟩ := hE
    refine ⟨rfl, ?_⟩
    refine ⟨[], _, _, sIOB, rfl, fun z hz => absurd hz List.not_mem_nil, rfl, by decide, hl_L_ends_28, fun _ h => h.2.2.2.2.2.1, fun q9 => ?_⟩
    show V l G _ Γ _ _ 12 _ _ _
    dsimp only [vfill, List.set_cons_zero, List.set_cons_succ, Option.toList, List.cons_append, List.nil_append]
    refine V_astore_n (i := 3) dL_ends_12 rfl rfl rfl ?_
    dsimp only [List.set_cons_zero, List.set_cons_succ]
    refine V_iconst (v := 1) dL_ends_13 rfl ?_
    refine V_iret hR dL_ends_14 hkc hks ?_
    exact Or.inr ⟨hx, rfl, rfl⟩

abbrev rL_endOf : Room := { frames := 8, cells := 1, slots := 6, locals := 176 }
theorem hl_L_endOf_28 : Cond.classLink RL 28 "java/lang/IndexOutOfBoundsException" ∈ wsL_endOf := List.mem_of_getElem? (i := 1) rfl
set_option maxHeartbeats 4000000 in
set_option maxRecDepth 100000 in
theorem c_L_endOf (l : Launch) (hst : l.stackTraces = false) (G : vG) (A : Nat → Nat) (ea : Nat → Nat → Nat) (h : Nat) (n : Nat) (e t : vE) (he : eB e) (hh : h < 4294967296) (ou : Nat) (fo : Nat → Int64) : Kw l G yL_endOf wsL_endOf rL_endOf [.ref (A 0), .int (nI h), .ref ou] [oO A ea n, eK G (ea 14) e, eK G (ea 15) t, lA G ou fo] (fun v Y => (h < 3 ∧ v = some (.int (nI 0)) ∧ Y = [oO A ea n, eK G (ea 14) e, eK G (ea 15) (laC 500 t e)] ++ [lA G ou (vp_updL fo 0 (nI (if (laC 500 t e).2.2.2.2.2.2 h 0 = 2 then 0 else (laC 500 t e).2.2.2.2.2.2 h 2)).toInt64)]) ∨ (¬ h < 3 ∧ v = some (.int (nI 1)) ∧ Y = [oO A ea n, eK G (ea 14) e, eK G (ea 15) t] ++ [lA G ou fo])) 1 6 := by
  refine V_enterH (own := RL) (hh := [(0, 9, 12, 28)]) [some (.ref (A 0)), some (.int (nI h)), some (.ref ou), none] hst (by decide +kernel) rfl rfl (Nat.le_of_ble_eq_true rfl) rfl (fun Γ hR hC => ?_)
  have hkc : 0 + 1 ≤ 1 := by decide
  have hks : 0 + 6 ≤ 6 := by decide
  refine V_aload_n (i := 2) dL_endOf_0 rfl rfl ?_
  refine V_iconst (v := 0) dL_endOf_1 rfl ?_
  refine V_aload_n (i := 0) dL_endOf_2 rfl rfl ?_
  refine V_iload_n (i := 1) dL_endOf_3 rfl rfl ?_
  refine V_callVX (C := RX6) (q := 0) (ci := 5) (As := _) (rest := _) (hh := [(0, 9, 12, 28)]) [0, 1, 2] hC (c_X6_endOf l hst G A ea h n e t he hh) vy_X6_endOf gL_endOf_X6_endOf rfl rfl rfl rfl rfl rfl rfl ⟨rfl, rfl⟩ ⟨rfl, rfl⟩ ⟨Nat.le_of_ble_eq_true rfl, Nat.le_of_ble_eq_true rfl⟩ rfl dL_endOf_4 (fun v Y hE => ?_) (fun c Y hE => ?_)
  · obtain ⟨hcnd, rfl, rfl⟩ := hE
    refine ⟨rfl, ?_⟩
    dsimp only [vfill, List.set_cons_zero, List.set_cons_succ, Option.toList, List.cons_append, List.nil_append]
    refine V_i2l dL_endOf_7 ?_
    refine V_last (q := 3) rfl (by omega) rfl dL_endOf_8 ?_
    dsimp only [List.set_cons_zero, List.set_cons_succ]
    refine V_goto (tgt := 15) dL_endOf_9 rfl ?_
    refine V_iconst (v := 0) dL_endOf_15 rfl ?_
    refine V_iret hR dL_endOf_16 hkc hks ?_
    exact Or.inl ⟨hcnd, rfl, rfl⟩
  · obtain ⟨⟨rfl, hx⟩, rfl⟩ := hE
    refine ⟨rfl, ?_⟩
    refine ⟨[], _, _, sIOB, rfl, fun z hz => absurd hz List.not_mem_nil, rfl, by decide, hl_L_endOf_28, fun _ h => h.2.2.2.2.2.1, fun q9 => ?_⟩
    show V l G _ Γ _ _ 12 _ _ _
    dsimp only [vfill, List.set_cons_zero, List.set_cons_succ, Option.toList, List.cons_append, List.nil_append]
    refine V_astore_n (i := 3) dL_endOf_12 rfl rfl rfl ?_
    dsimp only [List.set_cons_zero, List.set_cons_succ]
    refine V_iconst (v := 1) dL_endOf_13 rfl ?_
    refine V_iret hR dL_endOf_14 hkc hks ?_
    exact Or.inr ⟨hx, rfl, rfl⟩

abbrev rL_later : Room := { frames := 8, cells := 1, slots := 6, locals := 176 }
theorem hl_L_later_28 : Cond.classLink RL 28 "java/lang/IndexOutOfBoundsException" ∈ wsL_later := List.mem_of_getElem? (i := 1) rfl
theorem hl_L_later_13 : Cond.classLink RL 13 "java/lang/IllegalArgumentException" ∈ wsL_later := List.mem_of_getElem? (i := 2) rfl
set_option maxHeartbeats 4000000 in
set_option maxRecDepth 100000 in
theorem c_L_later (l : Launch) (hst : l.stackTraces = false) (G : vG) (A : Nat → Nat) (ea : Nat → Nat → Nat) (p w : Nat) (n : Nat) (e t : vE) (he : eB e) (hp : p < 4294967296) (hw : w < 4294967296) (ou : Nat) (fo : Nat → Int64) : Kw l G yL_later wsL_later rL_later [.ref (A 0), .int (nI p), .int (nI w), .ref ou] [oO A ea n, eK G (ea 14) e, eK G (ea 15) t, lA G ou fo] (fun v Y => ((p < 96 ∧ w < 501) ∧ v = some (.int (nI 0)) ∧ Y = [oO A ea n, eK G (ea 14) e, eK G (ea 15) (laC w t e)] ++ [lA G ou (vp_updL fo 0 (nI ((laC w t e).1 p)).toInt64)]) ∨ (¬ p < 96 ∧ v = some (.int (nI 1)) ∧ Y = [oO A ea n, eK G (ea 14) e, eK G (ea 15) t] ++ [lA G ou fo]) ∨ ((p < 96 ∧ ¬ w < 501) ∧ v = some (.int (nI 2)) ∧ Y = [oO A ea n, eK G (ea 14) e, eK G (ea 15) t] ++ [lA G ou fo])) 1 6 := by
  refine V_enterH (own := RL) (hh := [(0, 10, 13, 28), (0, 10, 17, 13)]) [some (.ref (A 0)), some (.int (nI p)), some (.int (nI w)), some (.ref ou), none] hst (by decide +kernel) rfl rfl (Nat.le_of_ble_eq_true rfl) rfl (fun Γ hR hC => ?_)
  have hkc : 0 + 1 ≤ 1 := by decide
  have hks : 0 + 6 ≤ 6 := by decide
  refine V_aload_n (i := 3) dL_later_0 rfl rfl ?_
  refine V_iconst (v := 0) dL_later_1 rfl ?_
  refine V_aload_n (i := 0) dL_later_2 rfl rfl ?_
  refine V_iload_n (i := 1) dL_later_3 rfl rfl ?_
  refine V_iload_n (i := 2) dL_later_4 rfl rfl ?_
  refine V_callVX (C := RX6) (q := 0) (ci := 5) (As := _) (rest := _) (hh := [(0, 10, 13, 28), (0, 10, 17, 13)]) [0, 1, 2] hC (c_X6_later l hst G A ea p w n e t he hp hw) vy_X6_later gL_later_X6_later rfl rfl rfl rfl rfl rfl rfl ⟨rfl, rfl⟩ ⟨rfl, rfl⟩ ⟨Nat.le_of_ble_eq_true rfl, Nat.le_of_ble_eq_true rfl⟩ rfl dL_later_5 (fun v Y hE => ?_) (fun c Y hE => ?_)
  · obtain ⟨hcnd, rfl, rfl⟩ := hE
    refine ⟨rfl, ?_⟩
    dsimp only [vfill, List.set_cons_zero, List.set_cons_succ, Option.toList, List.cons_append, List.nil_append]
    refine V_i2l dL_later_8 ?_
    refine V_last (q := 3) rfl (by omega) rfl dL_later_9 ?_
    dsimp only [List.set_cons_zero, List.set_cons_succ]
    refine V_goto (tgt := 21) dL_later_10 rfl ?_
    refine V_iconst (v := 0) dL_later_21 rfl ?_
    refine V_iret hR dL_later_22 hkc hks ?_
    exact Or.inl ⟨hcnd, rfl, rfl⟩
  · rcases hE with ⟨⟨rfl, hx⟩ | ⟨rfl, hx⟩, rfl⟩
    · refine ⟨rfl, ?_⟩
      refine ⟨[], _, _, sIOB, rfl, fun z hz => absurd hz List.not_mem_nil, rfl, by decide, hl_L_later_28, fun _ h => h.2.2.2.2.2.1, fun q9 => ?_⟩
      show V l G _ Γ _ _ 13 _ _ _
      dsimp only [vfill, List.set_cons_zero, List.set_cons_succ, Option.toList, List.cons_append, List.nil_append]
      refine V_astore (i := 4) dL_later_13 rfl rfl ?_
      dsimp only [List.set_cons_zero, List.set_cons_succ]
      refine V_iconst (v := 1) dL_later_15 rfl ?_
      refine V_iret hR dL_later_16 hkc hks ?_
      exact Or.inr (Or.inl ⟨hx, rfl, rfl⟩)
    · refine ⟨rfl, ?_⟩
      refine ⟨[_], _, _, sIAE, rfl, fun z hz => by
        cases List.mem_singleton.mp hz
        exact Or.inr ⟨by decide, sIOB, hl_L_later_28, fun _ h => h.2.1⟩, rfl, by decide, hl_L_later_13, fun _ h => h.2.2.2.1, fun q9 => ?_⟩
      show V l G _ Γ _ _ 17 _ _ _
      dsimp only [vfill, List.set_cons_zero, List.set_cons_succ, Option.toList, List.cons_append, List.nil_append]
      refine V_astore (i := 4) dL_later_17 rfl rfl ?_
      dsimp only [List.set_cons_zero, List.set_cons_succ]
      refine V_iconst (v := 2) dL_later_19 rfl ?_
      refine V_iret hR dL_later_20 hkc hks ?_
      exact Or.inr (Or.inr ⟨hx, rfl, rfl⟩)

abbrev rL_contested : Room := { frames := 8, cells := 1, slots := 6, locals := 175 }
theorem hl_L_contested_13 : Cond.classLink RL 13 "java/lang/IllegalArgumentException" ∈ wsL_contested := List.mem_of_getElem? (i := 1) rfl
set_option maxHeartbeats 4000000 in
set_option maxRecDepth 100000 in
theorem c_L_contested (l : Launch) (hst : l.stackTraces = false) (G : vG) (A : Nat → Nat) (ea : Nat → Nat → Nat) (w : Nat) (n : Nat) (e t : vE) (he : eB e) (hw : w < 4294967296) (ou : Nat) (fo : Nat → Int64) : Kw l G yL_contested wsL_contested rL_contested [.ref (A 0), .int (nI w), .ref ou] [oO A ea n, eK G (ea 14) e, eK G (ea 15) t, lA G ou fo] (fun v Y => (w < 501 ∧ v = some (.int (nI 0)) ∧ Y = [oO A ea n, eK G (ea 14) e, eK G (ea 15) (laC w t e)] ++ [lA G ou (vp_updL fo 0 (nI (vsum (fun k => if bc8 ((laC w t e).2.2.2.2.1 k) ≤ 1 then 0 else 1) 96)).toInt64)]) ∨ (¬ w < 501 ∧ v = some (.int (nI 1)) ∧ Y = [oO A ea n, eK G (ea 14) e, eK G (ea 15) t] ++ [lA G ou fo])) 1 6 := by
  refine V_enterH (own := RL) (hh := [(0, 9, 12, 13)]) [some (.ref (A 0)), some (.int (nI w)), some (.ref ou), none] hst (by decide +kernel) rfl rfl (Nat.le_of_ble_eq_true rfl) rfl (fun Γ hR hC => ?_)
  have hkc : 0 + 1 ≤ 1 := by decide
  have hks : 0 + 6 ≤ 6 := by decide
  refine V_aload_n (i := 2) dL_contested_0 rfl rfl ?_
  refine V_iconst (v := 0) dL_contested_1 rfl ?_
  refine V_aload_n (i := 0) dL_contested_2 rfl rfl ?_
  refine V_iload_n (i := 1) dL_contested_3 rfl rfl ?_
  refine V_callVX (C := RX6) (q := 0) (ci := 5) (As := _) (rest := _) (hh := [(0, 9, 12, 13)]) [0, 1, 2] hC (c_X6_contested l hst G A ea w n e t he hw) vy_X6_contested gL_contested_X6_contested rfl rfl rfl rfl rfl rfl rfl ⟨rfl, rfl⟩ ⟨rfl, rfl⟩ ⟨Nat.le_of_ble_eq_true rfl, Nat.le_of_ble_eq_true rfl⟩ rfl dL_contested_4 (fun v Y hE => ?_) (fun c Y hE => ?_)
  · obtain ⟨hcnd, rfl, rfl⟩ := hE
    refine ⟨rfl, ?_⟩
    dsimp only [vfill, List.set_cons_zero, List.set_cons_succ, Option.toList, List.cons_append, List.nil_append]
    refine V_i2l dL_contested_7 ?_
    refine V_last (q := 3) rfl (by omega) rfl dL_contested_8 ?_
    dsimp only [List.set_cons_zero, List.set_cons_succ]
    refine V_goto (tgt := 15) dL_contested_9 rfl ?_
    refine V_iconst (v := 0) dL_contested_15 rfl ?_
    refine V_iret hR dL_contested_16 hkc hks ?_
    exact Or.inl ⟨hcnd, rfl, rfl⟩
  · obtain ⟨⟨rfl, hx⟩, rfl⟩ := hE
    refine ⟨rfl, ?_⟩
    refine ⟨[], _, _, sIAE, rfl, fun z hz => absurd hz List.not_mem_nil, rfl, by decide, hl_L_contested_13, fun _ h => h.2.2.2.1, fun q9 => ?_⟩
    show V l G _ Γ _ _ 12 _ _ _
    dsimp only [vfill, List.set_cons_zero, List.set_cons_succ, Option.toList, List.cons_append, List.nil_append]
    refine V_astore_n (i := 3) dL_contested_12 rfl rfl rfl ?_
    dsimp only [List.set_cons_zero, List.set_cons_succ]
    refine V_iconst (v := 1) dL_contested_13 rfl ?_
    refine V_iret hR dL_contested_14 hkc hks ?_
    exact Or.inr ⟨hx, rfl, rfl⟩

abbrev rL_alone : Room := { frames := 7, cells := 1, slots := 6, locals := 155 }
theorem hl_L_alone_28 : Cond.classLink RL 28 "java/lang/IndexOutOfBoundsException" ∈ wsL_alone := List.mem_of_getElem? (i := 1) rfl
set_option maxHeartbeats 4000000 in
set_option maxRecDepth 100000 in
theorem c_L_alone (l : Launch) (hst : l.stackTraces = false) (G : vG) (A : Nat → Nat) (ea : Nat → Nat → Nat) (h : Nat) (n : Nat) (e t : vE) (he : eB e) (hh : h < 4294967296) (ou : Nat) (fo : Nat → Int64) : Kw l G yL_alone wsL_alone rL_alone [.ref (A 0), .int (nI h), .ref ou] [oO A ea n, eK G (ea 14) e, eK G (ea 15) t, lA G ou fo] (fun v Y => (h < 3 ∧ v = some (.int (nI 0)) ∧ Y = [oO A ea n, eK G (ea 14) e, eK G (ea 15) (runC 500 (alC h (cpC t e))).2] ++ [lA G ou (vp_updL fo 0 (nI ((runC 500 (alC h (cpC t e))).2.2.2.2.2.2.2 h 4) - nI (e.2.2.2.2.2.2 h 4)).toInt64)]) ∨ (¬ h < 3 ∧ v = some (.int (nI 1)) ∧ Y = [oO A ea n, eK G (ea 14) e, eK G (ea 15) t] ++ [lA G ou fo])) 1 6 := by
  refine V_enterH (own := RL) (hh := [(0, 9, 12, 28)]) [some (.ref (A 0)), some (.int (nI h)), some (.ref ou), none] hst (by decide +kernel) rfl rfl (Nat.le_of_ble_eq_true rfl) rfl (fun Γ hR hC => ?_)
  have hkc : 0 + 1 ≤ 1 := by decide
  have hks : 0 + 6 ≤ 6 := by decide
  refine V_aload_n (i := 2) dL_alone_0 rfl rfl ?_
  refine V_iconst (v := 0) dL_alone_1 rfl ?_
  refine V_aload_n (i := 0) dL_alone_2 rfl rfl ?_
  refine V_iload_n (i := 1) dL_alone_3 rfl rfl ?_
  refine V_callVX (C := RX6) (q := 0) (ci := 5) (As := _) (rest := _) (hh := [(0, 9, 12, 28)]) [0, 1, 2] hC (c_X6_alone l hst G A ea h n e t he hh) vy_X6_alone gL_alone_X6_alone rfl rfl rfl rfl rfl rfl rfl ⟨rfl, rfl⟩ ⟨rfl, rfl⟩ ⟨Nat.le_of_ble_eq_true rfl, Nat.le_of_ble_eq_true rfl⟩ rfl dL_alone_4 (fun v Y hE => ?_) (fun c Y hE => ?_)
  · obtain ⟨hcnd, rfl, rfl⟩ := hE
    refine ⟨rfl, ?_⟩
    dsimp only [vfill, List.set_cons_zero, List.set_cons_succ, Option.toList, List.cons_append, List.nil_append]
    refine V_i2l dL_alone_7 ?_
    refine V_last (q := 3) rfl (by omega) rfl dL_alone_8 ?_
    dsimp only [List.set_cons_zero, List.set_cons_succ]
    refine V_goto (tgt := 15) dL_alone_9 rfl ?_
    refine V_iconst (v := 0) dL_alone_15 rfl ?_
    refine V_iret hR dL_alone_16 hkc hks ?_
    exact Or.inl ⟨hcnd, rfl, rfl⟩
  · obtain ⟨⟨rfl, hx⟩, rfl⟩ := hE
    refine ⟨rfl, ?_⟩
    refine ⟨[], _, _, sIOB, rfl, fun z hz => absurd hz List.not_mem_nil, rfl, by decide, hl_L_alone_28, fun _ h => h.2.2.2.2.2.1, fun q9 => ?_⟩
    show V l G _ Γ _ _ 12 _ _ _
    dsimp only [vfill, List.set_cons_zero, List.set_cons_succ, Option.toList, List.cons_append, List.nil_append]
    refine V_astore_n (i := 3) dL_alone_12 rfl rfl rfl ?_
    dsimp only [List.set_cons_zero, List.set_cons_succ]
    refine V_iconst (v := 1) dL_alone_13 rfl ?_
    refine V_iret hR dL_alone_14 hkc hks ?_
    exact Or.inr ⟨hx, rfl, rfl⟩

abbrev rL_runScript : Room := { frames := 8, cells := 1, slots := 6, locals := 187 }
theorem hl_L_runScript_13 : Cond.classLink RL 13 "java/lang/IllegalArgumentException" ∈ wsL_runScript := List.mem_of_getElem? (i := 1) rfl
set_option maxHeartbeats 4000000 in
set_option maxRecDepth 100000 in
theorem c_L_runScript (l : Launch) (hst : l.stackTraces = false) (G : vG) (A : Nat → Nat) (ea : Nat → Nat → Nat) (w : Nat) (x : Int64) (n : Nat) (e t : vE) (he : eB e) (hw : w < 4294967296) (ou : Nat) (fo : Nat → Int64) : Kw l G yL_runScript wsL_runScript rL_runScript [.ref (A 0), .int (nI w), .long x, .ref ou] [oO A ea n, eK G (ea 14) e, eK G (ea 15) t, lA G ou fo] (fun v Y => ((1 ≤ w ∧ w < 4 ∧ 0 ≤ x.toInt ∧ x.toInt.toNat < 100000 ^ w) ∧ v = some (.int (nI 0)) ∧ Y = [oO A ea n, eK G (ea 14) e, eK G (ea 15) (rsL x.toInt.toNat w 0 (cpC t e)).2] ++ [lA G ou (vp_updL fo 0 (nI (rsL x.toInt.toNat w 0 (cpC t e)).1).toInt64)]) ∨ ((¬ (1 ≤ w ∧ w < 4 ∧ 0 ≤ x.toInt ∧ x.toInt.toNat < 100000 ^ w)) ∧ v = some (.int (nI 1)) ∧ Y = [oO A ea n, eK G (ea 14) e, eK G (ea 15) t] ++ [lA G ou fo])) 1 6 := by
  refine V_enterH (own := RL) (hh := [(0, 11, 14, 13)]) [some (.ref (A 0)), some (.int (nI w)), some (.long x), none, some (.ref ou), none] hst (by decide +kernel) rfl rfl (Nat.le_of_ble_eq_true rfl) rfl (fun Γ hR hC => ?_)
  have hkc : 0 + 1 ≤ 1 := by decide
  have hks : 0 + 6 ≤ 6 := by decide
  refine V_aload (i := 4) dL_runScript_0 rfl ?_
  refine V_iconst (v := 0) dL_runScript_2 rfl ?_
  refine V_aload_n (i := 0) dL_runScript_3 rfl rfl ?_
  refine V_iload_n (i := 1) dL_runScript_4 rfl rfl ?_
  refine V_lload_n (i := 2) dL_runScript_5 rfl rfl ?_
  refine V_callVX (C := RX6) (q := 0) (ci := 5) (As := _) (rest := _) (hh := [(0, 11, 14, 13)]) [0, 1, 2] hC (c_X6_runScript l hst G A ea w x n e t he hw) vy_X6_runScript gL_runScript_X6_runScript rfl rfl rfl rfl rfl rfl rfl ⟨rfl, rfl⟩ ⟨rfl, rfl⟩ ⟨Nat.le_of_ble_eq_true rfl, Nat.le_of_ble_eq_true rfl⟩ rfl dL_runScript_6 (fun v Y hE => ?_) (fun c Y hE => ?_)
  · obtain ⟨hcnd, rfl, rfl⟩ := hE
    refine ⟨rfl, ?_⟩
    dsimp only [vfill, List.set_cons_zero, List.set_cons_succ, Option.toList, List.cons_append, List.nil_append]
    refine V_i2l dL_runScript_9 ?_
    refine V_last (q := 3) rfl (by omega) rfl dL_runScript_10 ?_
    dsimp only [List.set_cons_zero, List.set_cons_succ]
    refine V_goto (tgt := 18) dL_runScript_11 rfl ?_
    refine V_iconst (v := 0) dL_runScript_18 rfl ?_
    refine V_iret hR dL_runScript_19 hkc hks ?_
    exact Or.inl ⟨hcnd, rfl, rfl⟩
  · obtain ⟨⟨rfl, hx⟩, rfl⟩ := hE
    refine ⟨rfl, ?_⟩
    refine ⟨[], _, _, sIAE, rfl, fun z hz => absurd hz List.not_mem_nil, rfl, by decide, hl_L_runScript_13, fun _ h => h.2.2.2.1, fun q9 => ?_⟩
    show V l G _ Γ _ _ 14 _ _ _
    dsimp only [vfill, List.set_cons_zero, List.set_cons_succ, Option.toList, List.cons_append, List.nil_append]
    refine V_astore (i := 5) dL_runScript_14 rfl rfl ?_
    dsimp only [List.set_cons_zero, List.set_cons_succ]
    refine V_iconst (v := 1) dL_runScript_16 rfl ?_
    refine V_iret hR dL_runScript_17 hkc hks ?_
    exact Or.inr ⟨hx, rfl, rfl⟩

abbrev rL_simulate : Room := { frames := 7, cells := 1, slots := 6, locals := 160 }
theorem hl_L_simulate_13 : Cond.classLink RL 13 "java/lang/IllegalArgumentException" ∈ wsL_simulate := List.mem_of_getElem? (i := 1) rfl
set_option maxHeartbeats 4000000 in
set_option maxRecDepth 100000 in
theorem c_L_simulate (l : Launch) (hst : l.stackTraces = false) (G : vG) (A : Nat → Nat) (ea : Nat → Nat → Nat) (F : Int64 → Int64) (hF : ∀ y, F y = y * 6364136223846793005 + 1442695040888963407) (w : Nat) (x : Int64) (n : Nat) (e t : vE) (he : eB e) (hw : w < 4294967296) (ou : Nat) (fo : Nat → Int64) : Kw l G yL_simulate wsL_simulate rL_simulate [.ref (A 0), .long x, .int (nI w), .ref ou] [oO A ea n, eK G (ea 14) e, eK G (ea 15) t, lA G ou fo] (fun v Y => ((1 ≤ w ∧ w < 51) ∧ v = some (.int (nI 0)) ∧ Y = [oO A ea n, eK G (ea 14) e, eK G (ea 15) (siG F w x (cpC t e))] ++ [lA G ou (vp_updL fo 0 (nI (siN (siG F w x (cpC t e)))).toInt64)]) ∨ ((¬ (1 ≤ w ∧ w < 51)) ∧ v = some (.int (nI 1)) ∧ Y = [oO A ea n, eK G (ea 14) e, eK G (ea 15) t] ++ [lA G ou fo])) 1 6 := by
  refine V_enterH (own := RL) (hh := [(0, 11, 14, 13)]) [some (.ref (A 0)), some (.long x), none, some (.int (nI w)), some (.ref ou), none] hst (by decide +kernel) rfl rfl (Nat.le_of_ble_eq_true rfl) rfl (fun Γ hR hC => ?_)
  have hkc : 0 + 1 ≤ 1 := by decide
  have hks : 0 + 6 ≤ 6 := by decide
  refine V_aload (i := 4) dL_simulate_0 rfl ?_
  refine V_iconst (v := 0) dL_simulate_2 rfl ?_
  refine V_aload_n (i := 0) dL_simulate_3 rfl rfl ?_
  refine V_lload_n (i := 1) dL_simulate_4 rfl rfl ?_
  refine V_iload_n (i := 3) dL_simulate_5 rfl rfl ?_
  refine V_callVX (C := RX6) (q := 0) (ci := 5) (As := _) (rest := _) (hh := [(0, 11, 14, 13)]) [0, 1, 2] hC (c_X6_simulate l hst G A ea F hF w x n e t he hw) vy_X6_simulate gL_simulate_X6_simulate rfl rfl rfl rfl rfl rfl rfl ⟨rfl, rfl⟩ ⟨rfl, rfl⟩ ⟨Nat.le_of_ble_eq_true rfl, Nat.le_of_ble_eq_true rfl⟩ rfl dL_simulate_6 (fun v Y hE => ?_) (fun c Y hE => ?_)
  · obtain ⟨hcnd, rfl, rfl⟩ := hE
    refine ⟨rfl, ?_⟩
    dsimp only [vfill, List.set_cons_zero, List.set_cons_succ, Option.toList, List.cons_append, List.nil_append]
    refine V_i2l dL_simulate_9 ?_
    refine V_last (q := 3) rfl (by omega) rfl dL_simulate_10 ?_
    dsimp only [List.set_cons_zero, List.set_cons_succ]
    refine V_goto (tgt := 18) dL_simulate_11 rfl ?_
    refine V_iconst (v := 0) dL_simulate_18 rfl ?_
    refine V_iret hR dL_simulate_19 hkc hks ?_
    exact Or.inl ⟨hcnd, rfl, rfl⟩
  · obtain ⟨⟨rfl, hx⟩, rfl⟩ := hE
    refine ⟨rfl, ?_⟩
    refine ⟨[], _, _, sIAE, rfl, fun z hz => absurd hz List.not_mem_nil, rfl, by decide, hl_L_simulate_13, fun _ h => h.2.2.2.1, fun q9 => ?_⟩
    show V l G _ Γ _ _ 14 _ _ _
    dsimp only [vfill, List.set_cons_zero, List.set_cons_succ, Option.toList, List.cons_append, List.nil_append]
    refine V_astore (i := 5) dL_simulate_14 rfl rfl ?_
    dsimp only [List.set_cons_zero, List.set_cons_succ]
    refine V_iconst (v := 1) dL_simulate_16 rfl ?_
    refine V_iret hR dL_simulate_17 hkc hks ?_
    exact Or.inr ⟨hx, rfl, rfl⟩

abbrev rL_save : Room := { frames := 7, cells := 1, slots := 6, locals := 113 }
theorem hl_L_save_28 : Cond.classLink RL 28 "java/lang/IndexOutOfBoundsException" ∈ wsL_save := List.mem_of_getElem? (i := 1) rfl
set_option maxHeartbeats 4000000 in
set_option maxRecDepth 100000 in
theorem c_L_save (l : Launch) (hst : l.stackTraces = false) (G : vG) (A : Nat → Nat) (ea : Nat → Nat → Nat) (fl : Nat → Nat) (n h : Nat) (e s0 s1 : vE) (hh : h < 4294967296) (ou : Nat) (fo : Nat → Int64) : Kw l G yL_save wsL_save rL_save [.ref (A 0), .int (nI h), .ref ou] [oO A ea n, sA G A ea, zA G (A 5) 2 fl, eK G (ea 16) s0, eK G (ea 17) s1, eK G (ea 14) e, lA G ou fo] (fun v Y => (h < 2 ∧ v = some (.int (nI 0)) ∧ Y = [oO A ea n, sA G A ea, zA G (A 5) 2 (va_up fl h 1), eK G (ea 16) (if h = 0 then cpC s0 e else s0), eK G (ea 17) (if h = 0 then s1 else cpC s1 e), eK G (ea 14) e] ++ [lA G ou (vp_updL fo 0 (nI (e.2.2.2.2.2.1 1)).toInt64)]) ∨ (¬ h < 2 ∧ v = some (.int (nI 1)) ∧ Y = [oO A ea n, sA G A ea, zA G (A 5) 2 fl, eK G (ea 16) s0, eK G (ea 17) s1, eK G (ea 14) e] ++ [lA G ou fo])) 1 6 := by
  refine V_enterH (own := RL) (hh := [(0, 9, 12, 28)]) [some (.ref (A 0)), some (.int (nI h)), some (.ref ou), none] hst (by decide +kernel) rfl rfl (Nat.le_of_ble_eq_true rfl) rfl (fun Γ hR hC => ?_)
  have hkc : 0 + 1 ≤ 1 := by decide
  have hks : 0 + 6 ≤ 6 := by decide
  refine V_aload_n (i := 2) dL_save_0 rfl rfl ?_
  refine V_iconst (v := 0) dL_save_1 rfl ?_
  refine V_aload_n (i := 0) dL_save_2 rfl rfl ?_
  refine V_iload_n (i := 1) dL_save_3 rfl rfl ?_
  refine V_callVX (C := RX6) (q := 0) (ci := 5) (As := _) (rest := _) (hh := [(0, 9, 12, 28)]) [0, 1, 2, 3, 4, 5] hC (c_X6_save l hst G A ea fl n h e s0 s1 hh) vy_X6_save gL_save_X6_save rfl rfl rfl rfl rfl rfl rfl ⟨rfl, rfl⟩ ⟨rfl, rfl⟩ ⟨Nat.le_of_ble_eq_true rfl, Nat.le_of_ble_eq_true rfl⟩ rfl dL_save_4 (fun v Y hE => ?_) (fun c Y hE => ?_)
  · obtain ⟨hcnd, rfl, rfl⟩ := hE
    refine ⟨rfl, ?_⟩
    dsimp only [vfill, List.set_cons_zero, List.set_cons_succ, Option.toList, List.cons_append, List.nil_append]
    refine V_i2l dL_save_7 ?_
    refine V_last (q := 6) rfl (by omega) rfl dL_save_8 ?_
    dsimp only [List.set_cons_zero, List.set_cons_succ]
    refine V_goto (tgt := 15) dL_save_9 rfl ?_
    refine V_iconst (v := 0) dL_save_15 rfl ?_
    refine V_iret hR dL_save_16 hkc hks ?_
    exact Or.inl ⟨hcnd, rfl, rfl⟩
  · obtain ⟨⟨rfl, hx⟩, rfl⟩ := hE
    refine ⟨rfl, ?_⟩
    refine ⟨[], _, _, sIOB, rfl, fun z hz => absurd hz List.not_mem_nil, rfl, by decide, hl_L_save_28, fun _ h => h.2.2.2.2.2.1, fun q9 => ?_⟩
    show V l G _ Γ _ _ 12 _ _ _
    dsimp only [vfill, List.set_cons_zero, List.set_cons_succ, Option.toList, List.cons_append, List.nil_append]
    refine V_astore_n (i := 3) dL_save_12 rfl rfl rfl ?_
    dsimp only [List.set_cons_zero, List.set_cons_succ]
    refine V_iconst (v := 1) dL_save_13 rfl ?_
    refine V_iret hR dL_save_14 hkc hks ?_
    exact Or.inr ⟨hx, rfl, rfl⟩

abbrev rL_restore : Room := { frames := 7, cells := 1, slots := 6, locals := 113 }
theorem hl_L_restore_28 : Cond.classLink RL 28 "java/lang/IndexOutOfBoundsException" ∈ wsL_restore := List.mem_of_getElem? (i := 1) rfl
theorem hl_L_restore_15 : Cond.classLink RL 15 "java/lang/IllegalStateException" ∈ wsL_restore := List.mem_of_getElem? (i := 2) rfl
set_option maxHeartbeats 4000000 in
set_option maxRecDepth 100000 in
theorem c_L_restore (l : Launch) (hst : l.stackTraces = false) (G : vG) (A : Nat → Nat) (ea : Nat → Nat → Nat) (fl o : Nat → Nat) (n h : Nat) (e s0 s1 : vE) (hh : h < 4294967296) (hf : ∀ k, k < 2 → fl k < 2) (ou : Nat) (fo : Nat → Int64) : Kw l G yL_restore wsL_restore rL_restore [.ref (A 0), .int (nI h), .ref ou] [oO A ea n, sA G A ea, zA G (A 5) 2 fl, eK G (ea 16) s0, eK G (ea 17) s1, hO (A 3) (A 7) o, eK G (ea 14) e, lA G ou fo] (fun v Y => ((h < 2 ∧ fl h = 1) ∧ v = some (.int (nI 0)) ∧ Y = [oO A ea n, sA G A ea, zA G (A 5) 2 fl, eK G (ea 16) s0, eK G (ea 17) s1, hO (A 3) (A 7) (va_up o 1 0), eK G (ea 14) (cpC e (if h = 0 then s0 else s1))] ++ [lA G ou (vp_updL fo 0 (nI ((if h = 0 then s0 else s1).2.2.2.2.2.1 1)).toInt64)]) ∨ (¬ h < 2 ∧ v = some (.int (nI 1)) ∧ Y = [oO A ea n, sA G A ea, zA G (A 5) 2 fl, eK G (ea 16) s0, eK G (ea 17) s1, hO (A 3) (A 7) o, eK G (ea 14) e] ++ [lA G ou fo]) ∨ ((h < 2 ∧ ¬ fl h = 1) ∧ v = some (.int (nI 2)) ∧ Y = [oO A ea n, sA G A ea, zA G (A 5) 2 fl, eK G (ea 16) s0, eK G (ea 17) s1, hO (A 3) (A 7) o, eK G (ea 14) e] ++ [lA G ou fo])) 1 6 := by
  refine V_enterH (own := RL) (hh := [(0, 9, 12, 28), (0, 9, 15, 15)]) [some (.ref (A 0)), some (.int (nI h)), some (.ref ou), none] hst (by decide +kernel) rfl rfl (Nat.le_of_ble_eq_true rfl) rfl (fun Γ hR hC => ?_)
  have hkc : 0 + 1 ≤ 1 := by decide
  have hks : 0 + 6 ≤ 6 := by decide
  refine V_aload_n (i := 2) dL_restore_0 rfl rfl ?_
  refine V_iconst (v := 0) dL_restore_1 rfl ?_
  refine V_aload_n (i := 0) dL_restore_2 rfl rfl ?_
  refine V_iload_n (i := 1) dL_restore_3 rfl rfl ?_
  refine V_callVX (C := RX6) (q := 0) (ci := 5) (As := _) (rest := _) (hh := [(0, 9, 12, 28), (0, 9, 15, 15)]) [0, 1, 2, 3, 4, 5, 6] hC (c_X6_restore l hst G A ea fl o n h e s0 s1 hh hf) vy_X6_restore gL_restore_X6_restore rfl rfl rfl rfl rfl rfl rfl ⟨rfl, rfl⟩ ⟨rfl, rfl⟩ ⟨Nat.le_of_ble_eq_true rfl, Nat.le_of_ble_eq_true rfl⟩ rfl dL_restore_4 (fun v Y hE => ?_) (fun c Y hE => ?_)
  · obtain ⟨hcnd, rfl, rfl⟩ := hE
    refine ⟨rfl, ?_⟩
    dsimp only [vfill, List.set_cons_zero, List.set_cons_succ, Option.toList, List.cons_append, List.nil_append]
    refine V_i2l dL_restore_7 ?_
    refine V_last (q := 7) rfl (by omega) rfl dL_restore_8 ?_
    dsimp only [List.set_cons_zero, List.set_cons_succ]
    refine V_goto (tgt := 18) dL_restore_9 rfl ?_
    refine V_iconst (v := 0) dL_restore_18 rfl ?_
    refine V_iret hR dL_restore_19 hkc hks ?_
    exact Or.inl ⟨hcnd, rfl, rfl⟩
  · rcases hE with ⟨⟨rfl, hx⟩ | ⟨rfl, hx⟩, rfl⟩
    · refine ⟨rfl, ?_⟩
      refine ⟨[], _, _, sIOB, rfl, fun z hz => absurd hz List.not_mem_nil, rfl, by decide, hl_L_restore_28, fun _ h => h.2.2.2.2.2.1, fun q9 => ?_⟩
      show V l G _ Γ _ _ 12 _ _ _
      dsimp only [vfill, List.set_cons_zero, List.set_cons_succ, Option.toList, List.cons_append, List.nil_append]
      refine V_astore_n (i := 3) dL_restore_12 rfl rfl rfl ?_
      dsimp only [List.set_cons_zero, List.set_cons_succ]
      refine V_iconst (v := 1) dL_restore_13 rfl ?_
      refine V_iret hR dL_restore_14 hkc hks ?_
      exact Or.inr (Or.inl ⟨hx, rfl, rfl⟩)
    · refine ⟨rfl, ?_⟩
      refine ⟨[_], _, _, sISE, rfl, fun z hz => by
        cases List.mem_singleton.mp hz
        exact Or.inr ⟨by decide, sIOB, hl_L_restore_28, fun _ h => h.2.2⟩, rfl, by decide, hl_L_restore_15, fun _ h => h.2.2.2.2.1, fun q9 => ?_⟩
      show V l G _ Γ _ _ 15 _ _ _
      dsimp only [vfill, List.set_cons_zero, List.set_cons_succ, Option.toList, List.cons_append, List.nil_append]
      refine V_astore_n (i := 3) dL_restore_15 rfl rfl rfl ?_
      dsimp only [List.set_cons_zero, List.set_cons_succ]
      refine V_iconst (v := 2) dL_restore_16 rfl ?_
      refine V_iret hR dL_restore_17 hkc hks ?_
      exact Or.inr (Or.inr ⟨hx, rfl, rfl⟩)

end WRAPS
