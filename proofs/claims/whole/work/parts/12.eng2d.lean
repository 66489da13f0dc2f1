abbrev rX2_isForbidden : Room := { frames := 1, cells := 0, slots := 0, locals := 22 }
theorem vy_X2_isForbidden : vY yX2_isForbidden wsX2_isForbidden cX2_isForbidden 4 (some .boolean) 3 := ⟨⟨_, rfl⟩, by decide +kernel, by decide +kernel, by decide +kernel⟩
theorem fl_X2_isForbidden_26 : Cond.fieldLink RX2 26 "OrderChains$Engine" "channels" "[LOrderChains$Channel;" ∈ wsX2_isForbidden := List.mem_of_getElem? (i := 1) rfl
theorem il_X2_isForbidden_X2 : ∀ w ∈ wsX20, w ∈ wsX2_isForbidden := fun _ h => List.mem_cons_of_mem _ (List.mem_append_left _ (List.mem_append_right _ h))
theorem fl_X2_isForbidden_109 : Cond.fieldLink RX2 109 "OrderChains$Channel" "kind" "I" ∈ wsX2_isForbidden := List.mem_of_getElem? (i := 2) rfl
theorem il_X2_isForbidden_X1 : ∀ w ∈ wsX10, w ∈ wsX2_isForbidden := fun _ h => List.mem_cons_of_mem _ (List.mem_append_right _ h)
set_option maxHeartbeats 4000000 in
set_option maxRecDepth 100000 in
/-- Engine.isForbidden -/
theorem c_X2_isForbidden (l : Launch) (G : vG) (a own s q : Nat → Nat) (h sr tg : Nat) (hh : h < 3) (hsr : sr < 96) (htg : tg < 96) (ho : ∀ k, k < 96 → own k < 4294967296) (h7 : q 7 < 4294967296) : Kc l G yX2_isForbidden wsX2_isForbidden rX2_isForbidden [.ref (a 0), .int (nI h), .int (nI sr), .int (nI tg)] [eO a s, iA G (a 2) 96 own, eC G a, cX (a (6 + h)) q] (fun r Y => r = some (.int (nI (forb own h (q 7) sr tg))) ∧ Y = [eO a s, iA G (a 2) 96 own, eC G a, cX (a (6 + h)) q]) 0 0 := by
  refine V_enter (own := RX2) [some (.ref (a 0)), some (.int (nI h)), some (.int (nI sr)), some (.int (nI tg))] (by decide +kernel) rfl rfl (Nat.le_of_ble_eq_true rfl) rfl (fun Γ hR hin => ?_)
  have hkc : 0 ≤ 0 := Nat.le_refl 0
  have hks : 0 ≤ 0 := Nat.le_refl 0
  refine V_aload_n (i := 0) dX2_isForbidden_0 rfl rfl ?_
  refine V_get (C := RX2) (T := TX2) (N := 11) (ci := 2) (q := 0) (ref := "OrderChains$Engine") 4 rfl il_X2_isForbidden_X2 rfl rfl fl_X2_isForbidden_26 rfl rfl dX2_isForbidden_1 ?_
  refine V_iload_n (i := 1) dX2_isForbidden_4 rfl rfl ?_
  refine V_aaldC (q := 2) rfl (by omega) rfl dX2_isForbidden_5 ?_
  refine V_get (C := RX1) (T := TX1) (N := 13) (ci := 1) (q := 3) (ref := "OrderChains$Channel") 7 rfl il_X2_isForbidden_X1 rfl rfl fl_X2_isForbidden_109 rfl rfl dX2_isForbidden_6 ?_
  refine V_iconst (v := 5) dX2_isForbidden_9 rfl ?_
  refine V_icmp_eq (tgt := 20) (by omega) (by omega) dX2_isForbidden_10 rfl (fun h_10 => ?_) (fun h_10 => ?_)
  · refine V_iload_n (i := 2) dX2_isForbidden_20 rfl rfl ?_
    refine V_iload_n (i := 3) dX2_isForbidden_21 rfl rfl ?_
    refine V_icmp_eq (tgt := 47) (by omega) (by omega) dX2_isForbidden_22 rfl (fun h_22 => ?_) (fun h_22 => ?_)
    · refine V_iconst (v := 0) dX2_isForbidden_47 rfl ?_
      refine V_zret hR dX2_isForbidden_48 (by first | exact Or.inl rfl | exact Or.inr rfl | omega) hkc hks ?_
      refine ⟨?_, rfl⟩
      unfold forb
      first | (rw [if_neg h_10]; done) | (rw [if_pos h_10, if_pos h_22]; done) | (rw [if_pos h_10, if_neg h_22, if_pos (by have := forn_01 own h sr; omega)]; done) | (rw [if_pos h_10, if_neg h_22, if_neg (by have := forn_01 own h sr; omega)]; have := forn_01 own h tg; rw [show forn own h tg = 0 by omega]; done) | (rw [if_pos h_10, if_neg h_22, if_neg (by have := forn_01 own h sr; omega)]; have := forn_01 own h tg; rw [show forn own h tg = 1 by omega]; done)
    · refine V_aload_n (i := 0) dX2_isForbidden_25 rfl rfl ?_
      refine V_iload_n (i := 1) dX2_isForbidden_26 rfl rfl ?_
      refine V_iload_n (i := 2) dX2_isForbidden_27 rfl rfl ?_
      refine V_callV (C := RX2) (q := 0) (ci := 2) (As := _) (rest := []) [0, 1] (c_X2_isForeign l G a own s h sr hh (by omega) (ho _ (by omega))) vy_X2_isForeign gX2_isForbidden_X2_isForeign rfl rfl rfl rfl rfl rfl rfl ⟨rfl, rfl⟩ ⟨rfl, rfl⟩ ⟨Nat.zero_le _, Nat.zero_le _⟩ rfl dX2_isForbidden_28 (fun v Y hE => ?_)
      obtain ⟨rfl, rfl⟩ := hE
      refine ⟨rfl, ?_⟩
      dsimp only [vfill, List.set_cons_zero, List.set_cons_succ, Option.toList, List.cons_append, List.nil_append, Nat.add_zero]
      refine V_if_ne (tgt := 43) (by have := forn_01 own h sr; omega) dX2_isForbidden_31 rfl (fun h_31 => ?_) (fun h_31 => ?_)
      · refine V_iconst (v := 1) dX2_isForbidden_43 rfl ?_
        refine V_goto (tgt := 48) dX2_isForbidden_44 rfl ?_
        refine V_zret hR dX2_isForbidden_48 (by first | exact Or.inl rfl | exact Or.inr rfl | omega) hkc hks ?_
        refine ⟨?_, rfl⟩
        unfold forb
        first | (rw [if_neg h_10]; done) | (rw [if_pos h_10, if_pos h_22]; done) | (rw [if_pos h_10, if_neg h_22, if_pos (by have := forn_01 own h sr; omega)]; done) | (rw [if_pos h_10, if_neg h_22, if_neg (by have := forn_01 own h sr; omega)]; have := forn_01 own h tg; rw [show forn own h tg = 0 by omega]; done) | (rw [if_pos h_10, if_neg h_22, if_neg (by have := forn_01 own h sr; omega)]; have := forn_01 own h tg; rw [show forn own h tg = 1 by omega]; done)
      · refine V_aload_n (i := 0) dX2_isForbidden_34 rfl rfl ?_
        refine V_iload_n (i := 1) dX2_isForbidden_35 rfl rfl ?_
        refine V_iload_n (i := 3) dX2_isForbidden_36 rfl rfl ?_
        refine V_callV (C := RX2) (q := 0) (ci := 2) (As := _) (rest := []) [0, 1] (c_X2_isForeign l G a own s h tg hh (by omega) (ho _ (by omega))) vy_X2_isForeign gX2_isForbidden_X2_isForeign rfl rfl rfl rfl rfl rfl rfl ⟨rfl, rfl⟩ ⟨rfl, rfl⟩ ⟨Nat.zero_le _, Nat.zero_le _⟩ rfl dX2_isForbidden_37 (fun v Y hE => ?_)
        obtain ⟨rfl, rfl⟩ := hE
        refine ⟨rfl, ?_⟩
        dsimp only [vfill, List.set_cons_zero, List.set_cons_succ, Option.toList, List.cons_append, List.nil_append, Nat.add_zero]
        refine V_if_eq (tgt := 47) (by have := forn_01 own h tg; omega) dX2_isForbidden_40 rfl (fun h_40 => ?_) (fun h_40 => ?_)
        · refine V_iconst (v := 0) dX2_isForbidden_47 rfl ?_
          refine V_zret hR dX2_isForbidden_48 (by first | exact Or.inl rfl | exact Or.inr rfl | omega) hkc hks ?_
          refine ⟨?_, rfl⟩
          unfold forb
          first | (rw [if_neg h_10]; done) | (rw [if_pos h_10, if_pos h_22]; done) | (rw [if_pos h_10, if_neg h_22, if_pos (by have := forn_01 own h sr; omega)]; done) | (rw [if_pos h_10, if_neg h_22, if_neg (by have := forn_01 own h sr; omega)]; have := forn_01 own h tg; rw [show forn own h tg = 0 by omega]; done) | (rw [if_pos h_10, if_neg h_22, if_neg (by have := forn_01 own h sr; omega)]; have := forn_01 own h tg; rw [show forn own h tg = 1 by omega]; done)
        · refine V_iconst (v := 1) dX2_isForbidden_43 rfl ?_
          refine V_goto (tgt := 48) dX2_isForbidden_44 rfl ?_
          refine V_zret hR dX2_isForbidden_48 (by first | exact Or.inl rfl | exact Or.inr rfl | omega) hkc hks ?_
          refine ⟨?_, rfl⟩
          unfold forb
          first | (rw [if_neg h_10]; done) | (rw [if_pos h_10, if_pos h_22]; done) | (rw [if_pos h_10, if_neg h_22, if_pos (by have := forn_01 own h sr; omega)]; done) | (rw [if_pos h_10, if_neg h_22, if_neg (by have := forn_01 own h sr; omega)]; have := forn_01 own h tg; rw [show forn own h tg = 0 by omega]; done) | (rw [if_pos h_10, if_neg h_22, if_neg (by have := forn_01 own h sr; omega)]; have := forn_01 own h tg; rw [show forn own h tg = 1 by omega]; done)
  · refine V_aload_n (i := 0) dX2_isForbidden_13 rfl rfl ?_
    refine V_iload_n (i := 1) dX2_isForbidden_14 rfl rfl ?_
    refine V_iload_n (i := 3) dX2_isForbidden_15 rfl rfl ?_
    refine V_callV (C := RX2) (q := 0) (ci := 2) (As := _) (rest := []) [0, 1] (c_X2_isForeign l G a own s h tg hh (by omega) (ho _ (by omega))) vy_X2_isForeign gX2_isForbidden_X2_isForeign rfl rfl rfl rfl rfl rfl rfl ⟨rfl, rfl⟩ ⟨rfl, rfl⟩ ⟨Nat.zero_le _, Nat.zero_le _⟩ rfl dX2_isForbidden_16 (fun v Y hE => ?_)
    obtain ⟨rfl, rfl⟩ := hE
    refine ⟨rfl, ?_⟩
    dsimp only [vfill, List.set_cons_zero, List.set_cons_succ, Option.toList, List.cons_append, List.nil_append, Nat.add_zero]
    refine V_zret hR dX2_isForbidden_19 (forn_01 own h tg) hkc hks ?_
    refine ⟨?_, rfl⟩
    unfold forb
    first | (rw [if_neg h_10]; done) | (rw [if_pos h_10, if_pos h_22]; done) | (rw [if_pos h_10, if_neg h_22, if_pos (by have := forn_01 own h sr; omega)]; done) | (rw [if_pos h_10, if_neg h_22, if_neg (by have := forn_01 own h sr; omega)]; have := forn_01 own h tg; rw [show forn own h tg = 0 by omega]; done) | (rw [if_pos h_10, if_neg h_22, if_neg (by have := forn_01 own h sr; omega)]; have := forn_01 own h tg; rw [show forn own h tg = 1 by omega]; done)

