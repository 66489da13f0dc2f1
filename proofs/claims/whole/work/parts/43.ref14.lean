section REF14
theorem rTw_k {hi : Nat} {z tx : Nat → Nat} (h1 : z 1 ≤ 140) (h2 : z 2 ≤ 140) : (rTw hi z tx).2 1 = z 1 ∧ (rTw hi z tx).2 2 ≤ 140 := by
  unfold rTw
  have a1 := rDg_1 (hi / 10) z tx
  have a2 := rDg_2 (hi := hi / 10) (z := z) (tx := tx) h1 h2
  repeat' split
  all_goals first
    | exact ⟨a1, a2⟩
    | exact ⟨(rDg_1 _ _ _).trans a1, rDg_2 (by rw [a1]; exact h1) a2⟩
theorem rDg_o {hi k : Nat} {z tx : Nat → Nat} (hk : k ≠ 2) : (rDg hi z tx).2 k = z k := by
  unfold rDg
  split
  · show va_up z 2 (z 2 + 1) k = z k
    exact up_n hk
  · rfl
theorem rDg_ge (hi : Nat) (z tx : Nat → Nat) : z 2 ≤ (rDg hi z tx).2 2 := by
  unfold rDg
  split
  · show z 2 ≤ va_up z 2 (z 2 + 1) 2
    rw [up_s]
    omega
  · exact Nat.le_refl _
theorem rTw_o {hi k : Nat} {z tx : Nat → Nat} (hk : k ≠ 2) : (rTw hi z tx).2 k = z k := by
  unfold rTw
  repeat' split
  all_goals first
    | exact rDg_o hk
    | exact (rDg_o hk).trans (rDg_o hk)
theorem rTw_lt {hi : Nat} {z tx : Nat → Nat} (hh : hi < 100) : (rTw hi z tx).1 = 4294967287 ∨ (rTw hi z tx).1 ≤ hi := by
  unfold rTw
  have a := rDg_lt (hi := hi / 10) (z := z) (tx := tx) (by omega)
  by_cases c1 : (rDg (hi / 10) z tx).1 = 4294967287
  · rw [if_pos c1]; left; rfl
  · rw [if_neg c1]
    by_cases c3 : (rDg (hi / 10) z tx).1 = hi / 10
    · rw [if_pos c3]
      have b := rDg_lt (hi := hi % 10) (z := (rDg (hi / 10) z tx).2) (tx := tx) (by omega)
      by_cases c2 : (rDg (hi % 10) (rDg (hi / 10) z tx).2 tx).1 = 4294967287
      · rw [if_pos c2]; left; rfl
      · rw [if_neg c2]; right; dsimp only; omega
    · rw [if_neg c3]
      have b := rDg_lt (hi := 9) (z := (rDg (hi / 10) z tx).2) (tx := tx) (by omega)
      by_cases c2 : (rDg 9 (rDg (hi / 10) z tx).2 tx).1 = 4294967287
      · rw [if_pos c2]; left; rfl
      · rw [if_neg c2]; right; dsimp only; omega
def rPt (z r tx : Nat → Nat) : Nat × (Nat → Nat) × (Nat → Nat) :=
  if 48 ≤ tx (z 2) ∧ tx (z 2) ≤ 57 then
    (if z 6 < 96 then
      (if (rTw 99 z tx).1 = 4294967287 then (0, (rTw 99 z tx).2, r)
       else (1, va_up (rTw 99 z tx).2 6 ((rTw 99 z tx).2 6 + 1), va_up (va_up r ((rTw 99 z tx).2 6) (rTw 99 z tx).1) (96 + (rTw 99 z tx).2 6) ((rTw 99 z tx).2 7)))
     else (0, z, r))
  else if tx (z 2) = 64 then
    (if (rTw 95 (va_up z 2 (z 2 + 1)) tx).1 = 4294967287 then (0, (rTw 95 (va_up z 2 (z 2 + 1)) tx).2, r) else (1, va_up (rTw 95 (va_up z 2 (z 2 + 1)) tx).2 6 (rTw 95 (va_up z 2 (z 2 + 1)) tx).1, r))
  else if tx (z 2) = 111 then
    (if (rDg 3 (va_up z 2 (z 2 + 1)) tx).1 = 4294967287 then (0, (rDg 3 (va_up z 2 (z 2 + 1)) tx).2, r) else (1, va_up (rDg 3 (va_up z 2 (z 2 + 1)) tx).2 7 (rDg 3 (va_up z 2 (z 2 + 1)) tx).1, r))
  else if tx (z 2) = 115 then
    (if (rDg 2 (va_up z 2 (z 2 + 1)) tx).1 = 4294967287 then (0, (rDg 2 (va_up z 2 (z 2 + 1)) tx).2, r)
     else if r (384 + 13 * (rDg 2 (va_up z 2 (z 2 + 1)) tx).1) = 1 then (0, va_up (rDg 2 (va_up z 2 (z 2 + 1)) tx).2 2 ((rDg 2 (va_up z 2 (z 2 + 1)) tx).2 2 - 1), r)
     else if (rTw 95 (rDg 2 (va_up z 2 (z 2 + 1)) tx).2 tx).1 = 4294967287 then (0, (rTw 95 (rDg 2 (va_up z 2 (z 2 + 1)) tx).2 tx).2, r)
     else (1, (rTw 95 (rDg 2 (va_up z 2 (z 2 + 1)) tx).2 tx).2, rBegin (rDg 2 (va_up z 2 (z 2 + 1)) tx).1 (rTw 95 (rDg 2 (va_up z 2 (z 2 + 1)) tx).2 tx).1 1 r))
  else (0, z, r)

abbrev rX7_readPart : Room := { frames := 3, cells := 0, slots := 0, locals := 70 }
theorem vy_X7_readPart : vY yX7_readPart wsX7_readPart cX7_readPart 4 (some .boolean) 0 := ⟨⟨_, rfl⟩, by decide +kernel, by decide +kernel, by decide +kernel⟩
theorem fl_X7_readPart_7 : Cond.fieldLink RX7 7 "OrderChainsModel" "text" "[I" ∈ wsX7_readPart := List.mem_of_getElem? (i := 1) rfl
theorem il_X7_readPart_X7 : ∀ w ∈ wsX70, w ∈ wsX7_readPart := fun _ h => List.mem_cons_of_mem _ (List.mem_append_right _ h)
theorem fl_X7_readPart_106 : Cond.fieldLink RX7 106 "OrderChainsModel" "spot" "I" ∈ wsX7_readPart := List.mem_of_getElem? (i := 2) rfl
theorem kc_X7_readPart_112 : Cond.constantLong RX7 112 (48) ∈ wsX7_readPart := List.mem_of_getElem? (i := 3) rfl
theorem kc_X7_readPart_114 : Cond.constantLong RX7 114 (57) ∈ wsX7_readPart := List.mem_of_getElem? (i := 4) rfl
theorem fl_X7_readPart_13 : Cond.fieldLink RX7 13 "OrderChainsModel" "read" "[I" ∈ wsX7_readPart := List.mem_of_getElem? (i := 6) rfl
theorem fl_X7_readPart_122 : Cond.fieldLink RX7 122 "OrderChainsModel" "owner" "I" ∈ wsX7_readPart := List.mem_of_getElem? (i := 7) rfl
theorem fl_X7_readPart_116 : Cond.fieldLink RX7 116 "OrderChainsModel" "nextCell" "I" ∈ wsX7_readPart := List.mem_of_getElem? (i := 5) rfl
set_option maxHeartbeats 4000000 in
set_option maxRecDepth 100000 in
/-- readPart -/
theorem c_X7_readPart (l : Launch) (G : vG) (B z r tx : Nat → Nat) (h1 : z 1 ≤ 140) (h2 : z 2 < z 1) (ht : ∀ k, k < 140 → tx k < 256) (h6 : z 6 ≤ 96) (hs : ∀ h, h < 3 → r (384 + 13 * h) < 4) : Kc l G yX7_readPart wsX7_readPart rX7_readPart [.ref (B 0)] [mO B z, iA G (B 1) 140 tx, iA G (B 2) 427 r] (fun v Y => v = some (.int (nI (rPt z r tx).1)) ∧ Y = [mO B (rPt z r tx).2.1, iA G (B 1) 140 tx, iA G (B 2) 427 (rPt z r tx).2.2]) 0 0 := by
  refine V_enter (own := RX7) [some (.ref (B 0)), none, none, none] (by decide +kernel) rfl rfl (Nat.le_of_ble_eq_true rfl) rfl (fun Γ hR hin => ?_)
  have hkc : 0 ≤ 0 := Nat.le_refl 0
  have hks : 0 ≤ 0 := Nat.le_refl 0
  refine V_aload_n (i := 0) dX7_readPart_0 rfl rfl ?_
  refine V_get (C := RX7) (T := TX7) (N := 17) (ci := 6) (q := 0) (ref := "OrderChainsModel") 1 rfl il_X7_readPart_X7 rfl rfl fl_X7_readPart_7 rfl rfl dX7_readPart_1 ?_
  refine V_aload_n (i := 0) dX7_readPart_4 rfl rfl ?_
  refine V_get (C := RX7) (T := TX7) (N := 17) (ci := 6) (q := 0) (ref := "OrderChainsModel") 3 rfl il_X7_readPart_X7 rfl rfl fl_X7_readPart_106 rfl rfl dX7_readPart_5 ?_
  refine V_iald (q := 1) rfl (by omega) rfl dX7_readPart_8 ?_
  refine V_istore_n (i := 1) dX7_readPart_9 rfl rfl rfl ?_
  dsimp only [List.set_cons_zero, List.set_cons_succ]
  have t9 := ht (z 2) (by omega)
  refine V_iload_n (i := 1) dX7_readPart_10 rfl rfl ?_
  refine V_i2l dX7_readPart_11 ?_
  refine V_ldc2 (v := 48) dX7_readPart_12 kc_X7_readPart_112 ?_
  refine V_ldc2 (v := 57) dX7_readPart_15 kc_X7_readPart_114 ?_
  refine V_callS (As := _) (rest := []) [] (c_X7_inN l G ((tx (z 2))) 48 57 _ _ (by decide) (by decide) (by omega) (by decide)) vy_X7_in gX7_readPart_X7_in rfl rfl rfl rfl ⟨rfl, rfl⟩ ⟨rfl, rfl⟩ ⟨Nat.zero_le _, Nat.zero_le _⟩ rfl dX7_readPart_18 (fun v Y hE => ?_)
  obtain ⟨rfl, rfl⟩ := hE
  refine ⟨rfl, ?_⟩
  dsimp only [vfill, List.set_cons_zero, List.set_cons_succ, Option.toList, List.cons_append, List.nil_append, Nat.add_zero]
  refine V_if_eq (tgt := 99) (by split <;> decide) dX7_readPart_21 rfl (fun h_21 => ?_) (fun h_21 => ?_)
  · refine V_iload_n (i := 1) dX7_readPart_99 rfl rfl ?_
    refine V_bipush (v := 64) dX7_readPart_100 (by decide) ?_
    refine V_icmp_eq (tgt := 119) (by omega) (by omega) dX7_readPart_102 rfl (fun h_102 => ?_) (fun h_102 => ?_)
    · refine V_aload_n (i := 0) dX7_readPart_119 rfl rfl ?_
      refine V_dup dX7_readPart_120 rfl ?_
      refine V_get (C := RX7) (T := TX7) (N := 17) (ci := 6) (q := 0) (ref := "OrderChainsModel") 3 rfl il_X7_readPart_X7 rfl rfl fl_X7_readPart_106 rfl rfl dX7_readPart_121 ?_
      refine V_iconst (v := 1) dX7_readPart_124 rfl ?_
      refine V_iadd dX7_readPart_125 ?_
      refine V_put (C := RX7) (T := TX7) (N := 17) (ci := 6) (q := 0) (ref := "OrderChainsModel") (ty := .int) (ty0 := tyX7) 3 rfl il_X7_readPart_X7 tyX7_ok nmX7 rfl rfl fl_X7_readPart_106 rfl rfl rfl rfl rfl rfl dX7_readPart_126 ?_
      dsimp only [List.set_cons_zero, List.set_cons_succ]
      refine V_iload_n (i := 1) dX7_readPart_129 rfl rfl ?_
      refine V_bipush (v := 64) dX7_readPart_130 (by decide) ?_
      refine V_icmp_ne (tgt := 172) (by omega) (by omega) dX7_readPart_132 rfl (fun h_132 => ?_) (fun h_132 => ?_)
      · refine V_iload_n (i := 1) dX7_readPart_172 rfl rfl ?_
        refine V_bipush (v := 111) dX7_readPart_173 (by decide) ?_
        refine V_icmp_ne (tgt := 214) (by omega) (by omega) dX7_readPart_175 rfl (fun h_175 => ?_) (fun h_175 => ?_)
        · refine V_aload_n (i := 0) dX7_readPart_214 rfl rfl ?_
          refine V_iconst (v := 2) dX7_readPart_215 rfl ?_
          refine V_callV (C := RX7) (q := 0) (ci := 6) (As := _) (rest := []) [0, 1] (c_X7_digit l G B (va_up z 2 (z 2 + 1)) tx 2 (by decide) (show z 1 ≤ 140 from h1) (show z 2 + 1 ≤ 140 by omega) ht) vy_X7_digit gX7_readPart_X7_digit rfl rfl rfl rfl rfl rfl rfl ⟨rfl, rfl⟩ ⟨rfl, rfl⟩ ⟨Nat.zero_le _, Nat.zero_le _⟩ rfl dX7_readPart_216 (fun v Y hE => ?_)
          obtain ⟨rfl, rfl⟩ := hE
          refine ⟨rfl, ?_⟩
          dsimp only [vfill, List.set_cons_zero, List.set_cons_succ, Option.toList, List.cons_append, List.nil_append, Nat.add_zero]
          have w9 := rDg_lt (hi := 2) (z := (va_up z 2 (z 2 + 1))) (tx := tx) (by decide)
          refine V_istore_n (i := 2) dX7_readPart_219 rfl rfl rfl ?_
          dsimp only [List.set_cons_zero, List.set_cons_succ]
          refine V_iload_n (i := 2) dX7_readPart_220 rfl rfl ?_
          refine V_bipush (v := 4294967287) dX7_readPart_221 (by decide) ?_
          refine V_icmp_eq (tgt := 251) (by omega) (by omega) dX7_readPart_223 rfl (fun h_223 => ?_) (fun h_223 => ?_)
          · refine V_iload_n (i := 2) dX7_readPart_251 rfl rfl ?_
            refine V_bipush (v := 4294967287) dX7_readPart_252 (by decide) ?_
            refine V_icmp_ne (tgt := 262) (by omega) (by omega) dX7_readPart_254 rfl (fun h_254 => ?_) (fun h_254 => ?_)
            · refine V_aload_n (i := 0) dX7_readPart_262 rfl rfl ?_
              refine V_bipush (v := 95) dX7_readPart_263 (by decide) ?_
              refine V_callV (C := RX7) (q := 0) (ci := 6) (As := _) (rest := []) [0, 1] (c_X7_two l G B (rDg 2 (va_up z 2 (z 2 + 1)) tx).2 tx 95 (by decide) (by rw [rDg_1]; exact h1) (rDg_2 (z := (va_up z 2 (z 2 + 1))) (show z 1 ≤ 140 from h1) (show z 2 + 1 ≤ 140 by omega)) ht) vy_X7_two gX7_readPart_X7_two rfl rfl rfl rfl rfl rfl rfl ⟨rfl, rfl⟩ ⟨rfl, rfl⟩ ⟨Nat.zero_le _, Nat.zero_le _⟩ rfl dX7_readPart_265 (fun v Y hE => ?_)
              obtain ⟨rfl, rfl⟩ := hE
              refine ⟨rfl, ?_⟩
              dsimp only [vfill, List.set_cons_zero, List.set_cons_succ, Option.toList, List.cons_append, List.nil_append, Nat.add_zero]
              have w8 := rTw_lt (hi := 95) (z := (rDg 2 (va_up z 2 (z 2 + 1)) tx).2) (tx := tx) (by decide)
              refine V_istore_n (i := 3) dX7_readPart_268 rfl rfl rfl ?_
              dsimp only [List.set_cons_zero, List.set_cons_succ]
              refine V_iload_n (i := 3) dX7_readPart_269 rfl rfl ?_
              refine V_bipush (v := 4294967287) dX7_readPart_270 (by decide) ?_
              refine V_icmp_eq (tgt := 285) (by omega) (by omega) dX7_readPart_272 rfl (fun h_272 => ?_) (fun h_272 => ?_)
              · refine V_iload_n (i := 3) dX7_readPart_285 rfl rfl ?_
                refine V_bipush (v := 4294967287) dX7_readPart_286 (by decide) ?_
                refine V_icmp_eq (tgt := 295) (by omega) (by omega) dX7_readPart_288 rfl (fun h_288 => ?_) (fun h_288 => ?_)
                · refine V_iconst (v := 0) dX7_readPart_295 rfl ?_
                  refine V_zret hR dX7_readPart_296 (by first | exact Or.inl rfl | exact Or.inr rfl | omega) hkc hks ?_
                  unfold rPt
                  first | (exfalso; omega) | (rw [if_neg (b00 h_21), if_neg (show ¬ tx (z 2) = 64 by omega), if_neg (show ¬ tx (z 2) = 111 by omega), if_pos (show tx (z 2) = 115 by omega), if_pos h_223]; exact ⟨rfl, rfl⟩) | (rw [if_neg (b00 h_21), if_neg (show ¬ tx (z 2) = 64 by omega), if_neg (show ¬ tx (z 2) = 111 by omega), if_pos (show tx (z 2) = 115 by omega), if_neg h_223, if_neg h_236, if_pos h_272]; exact ⟨rfl, rfl⟩) | (rw [if_neg (b00 h_21), if_neg (show ¬ tx (z 2) = 64 by omega), if_neg (show ¬ tx (z 2) = 111 by omega), if_pos (show tx (z 2) = 115 by omega), if_neg h_223, if_neg h_236, if_neg h_272]; exact ⟨rfl, rfl⟩)
                · refine V_iconst (v := 1) dX7_readPart_291 rfl ?_
                  refine V_goto (tgt := 296) dX7_readPart_292 rfl ?_
                  refine V_zret hR dX7_readPart_296 (by first | exact Or.inl rfl | exact Or.inr rfl | omega) hkc hks ?_
                  unfold rPt
                  first | (exfalso; omega) | (rw [if_neg (b00 h_21), if_neg (show ¬ tx (z 2) = 64 by omega), if_neg (show ¬ tx (z 2) = 111 by omega), if_pos (show tx (z 2) = 115 by omega), if_pos h_223]; exact ⟨rfl, rfl⟩) | (rw [if_neg (b00 h_21), if_neg (show ¬ tx (z 2) = 64 by omega), if_neg (show ¬ tx (z 2) = 111 by omega), if_pos (show tx (z 2) = 115 by omega), if_neg h_223, if_neg h_236, if_pos h_272]; exact ⟨rfl, rfl⟩) | (rw [if_neg (b00 h_21), if_neg (show ¬ tx (z 2) = 64 by omega), if_neg (show ¬ tx (z 2) = 111 by omega), if_pos (show tx (z 2) = 115 by omega), if_neg h_223, if_neg h_236, if_neg h_272]; exact ⟨rfl, rfl⟩)
              · refine V_aload_n (i := 0) dX7_readPart_275 rfl rfl ?_
                refine V_get (C := RX7) (T := TX7) (N := 17) (ci := 6) (q := 0) (ref := "OrderChainsModel") 4 rfl il_X7_readPart_X7 rfl rfl fl_X7_readPart_13 rfl rfl dX7_readPart_276 ?_
                refine V_iload_n (i := 2) dX7_readPart_279 rfl rfl ?_
                refine V_iload_n (i := 3) dX7_readPart_280 rfl rfl ?_
                refine V_iconst (v := 1) dX7_readPart_281 rfl ?_
                refine V_callS (As := _) (rest := []) [2] (c_X7_begin l G (B 2) r (rDg 2 (va_up z 2 (z 2 + 1)) tx).1 (rTw 95 (rDg 2 (va_up z 2 (z 2 + 1)) tx).2 tx).1 1 (by omega)) vy_X7_begin gX7_readPart_X7_begin rfl rfl rfl rfl ⟨rfl, rfl⟩ ⟨rfl, rfl⟩ ⟨Nat.zero_le _, Nat.zero_le _⟩ rfl dX7_readPart_282 (fun v Y hE => ?_)
                obtain ⟨rfl, rfl⟩ := hE
                refine ⟨rfl, ?_⟩
                dsimp only [vfill, List.set_cons_zero, List.set_cons_succ, Option.toList, List.cons_append, List.nil_append, Nat.add_zero]
                refine V_iload_n (i := 3) dX7_readPart_285 rfl rfl ?_
                refine V_bipush (v := 4294967287) dX7_readPart_286 (by decide) ?_
                refine V_icmp_eq (tgt := 295) (by omega) (by omega) dX7_readPart_288 rfl (fun h_288 => ?_) (fun h_288 => ?_)
                · refine V_iconst (v := 0) dX7_readPart_295 rfl ?_
                  refine V_zret hR dX7_readPart_296 (by first | exact Or.inl rfl | exact Or.inr rfl | omega) hkc hks ?_
                  unfold rPt
                  first | (exfalso; omega) | (rw [if_neg (b00 h_21), if_neg (show ¬ tx (z 2) = 64 by omega), if_neg (show ¬ tx (z 2) = 111 by omega), if_pos (show tx (z 2) = 115 by omega), if_pos h_223]; exact ⟨rfl, rfl⟩) | (rw [if_neg (b00 h_21), if_neg (show ¬ tx (z 2) = 64 by omega), if_neg (show ¬ tx (z 2) = 111 by omega), if_pos (show tx (z 2) = 115 by omega), if_neg h_223, if_neg h_236, if_pos h_272]; exact ⟨rfl, rfl⟩) | (rw [if_neg (b00 h_21), if_neg (show ¬ tx (z 2) = 64 by omega), if_neg (show ¬ tx (z 2) = 111 by omega), if_pos (show tx (z 2) = 115 by omega), if_neg h_223, if_neg h_236, if_neg h_272]; exact ⟨rfl, rfl⟩)
                · refine V_iconst (v := 1) dX7_readPart_291 rfl ?_
                  refine V_goto (tgt := 296) dX7_readPart_292 rfl ?_
                  refine V_zret hR dX7_readPart_296 (by first | exact Or.inl rfl | exact Or.inr rfl | omega) hkc hks ?_
                  unfold rPt
                  first | (exfalso; omega) | (rw [if_neg (b00 h_21), if_neg (show ¬ tx (z 2) = 64 by omega), if_neg (show ¬ tx (z 2) = 111 by omega), if_pos (show tx (z 2) = 115 by omega), if_pos h_223]; exact ⟨rfl, rfl⟩) | (rw [if_neg (b00 h_21), if_neg (show ¬ tx (z 2) = 64 by omega), if_neg (show ¬ tx (z 2) = 111 by omega), if_pos (show tx (z 2) = 115 by omega), if_neg h_223, if_neg h_236, if_pos h_272]; exact ⟨rfl, rfl⟩) | (rw [if_neg (b00 h_21), if_neg (show ¬ tx (z 2) = 64 by omega), if_neg (show ¬ tx (z 2) = 111 by omega), if_pos (show tx (z 2) = 115 by omega), if_neg h_223, if_neg h_236, if_neg h_272]; exact ⟨rfl, rfl⟩)
            · refine V_bipush (v := 4294967287) dX7_readPart_257 (by decide) ?_
              refine V_goto (tgt := 268) dX7_readPart_259 rfl ?_
              have w8 := rTw_lt (hi := 95) (z := (rDg 2 (va_up z 2 (z 2 + 1)) tx).2) (tx := tx) (by decide)
              refine V_istore_n (i := 3) dX7_readPart_268 rfl rfl rfl ?_
              dsimp only [List.set_cons_zero, List.set_cons_succ]
              refine V_iload_n (i := 3) dX7_readPart_269 rfl rfl ?_
              refine V_bipush (v := 4294967287) dX7_readPart_270 (by decide) ?_
              refine V_icmp_eq (tgt := 285) (by omega) (by omega) dX7_readPart_272 rfl (fun h_272 => ?_) (fun h_272 => ?_)
              · refine V_iload_n (i := 3) dX7_readPart_285 rfl rfl ?_
                refine V_bipush (v := 4294967287) dX7_readPart_286 (by decide) ?_
                refine V_icmp_eq (tgt := 295) (by omega) (by omega) dX7_readPart_288 rfl (fun h_288 => ?_) (fun h_288 => ?_)
                · refine V_iconst (v := 0) dX7_readPart_295 rfl ?_
                  refine V_zret hR dX7_readPart_296 (by first | exact Or.inl rfl | exact Or.inr rfl | omega) hkc hks ?_
                  unfold rPt
                  first | (exfalso; omega) | (rw [if_neg (b00 h_21), if_neg (show ¬ tx (z 2) = 64 by omega), if_neg (show ¬ tx (z 2) = 111 by omega), if_pos (show tx (z 2) = 115 by omega), if_pos h_223]; exact ⟨rfl, rfl⟩) | (rw [if_neg (b00 h_21), if_neg (show ¬ tx (z 2) = 64 by omega), if_neg (show ¬ tx (z 2) = 111 by omega), if_pos (show tx (z 2) = 115 by omega), if_neg h_223, if_neg h_236, if_pos h_272]; exact ⟨rfl, rfl⟩) | (rw [if_neg (b00 h_21), if_neg (show ¬ tx (z 2) = 64 by omega), if_neg (show ¬ tx (z 2) = 111 by omega), if_pos (show tx (z 2) = 115 by omega), if_neg h_223, if_neg h_236, if_neg h_272]; exact ⟨rfl, rfl⟩)
                · exfalso; omega
              · exfalso; omega
          · refine V_aload_n (i := 0) dX7_readPart_226 rfl rfl ?_
            refine V_get (C := RX7) (T := TX7) (N := 17) (ci := 6) (q := 0) (ref := "OrderChainsModel") 4 rfl il_X7_readPart_X7 rfl rfl fl_X7_readPart_13 rfl rfl dX7_readPart_227 ?_
            refine V_iload_n (i := 2) dX7_readPart_230 rfl rfl ?_
            refine V_callS (As := _) (rest := _) [] (c_X7_at l G ((rDg 2 (va_up z 2 (z 2 + 1)) tx).1)) vy_X7_at gX7_readPart_X7_at rfl rfl rfl rfl ⟨rfl, rfl⟩ ⟨rfl, rfl⟩ ⟨Nat.zero_le _, Nat.zero_le _⟩ rfl dX7_readPart_231 (fun v Y hE => ?_)
            obtain ⟨rfl, rfl⟩ := hE
            refine ⟨rfl, ?_⟩
            dsimp only [vfill, List.set_cons_zero, List.set_cons_succ, Option.toList, List.cons_append, List.nil_append, Nat.add_zero]
            refine V_iald (q := 2) rfl (by omega) rfl dX7_readPart_234 ?_
            refine V_iconst (v := 1) dX7_readPart_235 rfl ?_
            refine V_icmp_ne (tgt := 251) (by have := hs (rDg 2 (va_up z 2 (z 2 + 1)) tx).1 (by omega); omega) (by omega) dX7_readPart_236 rfl (fun h_236 => ?_) (fun h_236 => ?_)
            · refine V_iload_n (i := 2) dX7_readPart_251 rfl rfl ?_
              refine V_bipush (v := 4294967287) dX7_readPart_252 (by decide) ?_
              refine V_icmp_ne (tgt := 262) (by omega) (by omega) dX7_readPart_254 rfl (fun h_254 => ?_) (fun h_254 => ?_)
              · refine V_aload_n (i := 0) dX7_readPart_262 rfl rfl ?_
                refine V_bipush (v := 95) dX7_readPart_263 (by decide) ?_
                refine V_callV (C := RX7) (q := 0) (ci := 6) (As := _) (rest := []) [0, 1] (c_X7_two l G B (rDg 2 (va_up z 2 (z 2 + 1)) tx).2 tx 95 (by decide) (by rw [rDg_1]; exact h1) (rDg_2 (z := (va_up z 2 (z 2 + 1))) (show z 1 ≤ 140 from h1) (show z 2 + 1 ≤ 140 by omega)) ht) vy_X7_two gX7_readPart_X7_two rfl rfl rfl rfl rfl rfl rfl ⟨rfl, rfl⟩ ⟨rfl, rfl⟩ ⟨Nat.zero_le _, Nat.zero_le _⟩ rfl dX7_readPart_265 (fun v Y hE => ?_)
                obtain ⟨rfl, rfl⟩ := hE
                refine ⟨rfl, ?_⟩
                dsimp only [vfill, List.set_cons_zero, List.set_cons_succ, Option.toList, List.cons_append, List.nil_append, Nat.add_zero]
                have w8 := rTw_lt (hi := 95) (z := (rDg 2 (va_up z 2 (z 2 + 1)) tx).2) (tx := tx) (by decide)
                refine V_istore_n (i := 3) dX7_readPart_268 rfl rfl rfl ?_
                dsimp only [List.set_cons_zero, List.set_cons_succ]
                refine V_iload_n (i := 3) dX7_readPart_269 rfl rfl ?_
                refine V_bipush (v := 4294967287) dX7_readPart_270 (by decide) ?_
                refine V_icmp_eq (tgt := 285) (by omega) (by omega) dX7_readPart_272 rfl (fun h_272 => ?_) (fun h_272 => ?_)
                · refine V_iload_n (i := 3) dX7_readPart_285 rfl rfl ?_
                  refine V_bipush (v := 4294967287) dX7_readPart_286 (by decide) ?_
                  refine V_icmp_eq (tgt := 295) (by omega) (by omega) dX7_readPart_288 rfl (fun h_288 => ?_) (fun h_288 => ?_)
                  · refine V_iconst (v := 0) dX7_readPart_295 rfl ?_
                    refine V_zret hR dX7_readPart_296 (by first | exact Or.inl rfl | exact Or.inr rfl | omega) hkc hks ?_
                    unfold rPt
                    first | (exfalso; omega) | (rw [if_neg (b00 h_21), if_neg (show ¬ tx (z 2) = 64 by omega), if_neg (show ¬ tx (z 2) = 111 by omega), if_pos (show tx (z 2) = 115 by omega), if_pos h_223]; exact ⟨rfl, rfl⟩) | (rw [if_neg (b00 h_21), if_neg (show ¬ tx (z 2) = 64 by omega), if_neg (show ¬ tx (z 2) = 111 by omega), if_pos (show tx (z 2) = 115 by omega), if_neg h_223, if_neg h_236, if_pos h_272]; exact ⟨rfl, rfl⟩) | (rw [if_neg (b00 h_21), if_neg (show ¬ tx (z 2) = 64 by omega), if_neg (show ¬ tx (z 2) = 111 by omega), if_pos (show tx (z 2) = 115 by omega), if_neg h_223, if_neg h_236, if_neg h_272]; exact ⟨rfl, rfl⟩)
                  · refine V_iconst (v := 1) dX7_readPart_291 rfl ?_
                    refine V_goto (tgt := 296) dX7_readPart_292 rfl ?_
                    refine V_zret hR dX7_readPart_296 (by first | exact Or.inl rfl | exact Or.inr rfl | omega) hkc hks ?_
                    unfold rPt
                    first | (exfalso; omega) | (rw [if_neg (b00 h_21), if_neg (show ¬ tx (z 2) = 64 by omega), if_neg (show ¬ tx (z 2) = 111 by omega), if_pos (show tx (z 2) = 115 by omega), if_pos h_223]; exact ⟨rfl, rfl⟩) | (rw [if_neg (b00 h_21), if_neg (show ¬ tx (z 2) = 64 by omega), if_neg (show ¬ tx (z 2) = 111 by omega), if_pos (show tx (z 2) = 115 by omega), if_neg h_223, if_neg h_236, if_pos h_272]; exact ⟨rfl, rfl⟩) | (rw [if_neg (b00 h_21), if_neg (show ¬ tx (z 2) = 64 by omega), if_neg (show ¬ tx (z 2) = 111 by omega), if_pos (show tx (z 2) = 115 by omega), if_neg h_223, if_neg h_236, if_neg h_272]; exact ⟨rfl, rfl⟩)
                · refine V_aload_n (i := 0) dX7_readPart_275 rfl rfl ?_
                  refine V_get (C := RX7) (T := TX7) (N := 17) (ci := 6) (q := 0) (ref := "OrderChainsModel") 4 rfl il_X7_readPart_X7 rfl rfl fl_X7_readPart_13 rfl rfl dX7_readPart_276 ?_
                  refine V_iload_n (i := 2) dX7_readPart_279 rfl rfl ?_
                  refine V_iload_n (i := 3) dX7_readPart_280 rfl rfl ?_
                  refine V_iconst (v := 1) dX7_readPart_281 rfl ?_
                  refine V_callS (As := _) (rest := []) [2] (c_X7_begin l G (B 2) r (rDg 2 (va_up z 2 (z 2 + 1)) tx).1 (rTw 95 (rDg 2 (va_up z 2 (z 2 + 1)) tx).2 tx).1 1 (by omega)) vy_X7_begin gX7_readPart_X7_begin rfl rfl rfl rfl ⟨rfl, rfl⟩ ⟨rfl, rfl⟩ ⟨Nat.zero_le _, Nat.zero_le _⟩ rfl dX7_readPart_282 (fun v Y hE => ?_)
                  obtain ⟨rfl, rfl⟩ := hE
                  refine ⟨rfl, ?_⟩
                  dsimp only [vfill, List.set_cons_zero, List.set_cons_succ, Option.toList, List.cons_append, List.nil_append, Nat.add_zero]
                  refine V_iload_n (i := 3) dX7_readPart_285 rfl rfl ?_
                  refine V_bipush (v := 4294967287) dX7_readPart_286 (by decide) ?_
                  refine V_icmp_eq (tgt := 295) (by omega) (by omega) dX7_readPart_288 rfl (fun h_288 => ?_) (fun h_288 => ?_)
                  · refine V_iconst (v := 0) dX7_readPart_295 rfl ?_
                    refine V_zret hR dX7_readPart_296 (by first | exact Or.inl rfl | exact Or.inr rfl | omega) hkc hks ?_
                    unfold rPt
                    first | (exfalso; omega) | (rw [if_neg (b00 h_21), if_neg (show ¬ tx (z 2) = 64 by omega), if_neg (show ¬ tx (z 2) = 111 by omega), if_pos (show tx (z 2) = 115 by omega), if_pos h_223]; exact ⟨rfl, rfl⟩) | (rw [if_neg (b00 h_21), if_neg (show ¬ tx (z 2) = 64 by omega), if_neg (show ¬ tx (z 2) = 111 by omega), if_pos (show tx (z 2) = 115 by omega), if_neg h_223, if_neg h_236, if_pos h_272]; exact ⟨rfl, rfl⟩) | (rw [if_neg (b00 h_21), if_neg (show ¬ tx (z 2) = 64 by omega), if_neg (show ¬ tx (z 2) = 111 by omega), if_pos (show tx (z 2) = 115 by omega), if_neg h_223, if_neg h_236, if_neg h_272]; exact ⟨rfl, rfl⟩)
                  · refine V_iconst (v := 1) dX7_readPart_291 rfl ?_
                    refine V_goto (tgt := 296) dX7_readPart_292 rfl ?_
                    refine V_zret hR dX7_readPart_296 (by first | exact Or.inl rfl | exact Or.inr rfl | omega) hkc hks ?_
                    unfold rPt
                    first | (exfalso; omega) | (rw [if_neg (b00 h_21), if_neg (show ¬ tx (z 2) = 64 by omega), if_neg (show ¬ tx (z 2) = 111 by omega), if_pos (show tx (z 2) = 115 by omega), if_pos h_223]; exact ⟨rfl, rfl⟩) | (rw [if_neg (b00 h_21), if_neg (show ¬ tx (z 2) = 64 by omega), if_neg (show ¬ tx (z 2) = 111 by omega), if_pos (show tx (z 2) = 115 by omega), if_neg h_223, if_neg h_236, if_pos h_272]; exact ⟨rfl, rfl⟩) | (rw [if_neg (b00 h_21), if_neg (show ¬ tx (z 2) = 64 by omega), if_neg (show ¬ tx (z 2) = 111 by omega), if_pos (show tx (z 2) = 115 by omega), if_neg h_223, if_neg h_236, if_neg h_272]; exact ⟨rfl, rfl⟩)
              · refine V_bipush (v := 4294967287) dX7_readPart_257 (by decide) ?_
                refine V_goto (tgt := 268) dX7_readPart_259 rfl ?_
                have w8 := rTw_lt (hi := 95) (z := (rDg 2 (va_up z 2 (z 2 + 1)) tx).2) (tx := tx) (by decide)
                refine V_istore_n (i := 3) dX7_readPart_268 rfl rfl rfl ?_
                dsimp only [List.set_cons_zero, List.set_cons_succ]
                refine V_iload_n (i := 3) dX7_readPart_269 rfl rfl ?_
                refine V_bipush (v := 4294967287) dX7_readPart_270 (by decide) ?_
                refine V_icmp_eq (tgt := 285) (by omega) (by omega) dX7_readPart_272 rfl (fun h_272 => ?_) (fun h_272 => ?_)
                · refine V_iload_n (i := 3) dX7_readPart_285 rfl rfl ?_
                  refine V_bipush (v := 4294967287) dX7_readPart_286 (by decide) ?_
                  refine V_icmp_eq (tgt := 295) (by omega) (by omega) dX7_readPart_288 rfl (fun h_288 => ?_) (fun h_288 => ?_)
                  · refine V_iconst (v := 0) dX7_readPart_295 rfl ?_
                    refine V_zret hR dX7_readPart_296 (by first | exact Or.inl rfl | exact Or.inr rfl | omega) hkc hks ?_
                    unfold rPt
                    first | (exfalso; omega) | (rw [if_neg (b00 h_21), if_neg (show ¬ tx (z 2) = 64 by omega), if_neg (show ¬ tx (z 2) = 111 by omega), if_pos (show tx (z 2) = 115 by omega), if_pos h_223]; exact ⟨rfl, rfl⟩) | (rw [if_neg (b00 h_21), if_neg (show ¬ tx (z 2) = 64 by omega), if_neg (show ¬ tx (z 2) = 111 by omega), if_pos (show tx (z 2) = 115 by omega), if_neg h_223, if_neg h_236, if_pos h_272]; exact ⟨rfl, rfl⟩) | (rw [if_neg (b00 h_21), if_neg (show ¬ tx (z 2) = 64 by omega), if_neg (show ¬ tx (z 2) = 111 by omega), if_pos (show tx (z 2) = 115 by omega), if_neg h_223, if_neg h_236, if_neg h_272]; exact ⟨rfl, rfl⟩)
                  · exfalso; omega
                · exfalso; omega
            · refine V_aload_n (i := 0) dX7_readPart_239 rfl rfl ?_
              refine V_dup dX7_readPart_240 rfl ?_
              refine V_get (C := RX7) (T := TX7) (N := 17) (ci := 6) (q := 0) (ref := "OrderChainsModel") 3 rfl il_X7_readPart_X7 rfl rfl fl_X7_readPart_106 rfl rfl dX7_readPart_241 ?_
              refine V_iconst (v := 1) dX7_readPart_244 rfl ?_
              refine V_isub dX7_readPart_245 (Nat.le_trans (show 1 ≤ z 2 + 1 by omega) (rDg_ge 2 (va_up z 2 (z 2 + 1)) tx)) ?_
              refine V_put (C := RX7) (T := TX7) (N := 17) (ci := 6) (q := 0) (ref := "OrderChainsModel") (ty := .int) (ty0 := tyX7) 3 rfl il_X7_readPart_X7 tyX7_ok nmX7 rfl rfl fl_X7_readPart_106 rfl rfl rfl rfl rfl rfl dX7_readPart_246 ?_
              dsimp only [List.set_cons_zero, List.set_cons_succ]
              refine V_iconst (v := 0) dX7_readPart_249 rfl ?_
              refine V_zret hR dX7_readPart_250 (by first | exact Or.inl rfl | exact Or.inr rfl | omega) hkc hks ?_
              unfold rPt
              first | (exfalso; omega) | (rw [if_neg (b00 h_21), if_neg (show ¬ tx (z 2) = 64 by omega), if_neg (show ¬ tx (z 2) = 111 by omega), if_pos (show tx (z 2) = 115 by omega), if_neg h_223, if_pos h_236]; exact ⟨rfl, rfl⟩)
        · refine V_aload_n (i := 0) dX7_readPart_178 rfl rfl ?_
          refine V_iconst (v := 3) dX7_readPart_179 rfl ?_
          refine V_callV (C := RX7) (q := 0) (ci := 6) (As := _) (rest := []) [0, 1] (c_X7_digit l G B (va_up z 2 (z 2 + 1)) tx 3 (by decide) (show z 1 ≤ 140 from h1) (show z 2 + 1 ≤ 140 by omega) ht) vy_X7_digit gX7_readPart_X7_digit rfl rfl rfl rfl rfl rfl rfl ⟨rfl, rfl⟩ ⟨rfl, rfl⟩ ⟨Nat.zero_le _, Nat.zero_le _⟩ rfl dX7_readPart_180 (fun v Y hE => ?_)
          obtain ⟨rfl, rfl⟩ := hE
          refine ⟨rfl, ?_⟩
          dsimp only [vfill, List.set_cons_zero, List.set_cons_succ, Option.toList, List.cons_append, List.nil_append, Nat.add_zero]
          have w9 := rDg_lt (hi := 3) (z := (va_up z 2 (z 2 + 1))) (tx := tx) (by decide)
          refine V_istore_n (i := 2) dX7_readPart_183 rfl rfl rfl ?_
          dsimp only [List.set_cons_zero, List.set_cons_succ]
          refine V_aload_n (i := 0) dX7_readPart_184 rfl rfl ?_
          refine V_iload_n (i := 2) dX7_readPart_185 rfl rfl ?_
          refine V_bipush (v := 4294967287) dX7_readPart_186 (by decide) ?_
          refine V_icmp_ne (tgt := 198) (by omega) (by omega) dX7_readPart_188 rfl (fun h_188 => ?_) (fun h_188 => ?_)
          · refine V_iload_n (i := 2) dX7_readPart_198 rfl rfl ?_
            refine V_put (C := RX7) (T := TX7) (N := 17) (ci := 6) (q := 0) (ref := "OrderChainsModel") (ty := .int) (ty0 := tyX7) 15 rfl il_X7_readPart_X7 tyX7_ok nmX7 rfl rfl fl_X7_readPart_122 rfl rfl rfl rfl rfl rfl dX7_readPart_199 ?_
            dsimp only [List.set_cons_zero, List.set_cons_succ]
            refine V_iload_n (i := 2) dX7_readPart_202 rfl rfl ?_
            refine V_bipush (v := 4294967287) dX7_readPart_203 (by decide) ?_
            refine V_icmp_eq (tgt := 212) (by omega) (by omega) dX7_readPart_205 rfl (fun h_205 => ?_) (fun h_205 => ?_)
            · refine V_iconst (v := 0) dX7_readPart_212 rfl ?_
              refine V_zret hR dX7_readPart_213 (by first | exact Or.inl rfl | exact Or.inr rfl | omega) hkc hks ?_
              unfold rPt
              first | (exfalso; omega) | (rw [if_neg (b00 h_21), if_neg (show ¬ tx (z 2) = 64 by omega), if_pos (show tx (z 2) = 111 by omega), if_pos h_188]; exact ⟨rfl, rfl⟩) | (rw [if_neg (b00 h_21), if_neg (show ¬ tx (z 2) = 64 by omega), if_pos (show tx (z 2) = 111 by omega), if_neg h_188]; exact ⟨rfl, rfl⟩)
            · refine V_iconst (v := 1) dX7_readPart_208 rfl ?_
              refine V_goto (tgt := 213) dX7_readPart_209 rfl ?_
              refine V_zret hR dX7_readPart_213 (by first | exact Or.inl rfl | exact Or.inr rfl | omega) hkc hks ?_
              unfold rPt
              first | (exfalso; omega) | (rw [if_neg (b00 h_21), if_neg (show ¬ tx (z 2) = 64 by omega), if_pos (show tx (z 2) = 111 by omega), if_pos h_188]; exact ⟨rfl, rfl⟩) | (rw [if_neg (b00 h_21), if_neg (show ¬ tx (z 2) = 64 by omega), if_pos (show tx (z 2) = 111 by omega), if_neg h_188]; exact ⟨rfl, rfl⟩)
          · refine V_aload_n (i := 0) dX7_readPart_191 rfl rfl ?_
            refine V_get (C := RX7) (T := TX7) (N := 17) (ci := 6) (q := 0) (ref := "OrderChainsModel") 15 rfl il_X7_readPart_X7 rfl rfl fl_X7_readPart_122 rfl rfl dX7_readPart_192 ?_
            refine V_goto (tgt := 199) dX7_readPart_195 rfl ?_
            refine V_put (C := RX7) (T := TX7) (N := 17) (ci := 6) (q := 0) (ref := "OrderChainsModel") (ty := .int) (ty0 := tyX7) 15 rfl il_X7_readPart_X7 tyX7_ok nmX7 rfl rfl fl_X7_readPart_122 rfl rfl rfl rfl rfl rfl dX7_readPart_199 ?_
            dsimp only [List.set_cons_zero, List.set_cons_succ]
            refine V_iload_n (i := 2) dX7_readPart_202 rfl rfl ?_
            refine V_bipush (v := 4294967287) dX7_readPart_203 (by decide) ?_
            refine V_icmp_eq (tgt := 212) (by omega) (by omega) dX7_readPart_205 rfl (fun h_205 => ?_) (fun h_205 => ?_)
            · refine V_iconst (v := 0) dX7_readPart_212 rfl ?_
              refine V_zret hR dX7_readPart_213 (by first | exact Or.inl rfl | exact Or.inr rfl | omega) hkc hks ?_
              unfold rPt
              first | (exfalso; omega) | (rw [if_neg (b00 h_21), if_neg (show ¬ tx (z 2) = 64 by omega), if_pos (show tx (z 2) = 111 by omega), if_pos h_188]; exact ⟨rfl, rfl⟩) | (rw [if_neg (b00 h_21), if_neg (show ¬ tx (z 2) = 64 by omega), if_pos (show tx (z 2) = 111 by omega), if_neg h_188]; exact ⟨rfl, rfl⟩)
            · refine V_iconst (v := 1) dX7_readPart_208 rfl ?_
              refine V_goto (tgt := 213) dX7_readPart_209 rfl ?_
              refine V_zret hR dX7_readPart_213 (by first | exact Or.inl rfl | exact Or.inr rfl | omega) hkc hks ?_
              unfold rPt
              first | (exfalso; omega) | (rw [if_neg (b00 h_21), if_neg (show ¬ tx (z 2) = 64 by omega), if_pos (show tx (z 2) = 111 by omega), if_pos h_188]; exact ⟨rfl, rfl⟩) | (rw [if_neg (b00 h_21), if_neg (show ¬ tx (z 2) = 64 by omega), if_pos (show tx (z 2) = 111 by omega), if_neg h_188]; exact ⟨rfl, rfl⟩)
      · refine V_aload_n (i := 0) dX7_readPart_135 rfl rfl ?_
        refine V_bipush (v := 95) dX7_readPart_136 (by decide) ?_
        refine V_callV (C := RX7) (q := 0) (ci := 6) (As := _) (rest := []) [0, 1] (c_X7_two l G B (va_up z 2 (z 2 + 1)) tx 95 (by decide) (show z 1 ≤ 140 from h1) (show z 2 + 1 ≤ 140 by omega) ht) vy_X7_two gX7_readPart_X7_two rfl rfl rfl rfl rfl rfl rfl ⟨rfl, rfl⟩ ⟨rfl, rfl⟩ ⟨Nat.zero_le _, Nat.zero_le _⟩ rfl dX7_readPart_138 (fun v Y hE => ?_)
        obtain ⟨rfl, rfl⟩ := hE
        refine ⟨rfl, ?_⟩
        dsimp only [vfill, List.set_cons_zero, List.set_cons_succ, Option.toList, List.cons_append, List.nil_append, Nat.add_zero]
        have w9 := rTw_lt (hi := 95) (z := (va_up z 2 (z 2 + 1))) (tx := tx) (by decide)
        refine V_istore_n (i := 2) dX7_readPart_141 rfl rfl rfl ?_
        dsimp only [List.set_cons_zero, List.set_cons_succ]
        refine V_aload_n (i := 0) dX7_readPart_142 rfl rfl ?_
        refine V_iload_n (i := 2) dX7_readPart_143 rfl rfl ?_
        refine V_bipush (v := 4294967287) dX7_readPart_144 (by decide) ?_
        refine V_icmp_ne (tgt := 156) (by omega) (by omega) dX7_readPart_146 rfl (fun h_146 => ?_) (fun h_146 => ?_)
        · refine V_iload_n (i := 2) dX7_readPart_156 rfl rfl ?_
          refine V_put (C := RX7) (T := TX7) (N := 17) (ci := 6) (q := 0) (ref := "OrderChainsModel") (ty := .int) (ty0 := tyX7) 14 rfl il_X7_readPart_X7 tyX7_ok nmX7 rfl rfl fl_X7_readPart_116 rfl rfl rfl rfl rfl rfl dX7_readPart_157 ?_
          dsimp only [List.set_cons_zero, List.set_cons_succ]
          refine V_iload_n (i := 2) dX7_readPart_160 rfl rfl ?_
          refine V_bipush (v := 4294967287) dX7_readPart_161 (by decide) ?_
          refine V_icmp_eq (tgt := 170) (by omega) (by omega) dX7_readPart_163 rfl (fun h_163 => ?_) (fun h_163 => ?_)
          · refine V_iconst (v := 0) dX7_readPart_170 rfl ?_
            refine V_zret hR dX7_readPart_171 (by first | exact Or.inl rfl | exact Or.inr rfl | omega) hkc hks ?_
            unfold rPt
            first | (exfalso; omega) | (rw [if_neg (b00 h_21), if_pos (show tx (z 2) = 64 by omega), if_pos h_146]; exact ⟨rfl, rfl⟩) | (rw [if_neg (b00 h_21), if_pos (show tx (z 2) = 64 by omega), if_neg h_146]; exact ⟨rfl, rfl⟩)
          · refine V_iconst (v := 1) dX7_readPart_166 rfl ?_
            refine V_goto (tgt := 171) dX7_readPart_167 rfl ?_
            refine V_zret hR dX7_readPart_171 (by first | exact Or.inl rfl | exact Or.inr rfl | omega) hkc hks ?_
            unfold rPt
            first | (exfalso; omega) | (rw [if_neg (b00 h_21), if_pos (show tx (z 2) = 64 by omega), if_pos h_146]; exact ⟨rfl, rfl⟩) | (rw [if_neg (b00 h_21), if_pos (show tx (z 2) = 64 by omega), if_neg h_146]; exact ⟨rfl, rfl⟩)
        · refine V_aload_n (i := 0) dX7_readPart_149 rfl rfl ?_
          refine V_get (C := RX7) (T := TX7) (N := 17) (ci := 6) (q := 0) (ref := "OrderChainsModel") 14 rfl il_X7_readPart_X7 rfl rfl fl_X7_readPart_116 rfl rfl dX7_readPart_150 ?_
          refine V_goto (tgt := 157) dX7_readPart_153 rfl ?_
          refine V_put (C := RX7) (T := TX7) (N := 17) (ci := 6) (q := 0) (ref := "OrderChainsModel") (ty := .int) (ty0 := tyX7) 14 rfl il_X7_readPart_X7 tyX7_ok nmX7 rfl rfl fl_X7_readPart_116 rfl rfl rfl rfl rfl rfl dX7_readPart_157 ?_
          dsimp only [List.set_cons_zero, List.set_cons_succ]
          refine V_iload_n (i := 2) dX7_readPart_160 rfl rfl ?_
          refine V_bipush (v := 4294967287) dX7_readPart_161 (by decide) ?_
          refine V_icmp_eq (tgt := 170) (by omega) (by omega) dX7_readPart_163 rfl (fun h_163 => ?_) (fun h_163 => ?_)
          · refine V_iconst (v := 0) dX7_readPart_170 rfl ?_
            refine V_zret hR dX7_readPart_171 (by first | exact Or.inl rfl | exact Or.inr rfl | omega) hkc hks ?_
            unfold rPt
            first | (exfalso; omega) | (rw [if_neg (b00 h_21), if_pos (show tx (z 2) = 64 by omega), if_pos h_146]; exact ⟨rfl, rfl⟩) | (rw [if_neg (b00 h_21), if_pos (show tx (z 2) = 64 by omega), if_neg h_146]; exact ⟨rfl, rfl⟩)
          · refine V_iconst (v := 1) dX7_readPart_166 rfl ?_
            refine V_goto (tgt := 171) dX7_readPart_167 rfl ?_
            refine V_zret hR dX7_readPart_171 (by first | exact Or.inl rfl | exact Or.inr rfl | omega) hkc hks ?_
            unfold rPt
            first | (exfalso; omega) | (rw [if_neg (b00 h_21), if_pos (show tx (z 2) = 64 by omega), if_pos h_146]; exact ⟨rfl, rfl⟩) | (rw [if_neg (b00 h_21), if_pos (show tx (z 2) = 64 by omega), if_neg h_146]; exact ⟨rfl, rfl⟩)
    · refine V_iload_n (i := 1) dX7_readPart_105 rfl rfl ?_
      refine V_bipush (v := 111) dX7_readPart_106 (by decide) ?_
      refine V_icmp_eq (tgt := 119) (by omega) (by omega) dX7_readPart_108 rfl (fun h_108 => ?_) (fun h_108 => ?_)
      · refine V_aload_n (i := 0) dX7_readPart_119 rfl rfl ?_
        refine V_dup dX7_readPart_120 rfl ?_
        refine V_get (C := RX7) (T := TX7) (N := 17) (ci := 6) (q := 0) (ref := "OrderChainsModel") 3 rfl il_X7_readPart_X7 rfl rfl fl_X7_readPart_106 rfl rfl dX7_readPart_121 ?_
        refine V_iconst (v := 1) dX7_readPart_124 rfl ?_
        refine V_iadd dX7_readPart_125 ?_
        refine V_put (C := RX7) (T := TX7) (N := 17) (ci := 6) (q := 0) (ref := "OrderChainsModel") (ty := .int) (ty0 := tyX7) 3 rfl il_X7_readPart_X7 tyX7_ok nmX7 rfl rfl fl_X7_readPart_106 rfl rfl rfl rfl rfl rfl dX7_readPart_126 ?_
        dsimp only [List.set_cons_zero, List.set_cons_succ]
        refine V_iload_n (i := 1) dX7_readPart_129 rfl rfl ?_
        refine V_bipush (v := 64) dX7_readPart_130 (by decide) ?_
        refine V_icmp_ne (tgt := 172) (by omega) (by omega) dX7_readPart_132 rfl (fun h_132 => ?_) (fun h_132 => ?_)
        · refine V_iload_n (i := 1) dX7_readPart_172 rfl rfl ?_
          refine V_bipush (v := 111) dX7_readPart_173 (by decide) ?_
          refine V_icmp_ne (tgt := 214) (by omega) (by omega) dX7_readPart_175 rfl (fun h_175 => ?_) (fun h_175 => ?_)
          · refine V_aload_n (i := 0) dX7_readPart_214 rfl rfl ?_
            refine V_iconst (v := 2) dX7_readPart_215 rfl ?_
            refine V_callV (C := RX7) (q := 0) (ci := 6) (As := _) (rest := []) [0, 1] (c_X7_digit l G B (va_up z 2 (z 2 + 1)) tx 2 (by decide) (show z 1 ≤ 140 from h1) (show z 2 + 1 ≤ 140 by omega) ht) vy_X7_digit gX7_readPart_X7_digit rfl rfl rfl rfl rfl rfl rfl ⟨rfl, rfl⟩ ⟨rfl, rfl⟩ ⟨Nat.zero_le _, Nat.zero_le _⟩ rfl dX7_readPart_216 (fun v Y hE => ?_)
            obtain ⟨rfl, rfl⟩ := hE
            refine ⟨rfl, ?_⟩
            dsimp only [vfill, List.set_cons_zero, List.set_cons_succ, Option.toList, List.cons_append, List.nil_append, Nat.add_zero]
            have w9 := rDg_lt (hi := 2) (z := (va_up z 2 (z 2 + 1))) (tx := tx) (by decide)
            refine V_istore_n (i := 2) dX7_readPart_219 rfl rfl rfl ?_
            dsimp only [List.set_cons_zero, List.set_cons_succ]
            refine V_iload_n (i := 2) dX7_readPart_220 rfl rfl ?_
            refine V_bipush (v := 4294967287) dX7_readPart_221 (by decide) ?_
            refine V_icmp_eq (tgt := 251) (by omega) (by omega) dX7_readPart_223 rfl (fun h_223 => ?_) (fun h_223 => ?_)
            · refine V_iload_n (i := 2) dX7_readPart_251 rfl rfl ?_
              refine V_bipush (v := 4294967287) dX7_readPart_252 (by decide) ?_
              refine V_icmp_ne (tgt := 262) (by omega) (by omega) dX7_readPart_254 rfl (fun h_254 => ?_) (fun h_254 => ?_)
              · refine V_aload_n (i := 0) dX7_readPart_262 rfl rfl ?_
                refine V_bipush (v := 95) dX7_readPart_263 (by decide) ?_
                refine V_callV (C := RX7) (q := 0) (ci := 6) (As := _) (rest := []) [0, 1] (c_X7_two l G B (rDg 2 (va_up z 2 (z 2 + 1)) tx).2 tx 95 (by decide) (by rw [rDg_1]; exact h1) (rDg_2 (z := (va_up z 2 (z 2 + 1))) (show z 1 ≤ 140 from h1) (show z 2 + 1 ≤ 140 by omega)) ht) vy_X7_two gX7_readPart_X7_two rfl rfl rfl rfl rfl rfl rfl ⟨rfl, rfl⟩ ⟨rfl, rfl⟩ ⟨Nat.zero_le _, Nat.zero_le _⟩ rfl dX7_readPart_265 (fun v Y hE => ?_)
                obtain ⟨rfl, rfl⟩ := hE
                refine ⟨rfl, ?_⟩
                dsimp only [vfill, List.set_cons_zero, List.set_cons_succ, Option.toList, List.cons_append, List.nil_append, Nat.add_zero]
                have w8 := rTw_lt (hi := 95) (z := (rDg 2 (va_up z 2 (z 2 + 1)) tx).2) (tx := tx) (by decide)
                refine V_istore_n (i := 3) dX7_readPart_268 rfl rfl rfl ?_
                dsimp only [List.set_cons_zero, List.set_cons_succ]
                refine V_iload_n (i := 3) dX7_readPart_269 rfl rfl ?_
                refine V_bipush (v := 4294967287) dX7_readPart_270 (by decide) ?_
                refine V_icmp_eq (tgt := 285) (by omega) (by omega) dX7_readPart_272 rfl (fun h_272 => ?_) (fun h_272 => ?_)
                · refine V_iload_n (i := 3) dX7_readPart_285 rfl rfl ?_
                  refine V_bipush (v := 4294967287) dX7_readPart_286 (by decide) ?_
                  refine V_icmp_eq (tgt := 295) (by omega) (by omega) dX7_readPart_288 rfl (fun h_288 => ?_) (fun h_288 => ?_)
                  · refine V_iconst (v := 0) dX7_readPart_295 rfl ?_
                    refine V_zret hR dX7_readPart_296 (by first | exact Or.inl rfl | exact Or.inr rfl | omega) hkc hks ?_
                    unfold rPt
                    first | (exfalso; omega) | (rw [if_neg (b00 h_21), if_neg (show ¬ tx (z 2) = 64 by omega), if_neg (show ¬ tx (z 2) = 111 by omega), if_pos (show tx (z 2) = 115 by omega), if_pos h_223]; exact ⟨rfl, rfl⟩) | (rw [if_neg (b00 h_21), if_neg (show ¬ tx (z 2) = 64 by omega), if_neg (show ¬ tx (z 2) = 111 by omega), if_pos (show tx (z 2) = 115 by omega), if_neg h_223, if_neg h_236, if_pos h_272]; exact ⟨rfl, rfl⟩) | (rw [if_neg (b00 h_21), if_neg (show ¬ tx (z 2) = 64 by omega), if_neg (show ¬ tx (z 2) = 111 by omega), if_pos (show tx (z 2) = 115 by omega), if_neg h_223, if_neg h_236, if_neg h_272]; exact ⟨rfl, rfl⟩)
                  · refine V_iconst (v := 1) dX7_readPart_291 rfl ?_
                    refine V_goto (tgt := 296) dX7_readPart_292 rfl ?_
                    refine V_zret hR dX7_readPart_296 (by first | exact Or.inl rfl | exact Or.inr rfl | omega) hkc hks ?_
                    unfold rPt
                    first | (exfalso; omega) | (rw [if_neg (b00 h_21), if_neg (show ¬ tx (z 2) = 64 by omega), if_neg (show ¬ tx (z 2) = 111 by omega), if_pos (show tx (z 2) = 115 by omega), if_pos h_223]; exact ⟨rfl, rfl⟩) | (rw [if_neg (b00 h_21), if_neg (show ¬ tx (z 2) = 64 by omega), if_neg (show ¬ tx (z 2) = 111 by omega), if_pos (show tx (z 2) = 115 by omega), if_neg h_223, if_neg h_236, if_pos h_272]; exact ⟨rfl, rfl⟩) | (rw [if_neg (b00 h_21), if_neg (show ¬ tx (z 2) = 64 by omega), if_neg (show ¬ tx (z 2) = 111 by omega), if_pos (show tx (z 2) = 115 by omega), if_neg h_223, if_neg h_236, if_neg h_272]; exact ⟨rfl, rfl⟩)
                · refine V_aload_n (i := 0) dX7_readPart_275 rfl rfl ?_
                  refine V_get (C := RX7) (T := TX7) (N := 17) (ci := 6) (q := 0) (ref := "OrderChainsModel") 4 rfl il_X7_readPart_X7 rfl rfl fl_X7_readPart_13 rfl rfl dX7_readPart_276 ?_
                  refine V_iload_n (i := 2) dX7_readPart_279 rfl rfl ?_
                  refine V_iload_n (i := 3) dX7_readPart_280 rfl rfl ?_
                  refine V_iconst (v := 1) dX7_readPart_281 rfl ?_
                  refine V_callS (As := _) (rest := []) [2] (c_X7_begin l G (B 2) r (rDg 2 (va_up z 2 (z 2 + 1)) tx).1 (rTw 95 (rDg 2 (va_up z 2 (z 2 + 1)) tx).2 tx).1 1 (by omega)) vy_X7_begin gX7_readPart_X7_begin rfl rfl rfl rfl ⟨rfl, rfl⟩ ⟨rfl, rfl⟩ ⟨Nat.zero_le _, Nat.zero_le _⟩ rfl dX7_readPart_282 (fun v Y hE => ?_)
                  obtain ⟨rfl, rfl⟩ := hE
                  refine ⟨rfl, ?_⟩
                  dsimp only [vfill, List.set_cons_zero, List.set_cons_succ, Option.toList, List.cons_append, List.nil_append, Nat.add_zero]
                  refine V_iload_n (i := 3) dX7_readPart_285 rfl rfl ?_
                  refine V_bipush (v := 4294967287) dX7_readPart_286 (by decide) ?_
                  refine V_icmp_eq (tgt := 295) (by omega) (by omega) dX7_readPart_288 rfl (fun h_288 => ?_) (fun h_288 => ?_)
                  · refine V_iconst (v := 0) dX7_readPart_295 rfl ?_
                    refine V_zret hR dX7_readPart_296 (by first | exact Or.inl rfl | exact Or.inr rfl | omega) hkc hks ?_
                    unfold rPt
                    first | (exfalso; omega) | (rw [if_neg (b00 h_21), if_neg (show ¬ tx (z 2) = 64 by omega), if_neg (show ¬ tx (z 2) = 111 by omega), if_pos (show tx (z 2) = 115 by omega), if_pos h_223]; exact ⟨rfl, rfl⟩) | (rw [if_neg (b00 h_21), if_neg (show ¬ tx (z 2) = 64 by omega), if_neg (show ¬ tx (z 2) = 111 by omega), if_pos (show tx (z 2) = 115 by omega), if_neg h_223, if_neg h_236, if_pos h_272]; exact ⟨rfl, rfl⟩) | (rw [if_neg (b00 h_21), if_neg (show ¬ tx (z 2) = 64 by omega), if_neg (show ¬ tx (z 2) = 111 by omega), if_pos (show tx (z 2) = 115 by omega), if_neg h_223, if_neg h_236, if_neg h_272]; exact ⟨rfl, rfl⟩)
                  · refine V_iconst (v := 1) dX7_readPart_291 rfl ?_
                    refine V_goto (tgt := 296) dX7_readPart_292 rfl ?_
                    refine V_zret hR dX7_readPart_296 (by first | exact Or.inl rfl | exact Or.inr rfl | omega) hkc hks ?_
                    unfold rPt
                    first | (exfalso; omega) | (rw [if_neg (b00 h_21), if_neg (show ¬ tx (z 2) = 64 by omega), if_neg (show ¬ tx (z 2) = 111 by omega), if_pos (show tx (z 2) = 115 by omega), if_pos h_223]; exact ⟨rfl, rfl⟩) | (rw [if_neg (b00 h_21), if_neg (show ¬ tx (z 2) = 64 by omega), if_neg (show ¬ tx (z 2) = 111 by omega), if_pos (show tx (z 2) = 115 by omega), if_neg h_223, if_neg h_236, if_pos h_272]; exact ⟨rfl, rfl⟩) | (rw [if_neg (b00 h_21), if_neg (show ¬ tx (z 2) = 64 by omega), if_neg (show ¬ tx (z 2) = 111 by omega), if_pos (show tx (z 2) = 115 by omega), if_neg h_223, if_neg h_236, if_neg h_272]; exact ⟨rfl, rfl⟩)
              · refine V_bipush (v := 4294967287) dX7_readPart_257 (by decide) ?_
                refine V_goto (tgt := 268) dX7_readPart_259 rfl ?_
                have w8 := rTw_lt (hi := 95) (z := (rDg 2 (va_up z 2 (z 2 + 1)) tx).2) (tx := tx) (by decide)
                refine V_istore_n (i := 3) dX7_readPart_268 rfl rfl rfl ?_
                dsimp only [List.set_cons_zero, List.set_cons_succ]
                refine V_iload_n (i := 3) dX7_readPart_269 rfl rfl ?_
                refine V_bipush (v := 4294967287) dX7_readPart_270 (by decide) ?_
                refine V_icmp_eq (tgt := 285) (by omega) (by omega) dX7_readPart_272 rfl (fun h_272 => ?_) (fun h_272 => ?_)
                · refine V_iload_n (i := 3) dX7_readPart_285 rfl rfl ?_
                  refine V_bipush (v := 4294967287) dX7_readPart_286 (by decide) ?_
                  refine V_icmp_eq (tgt := 295) (by omega) (by omega) dX7_readPart_288 rfl (fun h_288 => ?_) (fun h_288 => ?_)
                  · refine V_iconst (v := 0) dX7_readPart_295 rfl ?_
                    refine V_zret hR dX7_readPart_296 (by first | exact Or.inl rfl | exact Or.inr rfl | omega) hkc hks ?_
                    unfold rPt
                    first | (exfalso; omega) | (rw [if_neg (b00 h_21), if_neg (show ¬ tx (z 2) = 64 by omega), if_neg (show ¬ tx (z 2) = 111 by omega), if_pos (show tx (z 2) = 115 by omega), if_pos h_223]; exact ⟨rfl, rfl⟩) | (rw [if_neg (b00 h_21), if_neg (show ¬ tx (z 2) = 64 by omega), if_neg (show ¬ tx (z 2) = 111 by omega), if_pos (show tx (z 2) = 115 by omega), if_neg h_223, if_neg h_236, if_pos h_272]; exact ⟨rfl, rfl⟩) | (rw [if_neg (b00 h_21), if_neg (show ¬ tx (z 2) = 64 by omega), if_neg (show ¬ tx (z 2) = 111 by omega), if_pos (show tx (z 2) = 115 by omega), if_neg h_223, if_neg h_236, if_neg h_272]; exact ⟨rfl, rfl⟩)
                  · exfalso; omega
                · exfalso; omega
            · refine V_aload_n (i := 0) dX7_readPart_226 rfl rfl ?_
              refine V_get (C := RX7) (T := TX7) (N := 17) (ci := 6) (q := 0) (ref := "OrderChainsModel") 4 rfl il_X7_readPart_X7 rfl rfl fl_X7_readPart_13 rfl rfl dX7_readPart_227 ?_
              refine V_iload_n (i := 2) dX7_readPart_230 rfl rfl ?_
              refine V_callS (As := _) (rest := _) [] (c_X7_at l G ((rDg 2 (va_up z 2 (z 2 + 1)) tx).1)) vy_X7_at gX7_readPart_X7_at rfl rfl rfl rfl ⟨rfl, rfl⟩ ⟨rfl, rfl⟩ ⟨Nat.zero_le _, Nat.zero_le _⟩ rfl dX7_readPart_231 (fun v Y hE => ?_)
              obtain ⟨rfl, rfl⟩ := hE
              refine ⟨rfl, ?_⟩
              dsimp only [vfill, List.set_cons_zero, List.set_cons_succ, Option.toList, List.cons_append, List.nil_append, Nat.add_zero]
              refine V_iald (q := 2) rfl (by omega) rfl dX7_readPart_234 ?_
              refine V_iconst (v := 1) dX7_readPart_235 rfl ?_
              refine V_icmp_ne (tgt := 251) (by have := hs (rDg 2 (va_up z 2 (z 2 + 1)) tx).1 (by omega); omega) (by omega) dX7_readPart_236 rfl (fun h_236 => ?_) (fun h_236 => ?_)
              · refine V_iload_n (i := 2) dX7_readPart_251 rfl rfl ?_
                refine V_bipush (v := 4294967287) dX7_readPart_252 (by decide) ?_
                refine V_icmp_ne (tgt := 262) (by omega) (by omega) dX7_readPart_254 rfl (fun h_254 => ?_) (fun h_254 => ?_)
                · refine V_aload_n (i := 0) dX7_readPart_262 rfl rfl ?_
                  refine V_bipush (v := 95) dX7_readPart_263 (by decide) ?_
                  refine V_callV (C := RX7) (q := 0) (ci := 6) (As := _) (rest := []) [0, 1] (c_X7_two l G B (rDg 2 (va_up z 2 (z 2 + 1)) tx).2 tx 95 (by decide) (by rw [rDg_1]; exact h1) (rDg_2 (z := (va_up z 2 (z 2 + 1))) (show z 1 ≤ 140 from h1) (show z 2 + 1 ≤ 140 by omega)) ht) vy_X7_two gX7_readPart_X7_two rfl rfl rfl rfl rfl rfl rfl ⟨rfl, rfl⟩ ⟨rfl, rfl⟩ ⟨Nat.zero_le _, Nat.zero_le _⟩ rfl dX7_readPart_265 (fun v Y hE => ?_)
                  obtain ⟨rfl, rfl⟩ := hE
                  refine ⟨rfl, ?_⟩
                  dsimp only [vfill, List.set_cons_zero, List.set_cons_succ, Option.toList, List.cons_append, List.nil_append, Nat.add_zero]
                  have w8 := rTw_lt (hi := 95) (z := (rDg 2 (va_up z 2 (z 2 + 1)) tx).2) (tx := tx) (by decide)
                  refine V_istore_n (i := 3) dX7_readPart_268 rfl rfl rfl ?_
                  dsimp only [List.set_cons_zero, List.set_cons_succ]
                  refine V_iload_n (i := 3) dX7_readPart_269 rfl rfl ?_
                  refine V_bipush (v := 4294967287) dX7_readPart_270 (by decide) ?_
                  refine V_icmp_eq (tgt := 285) (by omega) (by omega) dX7_readPart_272 rfl (fun h_272 => ?_) (fun h_272 => ?_)
                  · refine V_iload_n (i := 3) dX7_readPart_285 rfl rfl ?_
                    refine V_bipush (v := 4294967287) dX7_readPart_286 (by decide) ?_
                    refine V_icmp_eq (tgt := 295) (by omega) (by omega) dX7_readPart_288 rfl (fun h_288 => ?_) (fun h_288 => ?_)
                    · refine V_iconst (v := 0) dX7_readPart_295 rfl ?_
                      refine V_zret hR dX7_readPart_296 (by first | exact Or.inl rfl | exact Or.inr rfl | omega) hkc hks ?_
                      unfold rPt
                      first | (exfalso; omega) | (rw [if_neg (b00 h_21), if_neg (show ¬ tx (z 2) = 64 by omega), if_neg (show ¬ tx (z 2) = 111 by omega), if_pos (show tx (z 2) = 115 by omega), if_pos h_223]; exact ⟨rfl, rfl⟩) | (rw [if_neg (b00 h_21), if_neg (show ¬ tx (z 2) = 64 by omega), if_neg (show ¬ tx (z 2) = 111 by omega), if_pos (show tx (z 2) = 115 by omega), if_neg h_223, if_neg h_236, if_pos h_272]; exact ⟨rfl, rfl⟩) | (rw [if_neg (b00 h_21), if_neg (show ¬ tx (z 2) = 64 by omega), if_neg (show ¬ tx (z 2) = 111 by omega), if_pos (show tx (z 2) = 115 by omega), if_neg h_223, if_neg h_236, if_neg h_272]; exact ⟨rfl, rfl⟩)
                    · refine V_iconst (v := 1) dX7_readPart_291 rfl ?_
                      refine V_goto (tgt := 296) dX7_readPart_292 rfl ?_
                      refine V_zret hR dX7_readPart_296 (by first | exact Or.inl rfl | exact Or.inr rfl | omega) hkc hks ?_
                      unfold rPt
                      first | (exfalso; omega) | (rw [if_neg (b00 h_21), if_neg (show ¬ tx (z 2) = 64 by omega), if_neg (show ¬ tx (z 2) = 111 by omega), if_pos (show tx (z 2) = 115 by omega), if_pos h_223]; exact ⟨rfl, rfl⟩) | (rw [if_neg (b00 h_21), if_neg (show ¬ tx (z 2) = 64 by omega), if_neg (show ¬ tx (z 2) = 111 by omega), if_pos (show tx (z 2) = 115 by omega), if_neg h_223, if_neg h_236, if_pos h_272]; exact ⟨rfl, rfl⟩) | (rw [if_neg (b00 h_21), if_neg (show ¬ tx (z 2) = 64 by omega), if_neg (show ¬ tx (z 2) = 111 by omega), if_pos (show tx (z 2) = 115 by omega), if_neg h_223, if_neg h_236, if_neg h_272]; exact ⟨rfl, rfl⟩)
                  · refine V_aload_n (i := 0) dX7_readPart_275 rfl rfl ?_
                    refine V_get (C := RX7) (T := TX7) (N := 17) (ci := 6) (q := 0) (ref := "OrderChainsModel") 4 rfl il_X7_readPart_X7 rfl rfl fl_X7_readPart_13 rfl rfl dX7_readPart_276 ?_
                    refine V_iload_n (i := 2) dX7_readPart_279 rfl rfl ?_
                    refine V_iload_n (i := 3) dX7_readPart_280 rfl rfl ?_
                    refine V_iconst (v := 1) dX7_readPart_281 rfl ?_
                    refine V_callS (As := _) (rest := []) [2] (c_X7_begin l G (B 2) r (rDg 2 (va_up z 2 (z 2 + 1)) tx).1 (rTw 95 (rDg 2 (va_up z 2 (z 2 + 1)) tx).2 tx).1 1 (by omega)) vy_X7_begin gX7_readPart_X7_begin rfl rfl rfl rfl ⟨rfl, rfl⟩ ⟨rfl, rfl⟩ ⟨Nat.zero_le _, Nat.zero_le _⟩ rfl dX7_readPart_282 (fun v Y hE => ?_)
                    obtain ⟨rfl, rfl⟩ := hE
                    refine ⟨rfl, ?_⟩
                    dsimp only [vfill, List.set_cons_zero, List.set_cons_succ, Option.toList, List.cons_append, List.nil_append, Nat.add_zero]
                    refine V_iload_n (i := 3) dX7_readPart_285 rfl rfl ?_
                    refine V_bipush (v := 4294967287) dX7_readPart_286 (by decide) ?_
                    refine V_icmp_eq (tgt := 295) (by omega) (by omega) dX7_readPart_288 rfl (fun h_288 => ?_) (fun h_288 => ?_)
                    · refine V_iconst (v := 0) dX7_readPart_295 rfl ?_
                      refine V_zret hR dX7_readPart_296 (by first | exact Or.inl rfl | exact Or.inr rfl | omega) hkc hks ?_
                      unfold rPt
                      first | (exfalso; omega) | (rw [if_neg (b00 h_21), if_neg (show ¬ tx (z 2) = 64 by omega), if_neg (show ¬ tx (z 2) = 111 by omega), if_pos (show tx (z 2) = 115 by omega), if_pos h_223]; exact ⟨rfl, rfl⟩) | (rw [if_neg (b00 h_21), if_neg (show ¬ tx (z 2) = 64 by omega), if_neg (show ¬ tx (z 2) = 111 by omega), if_pos (show tx (z 2) = 115 by omega), if_neg h_223, if_neg h_236, if_pos h_272]; exact ⟨rfl, rfl⟩) | (rw [if_neg (b00 h_21), if_neg (show ¬ tx (z 2) = 64 by omega), if_neg (show ¬ tx (z 2) = 111 by omega), if_pos (show tx (z 2) = 115 by omega), if_neg h_223, if_neg h_236, if_neg h_272]; exact ⟨rfl, rfl⟩)
                    · refine V_iconst (v := 1) dX7_readPart_291 rfl ?_
                      refine V_goto (tgt := 296) dX7_readPart_292 rfl ?_
                      refine V_zret hR dX7_readPart_296 (by first | exact Or.inl rfl | exact Or.inr rfl | omega) hkc hks ?_
                      unfold rPt
                      first | (exfalso; omega) | (rw [if_neg (b00 h_21), if_neg (show ¬ tx (z 2) = 64 by omega), if_neg (show ¬ tx (z 2) = 111 by omega), if_pos (show tx (z 2) = 115 by omega), if_pos h_223]; exact ⟨rfl, rfl⟩) | (rw [if_neg (b00 h_21), if_neg (show ¬ tx (z 2) = 64 by omega), if_neg (show ¬ tx (z 2) = 111 by omega), if_pos (show tx (z 2) = 115 by omega), if_neg h_223, if_neg h_236, if_pos h_272]; exact ⟨rfl, rfl⟩) | (rw [if_neg (b00 h_21), if_neg (show ¬ tx (z 2) = 64 by omega), if_neg (show ¬ tx (z 2) = 111 by omega), if_pos (show tx (z 2) = 115 by omega), if_neg h_223, if_neg h_236, if_neg h_272]; exact ⟨rfl, rfl⟩)
                · refine V_bipush (v := 4294967287) dX7_readPart_257 (by decide) ?_
                  refine V_goto (tgt := 268) dX7_readPart_259 rfl ?_
                  have w8 := rTw_lt (hi := 95) (z := (rDg 2 (va_up z 2 (z 2 + 1)) tx).2) (tx := tx) (by decide)
                  refine V_istore_n (i := 3) dX7_readPart_268 rfl rfl rfl ?_
                  dsimp only [List.set_cons_zero, List.set_cons_succ]
                  refine V_iload_n (i := 3) dX7_readPart_269 rfl rfl ?_
                  refine V_bipush (v := 4294967287) dX7_readPart_270 (by decide) ?_
                  refine V_icmp_eq (tgt := 285) (by omega) (by omega) dX7_readPart_272 rfl (fun h_272 => ?_) (fun h_272 => ?_)
                  · refine V_iload_n (i := 3) dX7_readPart_285 rfl rfl ?_
                    refine V_bipush (v := 4294967287) dX7_readPart_286 (by decide) ?_
                    refine V_icmp_eq (tgt := 295) (by omega) (by omega) dX7_readPart_288 rfl (fun h_288 => ?_) (fun h_288 => ?_)
                    · refine V_iconst (v := 0) dX7_readPart_295 rfl ?_
                      refine V_zret hR dX7_readPart_296 (by first | exact Or.inl rfl | exact Or.inr rfl | omega) hkc hks ?_
                      unfold rPt
                      first | (exfalso; omega) | (rw [if_neg (b00 h_21), if_neg (show ¬ tx (z 2) = 64 by omega), if_neg (show ¬ tx (z 2) = 111 by omega), if_pos (show tx (z 2) = 115 by omega), if_pos h_223]; exact ⟨rfl, rfl⟩) | (rw [if_neg (b00 h_21), if_neg (show ¬ tx (z 2) = 64 by omega), if_neg (show ¬ tx (z 2) = 111 by omega), if_pos (show tx (z 2) = 115 by omega), if_neg h_223, if_neg h_236, if_pos h_272]; exact ⟨rfl, rfl⟩) | (rw [if_neg (b00 h_21), if_neg (show ¬ tx (z 2) = 64 by omega), if_neg (show ¬ tx (z 2) = 111 by omega), if_pos (show tx (z 2) = 115 by omega), if_neg h_223, if_neg h_236, if_neg h_272]; exact ⟨rfl, rfl⟩)
                    · exfalso; omega
                  · exfalso; omega
              · refine V_aload_n (i := 0) dX7_readPart_239 rfl rfl ?_
                refine V_dup dX7_readPart_240 rfl ?_
                refine V_get (C := RX7) (T := TX7) (N := 17) (ci := 6) (q := 0) (ref := "OrderChainsModel") 3 rfl il_X7_readPart_X7 rfl rfl fl_X7_readPart_106 rfl rfl dX7_readPart_241 ?_
                refine V_iconst (v := 1) dX7_readPart_244 rfl ?_
                refine V_isub dX7_readPart_245 (Nat.le_trans (show 1 ≤ z 2 + 1 by omega) (rDg_ge 2 (va_up z 2 (z 2 + 1)) tx)) ?_
                refine V_put (C := RX7) (T := TX7) (N := 17) (ci := 6) (q := 0) (ref := "OrderChainsModel") (ty := .int) (ty0 := tyX7) 3 rfl il_X7_readPart_X7 tyX7_ok nmX7 rfl rfl fl_X7_readPart_106 rfl rfl rfl rfl rfl rfl dX7_readPart_246 ?_
                dsimp only [List.set_cons_zero, List.set_cons_succ]
                refine V_iconst (v := 0) dX7_readPart_249 rfl ?_
                refine V_zret hR dX7_readPart_250 (by first | exact Or.inl rfl | exact Or.inr rfl | omega) hkc hks ?_
                unfold rPt
                first | (exfalso; omega) | (rw [if_neg (b00 h_21), if_neg (show ¬ tx (z 2) = 64 by omega), if_neg (show ¬ tx (z 2) = 111 by omega), if_pos (show tx (z 2) = 115 by omega), if_neg h_223, if_pos h_236]; exact ⟨rfl, rfl⟩)
          · refine V_aload_n (i := 0) dX7_readPart_178 rfl rfl ?_
            refine V_iconst (v := 3) dX7_readPart_179 rfl ?_
            refine V_callV (C := RX7) (q := 0) (ci := 6) (As := _) (rest := []) [0, 1] (c_X7_digit l G B (va_up z 2 (z 2 + 1)) tx 3 (by decide) (show z 1 ≤ 140 from h1) (show z 2 + 1 ≤ 140 by omega) ht) vy_X7_digit gX7_readPart_X7_digit rfl rfl rfl rfl rfl rfl rfl ⟨rfl, rfl⟩ ⟨rfl, rfl⟩ ⟨Nat.zero_le _, Nat.zero_le _⟩ rfl dX7_readPart_180 (fun v Y hE => ?_)
            obtain ⟨rfl, rfl⟩ := hE
            refine ⟨rfl, ?_⟩
            dsimp only [vfill, List.set_cons_zero, List.set_cons_succ, Option.toList, List.cons_append, List.nil_append, Nat.add_zero]
            have w9 := rDg_lt (hi := 3) (z := (va_up z 2 (z 2 + 1))) (tx := tx) (by decide)
            refine V_istore_n (i := 2) dX7_readPart_183 rfl rfl rfl ?_
            dsimp only [List.set_cons_zero, List.set_cons_succ]
            refine V_aload_n (i := 0) dX7_readPart_184 rfl rfl ?_
            refine V_iload_n (i := 2) dX7_readPart_185 rfl rfl ?_
            refine V_bipush (v := 4294967287) dX7_readPart_186 (by decide) ?_
            refine V_icmp_ne (tgt := 198) (by omega) (by omega) dX7_readPart_188 rfl (fun h_188 => ?_) (fun h_188 => ?_)
            · refine V_iload_n (i := 2) dX7_readPart_198 rfl rfl ?_
              refine V_put (C := RX7) (T := TX7) (N := 17) (ci := 6) (q := 0) (ref := "OrderChainsModel") (ty := .int) (ty0 := tyX7) 15 rfl il_X7_readPart_X7 tyX7_ok nmX7 rfl rfl fl_X7_readPart_122 rfl rfl rfl rfl rfl rfl dX7_readPart_199 ?_
              dsimp only [List.set_cons_zero, List.set_cons_succ]
              refine V_iload_n (i := 2) dX7_readPart_202 rfl rfl ?_
              refine V_bipush (v := 4294967287) dX7_readPart_203 (by decide) ?_
              refine V_icmp_eq (tgt := 212) (by omega) (by omega) dX7_readPart_205 rfl (fun h_205 => ?_) (fun h_205 => ?_)
              · refine V_iconst (v := 0) dX7_readPart_212 rfl ?_
                refine V_zret hR dX7_readPart_213 (by first | exact Or.inl rfl | exact Or.inr rfl | omega) hkc hks ?_
                unfold rPt
                first | (exfalso; omega) | (rw [if_neg (b00 h_21), if_neg (show ¬ tx (z 2) = 64 by omega), if_pos (show tx (z 2) = 111 by omega), if_pos h_188]; exact ⟨rfl, rfl⟩) | (rw [if_neg (b00 h_21), if_neg (show ¬ tx (z 2) = 64 by omega), if_pos (show tx (z 2) = 111 by omega), if_neg h_188]; exact ⟨rfl, rfl⟩)
              · refine V_iconst (v := 1) dX7_readPart_208 rfl ?_
                refine V_goto (tgt := 213) dX7_readPart_209 rfl ?_
                refine V_zret hR dX7_readPart_213 (by first | exact Or.inl rfl | exact Or.inr rfl | omega) hkc hks ?_
                unfold rPt
                first | (exfalso; omega) | (rw [if_neg (b00 h_21), if_neg (show ¬ tx (z 2) = 64 by omega), if_pos (show tx (z 2) = 111 by omega), if_pos h_188]; exact ⟨rfl, rfl⟩) | (rw [if_neg (b00 h_21), if_neg (show ¬ tx (z 2) = 64 by omega), if_pos (show tx (z 2) = 111 by omega), if_neg h_188]; exact ⟨rfl, rfl⟩)
            · refine V_aload_n (i := 0) dX7_readPart_191 rfl rfl ?_
              refine V_get (C := RX7) (T := TX7) (N := 17) (ci := 6) (q := 0) (ref := "OrderChainsModel") 15 rfl il_X7_readPart_X7 rfl rfl fl_X7_readPart_122 rfl rfl dX7_readPart_192 ?_
              refine V_goto (tgt := 199) dX7_readPart_195 rfl ?_
              refine V_put (C := RX7) (T := TX7) (N := 17) (ci := 6) (q := 0) (ref := "OrderChainsModel") (ty := .int) (ty0 := tyX7) 15 rfl il_X7_readPart_X7 tyX7_ok nmX7 rfl rfl fl_X7_readPart_122 rfl rfl rfl rfl rfl rfl dX7_readPart_199 ?_
              dsimp only [List.set_cons_zero, List.set_cons_succ]
              refine V_iload_n (i := 2) dX7_readPart_202 rfl rfl ?_
              refine V_bipush (v := 4294967287) dX7_readPart_203 (by decide) ?_
              refine V_icmp_eq (tgt := 212) (by omega) (by omega) dX7_readPart_205 rfl (fun h_205 => ?_) (fun h_205 => ?_)
              · refine V_iconst (v := 0) dX7_readPart_212 rfl ?_
                refine V_zret hR dX7_readPart_213 (by first | exact Or.inl rfl | exact Or.inr rfl | omega) hkc hks ?_
                unfold rPt
                first | (exfalso; omega) | (rw [if_neg (b00 h_21), if_neg (show ¬ tx (z 2) = 64 by omega), if_pos (show tx (z 2) = 111 by omega), if_pos h_188]; exact ⟨rfl, rfl⟩) | (rw [if_neg (b00 h_21), if_neg (show ¬ tx (z 2) = 64 by omega), if_pos (show tx (z 2) = 111 by omega), if_neg h_188]; exact ⟨rfl, rfl⟩)
              · refine V_iconst (v := 1) dX7_readPart_208 rfl ?_
                refine V_goto (tgt := 213) dX7_readPart_209 rfl ?_
                refine V_zret hR dX7_readPart_213 (by first | exact Or.inl rfl | exact Or.inr rfl | omega) hkc hks ?_
                unfold rPt
                first | (exfalso; omega) | (rw [if_neg (b00 h_21), if_neg (show ¬ tx (z 2) = 64 by omega), if_pos (show tx (z 2) = 111 by omega), if_pos h_188]; exact ⟨rfl, rfl⟩) | (rw [if_neg (b00 h_21), if_neg (show ¬ tx (z 2) = 64 by omega), if_pos (show tx (z 2) = 111 by omega), if_neg h_188]; exact ⟨rfl, rfl⟩)
        · refine V_aload_n (i := 0) dX7_readPart_135 rfl rfl ?_
          refine V_bipush (v := 95) dX7_readPart_136 (by decide) ?_
          refine V_callV (C := RX7) (q := 0) (ci := 6) (As := _) (rest := []) [0, 1] (c_X7_two l G B (va_up z 2 (z 2 + 1)) tx 95 (by decide) (show z 1 ≤ 140 from h1) (show z 2 + 1 ≤ 140 by omega) ht) vy_X7_two gX7_readPart_X7_two rfl rfl rfl rfl rfl rfl rfl ⟨rfl, rfl⟩ ⟨rfl, rfl⟩ ⟨Nat.zero_le _, Nat.zero_le _⟩ rfl dX7_readPart_138 (fun v Y hE => ?_)
          obtain ⟨rfl, rfl⟩ := hE
          refine ⟨rfl, ?_⟩
          dsimp only [vfill, List.set_cons_zero, List.set_cons_succ, Option.toList, List.cons_append, List.nil_append, Nat.add_zero]
          have w9 := rTw_lt (hi := 95) (z := (va_up z 2 (z 2 + 1))) (tx := tx) (by decide)
          refine V_istore_n (i := 2) dX7_readPart_141 rfl rfl rfl ?_
          dsimp only [List.set_cons_zero, List.set_cons_succ]
          refine V_aload_n (i := 0) dX7_readPart_142 rfl rfl ?_
          refine V_iload_n (i := 2) dX7_readPart_143 rfl rfl ?_
          refine V_bipush (v := 4294967287) dX7_readPart_144 (by decide) ?_
          refine V_icmp_ne (tgt := 156) (by omega) (by omega) dX7_readPart_146 rfl (fun h_146 => ?_) (fun h_146 => ?_)
          · refine V_iload_n (i := 2) dX7_readPart_156 rfl rfl ?_
            refine V_put (C := RX7) (T := TX7) (N := 17) (ci := 6) (q := 0) (ref := "OrderChainsModel") (ty := .int) (ty0 := tyX7) 14 rfl il_X7_readPart_X7 tyX7_ok nmX7 rfl rfl fl_X7_readPart_116 rfl rfl rfl rfl rfl rfl dX7_readPart_157 ?_
            dsimp only [List.set_cons_zero, List.set_cons_succ]
            refine V_iload_n (i := 2) dX7_readPart_160 rfl rfl ?_
            refine V_bipush (v := 4294967287) dX7_readPart_161 (by decide) ?_
            refine V_icmp_eq (tgt := 170) (by omega) (by omega) dX7_readPart_163 rfl (fun h_163 => ?_) (fun h_163 => ?_)
            · refine V_iconst (v := 0) dX7_readPart_170 rfl ?_
              refine V_zret hR dX7_readPart_171 (by first | exact Or.inl rfl | exact Or.inr rfl | omega) hkc hks ?_
              unfold rPt
              first | (exfalso; omega) | (rw [if_neg (b00 h_21), if_pos (show tx (z 2) = 64 by omega), if_pos h_146]; exact ⟨rfl, rfl⟩) | (rw [if_neg (b00 h_21), if_pos (show tx (z 2) = 64 by omega), if_neg h_146]; exact ⟨rfl, rfl⟩)
            · refine V_iconst (v := 1) dX7_readPart_166 rfl ?_
              refine V_goto (tgt := 171) dX7_readPart_167 rfl ?_
              refine V_zret hR dX7_readPart_171 (by first | exact Or.inl rfl | exact Or.inr rfl | omega) hkc hks ?_
              unfold rPt
              first | (exfalso; omega) | (rw [if_neg (b00 h_21), if_pos (show tx (z 2) = 64 by omega), if_pos h_146]; exact ⟨rfl, rfl⟩) | (rw [if_neg (b00 h_21), if_pos (show tx (z 2) = 64 by omega), if_neg h_146]; exact ⟨rfl, rfl⟩)
          · refine V_aload_n (i := 0) dX7_readPart_149 rfl rfl ?_
            refine V_get (C := RX7) (T := TX7) (N := 17) (ci := 6) (q := 0) (ref := "OrderChainsModel") 14 rfl il_X7_readPart_X7 rfl rfl fl_X7_readPart_116 rfl rfl dX7_readPart_150 ?_
            refine V_goto (tgt := 157) dX7_readPart_153 rfl ?_
            refine V_put (C := RX7) (T := TX7) (N := 17) (ci := 6) (q := 0) (ref := "OrderChainsModel") (ty := .int) (ty0 := tyX7) 14 rfl il_X7_readPart_X7 tyX7_ok nmX7 rfl rfl fl_X7_readPart_116 rfl rfl rfl rfl rfl rfl dX7_readPart_157 ?_
            dsimp only [List.set_cons_zero, List.set_cons_succ]
            refine V_iload_n (i := 2) dX7_readPart_160 rfl rfl ?_
            refine V_bipush (v := 4294967287) dX7_readPart_161 (by decide) ?_
            refine V_icmp_eq (tgt := 170) (by omega) (by omega) dX7_readPart_163 rfl (fun h_163 => ?_) (fun h_163 => ?_)
            · refine V_iconst (v := 0) dX7_readPart_170 rfl ?_
              refine V_zret hR dX7_readPart_171 (by first | exact Or.inl rfl | exact Or.inr rfl | omega) hkc hks ?_
              unfold rPt
              first | (exfalso; omega) | (rw [if_neg (b00 h_21), if_pos (show tx (z 2) = 64 by omega), if_pos h_146]; exact ⟨rfl, rfl⟩) | (rw [if_neg (b00 h_21), if_pos (show tx (z 2) = 64 by omega), if_neg h_146]; exact ⟨rfl, rfl⟩)
            · refine V_iconst (v := 1) dX7_readPart_166 rfl ?_
              refine V_goto (tgt := 171) dX7_readPart_167 rfl ?_
              refine V_zret hR dX7_readPart_171 (by first | exact Or.inl rfl | exact Or.inr rfl | omega) hkc hks ?_
              unfold rPt
              first | (exfalso; omega) | (rw [if_neg (b00 h_21), if_pos (show tx (z 2) = 64 by omega), if_pos h_146]; exact ⟨rfl, rfl⟩) | (rw [if_neg (b00 h_21), if_pos (show tx (z 2) = 64 by omega), if_neg h_146]; exact ⟨rfl, rfl⟩)
      · refine V_iload_n (i := 1) dX7_readPart_111 rfl rfl ?_
        refine V_bipush (v := 115) dX7_readPart_112 (by decide) ?_
        refine V_icmp_eq (tgt := 119) (by omega) (by omega) dX7_readPart_114 rfl (fun h_114 => ?_) (fun h_114 => ?_)
        · refine V_aload_n (i := 0) dX7_readPart_119 rfl rfl ?_
          refine V_dup dX7_readPart_120 rfl ?_
          refine V_get (C := RX7) (T := TX7) (N := 17) (ci := 6) (q := 0) (ref := "OrderChainsModel") 3 rfl il_X7_readPart_X7 rfl rfl fl_X7_readPart_106 rfl rfl dX7_readPart_121 ?_
          refine V_iconst (v := 1) dX7_readPart_124 rfl ?_
          refine V_iadd dX7_readPart_125 ?_
          refine V_put (C := RX7) (T := TX7) (N := 17) (ci := 6) (q := 0) (ref := "OrderChainsModel") (ty := .int) (ty0 := tyX7) 3 rfl il_X7_readPart_X7 tyX7_ok nmX7 rfl rfl fl_X7_readPart_106 rfl rfl rfl rfl rfl rfl dX7_readPart_126 ?_
          dsimp only [List.set_cons_zero, List.set_cons_succ]
          refine V_iload_n (i := 1) dX7_readPart_129 rfl rfl ?_
          refine V_bipush (v := 64) dX7_readPart_130 (by decide) ?_
          refine V_icmp_ne (tgt := 172) (by omega) (by omega) dX7_readPart_132 rfl (fun h_132 => ?_) (fun h_132 => ?_)
          · refine V_iload_n (i := 1) dX7_readPart_172 rfl rfl ?_
            refine V_bipush (v := 111) dX7_readPart_173 (by decide) ?_
            refine V_icmp_ne (tgt := 214) (by omega) (by omega) dX7_readPart_175 rfl (fun h_175 => ?_) (fun h_175 => ?_)
            · refine V_aload_n (i := 0) dX7_readPart_214 rfl rfl ?_
              refine V_iconst (v := 2) dX7_readPart_215 rfl ?_
              refine V_callV (C := RX7) (q := 0) (ci := 6) (As := _) (rest := []) [0, 1] (c_X7_digit l G B (va_up z 2 (z 2 + 1)) tx 2 (by decide) (show z 1 ≤ 140 from h1) (show z 2 + 1 ≤ 140 by omega) ht) vy_X7_digit gX7_readPart_X7_digit rfl rfl rfl rfl rfl rfl rfl ⟨rfl, rfl⟩ ⟨rfl, rfl⟩ ⟨Nat.zero_le _, Nat.zero_le _⟩ rfl dX7_readPart_216 (fun v Y hE => ?_)
              obtain ⟨rfl, rfl⟩ := hE
              refine ⟨rfl, ?_⟩
              dsimp only [vfill, List.set_cons_zero, List.set_cons_succ, Option.toList, List.cons_append, List.nil_append, Nat.add_zero]
              have w9 := rDg_lt (hi := 2) (z := (va_up z 2 (z 2 + 1))) (tx := tx) (by decide)
              refine V_istore_n (i := 2) dX7_readPart_219 rfl rfl rfl ?_
              dsimp only [List.set_cons_zero, List.set_cons_succ]
              refine V_iload_n (i := 2) dX7_readPart_220 rfl rfl ?_
              refine V_bipush (v := 4294967287) dX7_readPart_221 (by decide) ?_
              refine V_icmp_eq (tgt := 251) (by omega) (by omega) dX7_readPart_223 rfl (fun h_223 => ?_) (fun h_223 => ?_)
              · refine V_iload_n (i := 2) dX7_readPart_251 rfl rfl ?_
                refine V_bipush (v := 4294967287) dX7_readPart_252 (by decide) ?_
                refine V_icmp_ne (tgt := 262) (by omega) (by omega) dX7_readPart_254 rfl (fun h_254 => ?_) (fun h_254 => ?_)
                · refine V_aload_n (i := 0) dX7_readPart_262 rfl rfl ?_
                  refine V_bipush (v := 95) dX7_readPart_263 (by decide) ?_
                  refine V_callV (C := RX7) (q := 0) (ci := 6) (As := _) (rest := []) [0, 1] (c_X7_two l G B (rDg 2 (va_up z 2 (z 2 + 1)) tx).2 tx 95 (by decide) (by rw [rDg_1]; exact h1) (rDg_2 (z := (va_up z 2 (z 2 + 1))) (show z 1 ≤ 140 from h1) (show z 2 + 1 ≤ 140 by omega)) ht) vy_X7_two gX7_readPart_X7_two rfl rfl rfl rfl rfl rfl rfl ⟨rfl, rfl⟩ ⟨rfl, rfl⟩ ⟨Nat.zero_le _, Nat.zero_le _⟩ rfl dX7_readPart_265 (fun v Y hE => ?_)
                  obtain ⟨rfl, rfl⟩ := hE
                  refine ⟨rfl, ?_⟩
                  dsimp only [vfill, List.set_cons_zero, List.set_cons_succ, Option.toList, List.cons_append, List.nil_append, Nat.add_zero]
                  have w8 := rTw_lt (hi := 95) (z := (rDg 2 (va_up z 2 (z 2 + 1)) tx).2) (tx := tx) (by decide)
                  refine V_istore_n (i := 3) dX7_readPart_268 rfl rfl rfl ?_
                  dsimp only [List.set_cons_zero, List.set_cons_succ]
                  refine V_iload_n (i := 3) dX7_readPart_269 rfl rfl ?_
                  refine V_bipush (v := 4294967287) dX7_readPart_270 (by decide) ?_
                  refine V_icmp_eq (tgt := 285) (by omega) (by omega) dX7_readPart_272 rfl (fun h_272 => ?_) (fun h_272 => ?_)
                  · refine V_iload_n (i := 3) dX7_readPart_285 rfl rfl ?_
                    refine V_bipush (v := 4294967287) dX7_readPart_286 (by decide) ?_
                    refine V_icmp_eq (tgt := 295) (by omega) (by omega) dX7_readPart_288 rfl (fun h_288 => ?_) (fun h_288 => ?_)
                    · refine V_iconst (v := 0) dX7_readPart_295 rfl ?_
                      refine V_zret hR dX7_readPart_296 (by first | exact Or.inl rfl | exact Or.inr rfl | omega) hkc hks ?_
                      unfold rPt
                      first | (exfalso; omega) | (rw [if_neg (b00 h_21), if_neg (show ¬ tx (z 2) = 64 by omega), if_neg (show ¬ tx (z 2) = 111 by omega), if_pos (show tx (z 2) = 115 by omega), if_pos h_223]; exact ⟨rfl, rfl⟩) | (rw [if_neg (b00 h_21), if_neg (show ¬ tx (z 2) = 64 by omega), if_neg (show ¬ tx (z 2) = 111 by omega), if_pos (show tx (z 2) = 115 by omega), if_neg h_223, if_neg h_236, if_pos h_272]; exact ⟨rfl, rfl⟩) | (rw [if_neg (b00 h_21), if_neg (show ¬ tx (z 2) = 64 by omega), if_neg (show ¬ tx (z 2) = 111 by omega), if_pos (show tx (z 2) = 115 by omega), if_neg h_223, if_neg h_236, if_neg h_272]; exact ⟨rfl, rfl⟩)
                    · refine V_iconst (v := 1) dX7_readPart_291 rfl ?_
                      refine V_goto (tgt := 296) dX7_readPart_292 rfl ?_
                      refine V_zret hR dX7_readPart_296 (by first | exact Or.inl rfl | exact Or.inr rfl | omega) hkc hks ?_
                      unfold rPt
                      first | (exfalso; omega) | (rw [if_neg (b00 h_21), if_neg (show ¬ tx (z 2) = 64 by omega), if_neg (show ¬ tx (z 2) = 111 by omega), if_pos (show tx (z 2) = 115 by omega), if_pos h_223]; exact ⟨rfl, rfl⟩) | (rw [if_neg (b00 h_21), if_neg (show ¬ tx (z 2) = 64 by omega), if_neg (show ¬ tx (z 2) = 111 by omega), if_pos (show tx (z 2) = 115 by omega), if_neg h_223, if_neg h_236, if_pos h_272]; exact ⟨rfl, rfl⟩) | (rw [if_neg (b00 h_21), if_neg (show ¬ tx (z 2) = 64 by omega), if_neg (show ¬ tx (z 2) = 111 by omega), if_pos (show tx (z 2) = 115 by omega), if_neg h_223, if_neg h_236, if_neg h_272]; exact ⟨rfl, rfl⟩)
                  · refine V_aload_n (i := 0) dX7_readPart_275 rfl rfl ?_
                    refine V_get (C := RX7) (T := TX7) (N := 17) (ci := 6) (q := 0) (ref := "OrderChainsModel") 4 rfl il_X7_readPart_X7 rfl rfl fl_X7_readPart_13 rfl rfl dX7_readPart_276 ?_
                    refine V_iload_n (i := 2) dX7_readPart_279 rfl rfl ?_
                    refine V_iload_n (i := 3) dX7_readPart_280 rfl rfl ?_
                    refine V_iconst (v := 1) dX7_readPart_281 rfl ?_
                    refine V_callS (As := _) (rest := []) [2] (c_X7_begin l G (B 2) r (rDg 2 (va_up z 2 (z 2 + 1)) tx).1 (rTw 95 (rDg 2 (va_up z 2 (z 2 + 1)) tx).2 tx).1 1 (by omega)) vy_X7_begin gX7_readPart_X7_begin rfl rfl rfl rfl ⟨rfl, rfl⟩ ⟨rfl, rfl⟩ ⟨Nat.zero_le _, Nat.zero_le _⟩ rfl dX7_readPart_282 (fun v Y hE => ?_)
                    obtain ⟨rfl, rfl⟩ := hE
                    refine ⟨rfl, ?_⟩
                    dsimp only [vfill, List.set_cons_zero, List.set_cons_succ, Option.toList, List.cons_append, List.nil_append, Nat.add_zero]
                    refine V_iload_n (i := 3) dX7_readPart_285 rfl rfl ?_
                    refine V_bipush (v := 4294967287) dX7_readPart_286 (by decide) ?_
                    refine V_icmp_eq (tgt := 295) (by omega) (by omega) dX7_readPart_288 rfl (fun h_288 => ?_) (fun h_288 => ?_)
                    · refine V_iconst (v := 0) dX7_readPart_295 rfl ?_
                      refine V_zret hR dX7_readPart_296 (by first | exact Or.inl rfl | exact Or.inr rfl | omega) hkc hks ?_
                      unfold rPt
                      first | (exfalso; omega) | (rw [if_neg (b00 h_21), if_neg (show ¬ tx (z 2) = 64 by omega), if_neg (show ¬ tx (z 2) = 111 by omega), if_pos (show tx (z 2) = 115 by omega), if_pos h_223]; exact ⟨rfl, rfl⟩) | (rw [if_neg (b00 h_21), if_neg (show ¬ tx (z 2) = 64 by omega), if_neg (show ¬ tx (z 2) = 111 by omega), if_pos (show tx (z 2) = 115 by omega), if_neg h_223, if_neg h_236, if_pos h_272]; exact ⟨rfl, rfl⟩) | (rw [if_neg (b00 h_21), if_neg (show ¬ tx (z 2) = 64 by omega), if_neg (show ¬ tx (z 2) = 111 by omega), if_pos (show tx (z 2) = 115 by omega), if_neg h_223, if_neg h_236, if_neg h_272]; exact ⟨rfl, rfl⟩)
                    · refine V_iconst (v := 1) dX7_readPart_291 rfl ?_
                      refine V_goto (tgt := 296) dX7_readPart_292 rfl ?_
                      refine V_zret hR dX7_readPart_296 (by first | exact Or.inl rfl | exact Or.inr rfl | omega) hkc hks ?_
                      unfold rPt
                      first | (exfalso; omega) | (rw [if_neg (b00 h_21), if_neg (show ¬ tx (z 2) = 64 by omega), if_neg (show ¬ tx (z 2) = 111 by omega), if_pos (show tx (z 2) = 115 by omega), if_pos h_223]; exact ⟨rfl, rfl⟩) | (rw [if_neg (b00 h_21), if_neg (show ¬ tx (z 2) = 64 by omega), if_neg (show ¬ tx (z 2) = 111 by omega), if_pos (show tx (z 2) = 115 by omega), if_neg h_223, if_neg h_236, if_pos h_272]; exact ⟨rfl, rfl⟩) | (rw [if_neg (b00 h_21), if_neg (show ¬ tx (z 2) = 64 by omega), if_neg (show ¬ tx (z 2) = 111 by omega), if_pos (show tx (z 2) = 115 by omega), if_neg h_223, if_neg h_236, if_neg h_272]; exact ⟨rfl, rfl⟩)
                · refine V_bipush (v := 4294967287) dX7_readPart_257 (by decide) ?_
                  refine V_goto (tgt := 268) dX7_readPart_259 rfl ?_
                  have w8 := rTw_lt (hi := 95) (z := (rDg 2 (va_up z 2 (z 2 + 1)) tx).2) (tx := tx) (by decide)
                  refine V_istore_n (i := 3) dX7_readPart_268 rfl rfl rfl ?_
                  dsimp only [List.set_cons_zero, List.set_cons_succ]
                  refine V_iload_n (i := 3) dX7_readPart_269 rfl rfl ?_
                  refine V_bipush (v := 4294967287) dX7_readPart_270 (by decide) ?_
                  refine V_icmp_eq (tgt := 285) (by omega) (by omega) dX7_readPart_272 rfl (fun h_272 => ?_) (fun h_272 => ?_)
                  · refine V_iload_n (i := 3) dX7_readPart_285 rfl rfl ?_
                    refine V_bipush (v := 4294967287) dX7_readPart_286 (by decide) ?_
                    refine V_icmp_eq (tgt := 295) (by omega) (by omega) dX7_readPart_288 rfl (fun h_288 => ?_) (fun h_288 => ?_)
                    · refine V_iconst (v := 0) dX7_readPart_295 rfl ?_
                      refine V_zret hR dX7_readPart_296 (by first | exact Or.inl rfl | exact Or.inr rfl | omega) hkc hks ?_
                      unfold rPt
                      first | (exfalso; omega) | (rw [if_neg (b00 h_21), if_neg (show ¬ tx (z 2) = 64 by omega), if_neg (show ¬ tx (z 2) = 111 by omega), if_pos (show tx (z 2) = 115 by omega), if_pos h_223]; exact ⟨rfl, rfl⟩) | (rw [if_neg (b00 h_21), if_neg (show ¬ tx (z 2) = 64 by omega), if_neg (show ¬ tx (z 2) = 111 by omega), if_pos (show tx (z 2) = 115 by omega), if_neg h_223, if_neg h_236, if_pos h_272]; exact ⟨rfl, rfl⟩) | (rw [if_neg (b00 h_21), if_neg (show ¬ tx (z 2) = 64 by omega), if_neg (show ¬ tx (z 2) = 111 by omega), if_pos (show tx (z 2) = 115 by omega), if_neg h_223, if_neg h_236, if_neg h_272]; exact ⟨rfl, rfl⟩)
                    · exfalso; omega
                  · exfalso; omega
              · refine V_aload_n (i := 0) dX7_readPart_226 rfl rfl ?_
                refine V_get (C := RX7) (T := TX7) (N := 17) (ci := 6) (q := 0) (ref := "OrderChainsModel") 4 rfl il_X7_readPart_X7 rfl rfl fl_X7_readPart_13 rfl rfl dX7_readPart_227 ?_
                refine V_iload_n (i := 2) dX7_readPart_230 rfl rfl ?_
                refine V_callS (As := _) (rest := _) [] (c_X7_at l G ((rDg 2 (va_up z 2 (z 2 + 1)) tx).1)) vy_X7_at gX7_readPart_X7_at rfl rfl rfl rfl ⟨rfl, rfl⟩ ⟨rfl, rfl⟩ ⟨Nat.zero_le _, Nat.zero_le _⟩ rfl dX7_readPart_231 (fun v Y hE => ?_)
                obtain ⟨rfl, rfl⟩ := hE
                refine ⟨rfl, ?_⟩
                dsimp only [vfill, List.set_cons_zero, List.set_cons_succ, Option.toList, List.cons_append, List.nil_append, Nat.add_zero]
                refine V_iald (q := 2) rfl (by omega) rfl dX7_readPart_234 ?_
                refine V_iconst (v := 1) dX7_readPart_235 rfl ?_
                refine V_icmp_ne (tgt := 251) (by have := hs (rDg 2 (va_up z 2 (z 2 + 1)) tx).1 (by omega); omega) (by omega) dX7_readPart_236 rfl (fun h_236 => ?_) (fun h_236 => ?_)
                · refine V_iload_n (i := 2) dX7_readPart_251 rfl rfl ?_
                  refine V_bipush (v := 4294967287) dX7_readPart_252 (by decide) ?_
                  refine V_icmp_ne (tgt := 262) (by omega) (by omega) dX7_readPart_254 rfl (fun h_254 => ?_) (fun h_254 => ?_)
                  · refine V_aload_n (i := 0) dX7_readPart_262 rfl rfl ?_
                    refine V_bipush (v := 95) dX7_readPart_263 (by decide) ?_
                    refine V_callV (C := RX7) (q := 0) (ci := 6) (As := _) (rest := []) [0, 1] (c_X7_two l G B (rDg 2 (va_up z 2 (z 2 + 1)) tx).2 tx 95 (by decide) (by rw [rDg_1]; exact h1) (rDg_2 (z := (va_up z 2 (z 2 + 1))) (show z 1 ≤ 140 from h1) (show z 2 + 1 ≤ 140 by omega)) ht) vy_X7_two gX7_readPart_X7_two rfl rfl rfl rfl rfl rfl rfl ⟨rfl, rfl⟩ ⟨rfl, rfl⟩ ⟨Nat.zero_le _, Nat.zero_le _⟩ rfl dX7_readPart_265 (fun v Y hE => ?_)
                    obtain ⟨rfl, rfl⟩ := hE
                    refine ⟨rfl, ?_⟩
                    dsimp only [vfill, List.set_cons_zero, List.set_cons_succ, Option.toList, List.cons_append, List.nil_append, Nat.add_zero]
                    have w8 := rTw_lt (hi := 95) (z := (rDg 2 (va_up z 2 (z 2 + 1)) tx).2) (tx := tx) (by decide)
                    refine V_istore_n (i := 3) dX7_readPart_268 rfl rfl rfl ?_
                    dsimp only [List.set_cons_zero, List.set_cons_succ]
                    refine V_iload_n (i := 3) dX7_readPart_269 rfl rfl ?_
                    refine V_bipush (v := 4294967287) dX7_readPart_270 (by decide) ?_
                    refine V_icmp_eq (tgt := 285) (by omega) (by omega) dX7_readPart_272 rfl (fun h_272 => ?_) (fun h_272 => ?_)
                    · refine V_iload_n (i := 3) dX7_readPart_285 rfl rfl ?_
                      refine V_bipush (v := 4294967287) dX7_readPart_286 (by decide) ?_
                      refine V_icmp_eq (tgt := 295) (by omega) (by omega) dX7_readPart_288 rfl (fun h_288 => ?_) (fun h_288 => ?_)
                      · refine V_iconst (v := 0) dX7_readPart_295 rfl ?_
                        refine V_zret hR dX7_readPart_296 (by first | exact Or.inl rfl | exact Or.inr rfl | omega) hkc hks ?_
                        unfold rPt
                        first | (exfalso; omega) | (rw [if_neg (b00 h_21), if_neg (show ¬ tx (z 2) = 64 by omega), if_neg (show ¬ tx (z 2) = 111 by omega), if_pos (show tx (z 2) = 115 by omega), if_pos h_223]; exact ⟨rfl, rfl⟩) | (rw [if_neg (b00 h_21), if_neg (show ¬ tx (z 2) = 64 by omega), if_neg (show ¬ tx (z 2) = 111 by omega), if_pos (show tx (z 2) = 115 by omega), if_neg h_223, if_neg h_236, if_pos h_272]; exact ⟨rfl, rfl⟩) | (rw [if_neg (b00 h_21), if_neg (show ¬ tx (z 2) = 64 by omega), if_neg (show ¬ tx (z 2) = 111 by omega), if_pos (show tx (z 2) = 115 by omega), if_neg h_223, if_neg h_236, if_neg h_272]; exact ⟨rfl, rfl⟩)
                      · refine V_iconst (v := 1) dX7_readPart_291 rfl ?_
                        refine V_goto (tgt := 296) dX7_readPart_292 rfl ?_
                        refine V_zret hR dX7_readPart_296 (by first | exact Or.inl rfl | exact Or.inr rfl | omega) hkc hks ?_
                        unfold rPt
                        first | (exfalso; omega) | (rw [if_neg (b00 h_21), if_neg (show ¬ tx (z 2) = 64 by omega), if_neg (show ¬ tx (z 2) = 111 by omega), if_pos (show tx (z 2) = 115 by omega), if_pos h_223]; exact ⟨rfl, rfl⟩) | (rw [if_neg (b00 h_21), if_neg (show ¬ tx (z 2) = 64 by omega), if_neg (show ¬ tx (z 2) = 111 by omega), if_pos (show tx (z 2) = 115 by omega), if_neg h_223, if_neg h_236, if_pos h_272]; exact ⟨rfl, rfl⟩) | (rw [if_neg (b00 h_21), if_neg (show ¬ tx (z 2) = 64 by omega), if_neg (show ¬ tx (z 2) = 111 by omega), if_pos (show tx (z 2) = 115 by omega), if_neg h_223, if_neg h_236, if_neg h_272]; exact ⟨rfl, rfl⟩)
                    · refine V_aload_n (i := 0) dX7_readPart_275 rfl rfl ?_
                      refine V_get (C := RX7) (T := TX7) (N := 17) (ci := 6) (q := 0) (ref := "OrderChainsModel") 4 rfl il_X7_readPart_X7 rfl rfl fl_X7_readPart_13 rfl rfl dX7_readPart_276 ?_
                      refine V_iload_n (i := 2) dX7_readPart_279 rfl rfl ?_
                      refine V_iload_n (i := 3) dX7_readPart_280 rfl rfl ?_
                      refine V_iconst (v := 1) dX7_readPart_281 rfl ?_
                      refine V_callS (As := _) (rest := []) [2] (c_X7_begin l G (B 2) r (rDg 2 (va_up z 2 (z 2 + 1)) tx).1 (rTw 95 (rDg 2 (va_up z 2 (z 2 + 1)) tx).2 tx).1 1 (by omega)) vy_X7_begin gX7_readPart_X7_begin rfl rfl rfl rfl ⟨rfl, rfl⟩ ⟨rfl, rfl⟩ ⟨Nat.zero_le _, Nat.zero_le _⟩ rfl dX7_readPart_282 (fun v Y hE => ?_)
                      obtain ⟨rfl, rfl⟩ := hE
                      refine ⟨rfl, ?_⟩
                      dsimp only [vfill, List.set_cons_zero, List.set_cons_succ, Option.toList, List.cons_append, List.nil_append, Nat.add_zero]
                      refine V_iload_n (i := 3) dX7_readPart_285 rfl rfl ?_
                      refine V_bipush (v := 4294967287) dX7_readPart_286 (by decide) ?_
                      refine V_icmp_eq (tgt := 295) (by omega) (by omega) dX7_readPart_288 rfl (fun h_288 => ?_) (fun h_288 => ?_)
                      · refine V_iconst (v := 0) dX7_readPart_295 rfl ?_
                        refine V_zret hR dX7_readPart_296 (by first | exact Or.inl rfl | exact Or.inr rfl | omega) hkc hks ?_
                        unfold rPt
                        first | (exfalso; omega) | (rw [if_neg (b00 h_21), if_neg (show ¬ tx (z 2) = 64 by omega), if_neg (show ¬ tx (z 2) = 111 by omega), if_pos (show tx (z 2) = 115 by omega), if_pos h_223]; exact ⟨rfl, rfl⟩) | (rw [if_neg (b00 h_21), if_neg (show ¬ tx (z 2) = 64 by omega), if_neg (show ¬ tx (z 2) = 111 by omega), if_pos (show tx (z 2) = 115 by omega), if_neg h_223, if_neg h_236, if_pos h_272]; exact ⟨rfl, rfl⟩) | (rw [if_neg (b00 h_21), if_neg (show ¬ tx (z 2) = 64 by omega), if_neg (show ¬ tx (z 2) = 111 by omega), if_pos (show tx (z 2) = 115 by omega), if_neg h_223, if_neg h_236, if_neg h_272]; exact ⟨rfl, rfl⟩)
                      · refine V_iconst (v := 1) dX7_readPart_291 rfl ?_
                        refine V_goto (tgt := 296) dX7_readPart_292 rfl ?_
                        refine V_zret hR dX7_readPart_296 (by first | exact Or.inl rfl | exact Or.inr rfl | omega) hkc hks ?_
                        unfold rPt
                        first | (exfalso; omega) | (rw [if_neg (b00 h_21), if_neg (show ¬ tx (z 2) = 64 by omega), if_neg (show ¬ tx (z 2) = 111 by omega), if_pos (show tx (z 2) = 115 by omega), if_pos h_223]; exact ⟨rfl, rfl⟩) | (rw [if_neg (b00 h_21), if_neg (show ¬ tx (z 2) = 64 by omega), if_neg (show ¬ tx (z 2) = 111 by omega), if_pos (show tx (z 2) = 115 by omega), if_neg h_223, if_neg h_236, if_pos h_272]; exact ⟨rfl, rfl⟩) | (rw [if_neg (b00 h_21), if_neg (show ¬ tx (z 2) = 64 by omega), if_neg (show ¬ tx (z 2) = 111 by omega), if_pos (show tx (z 2) = 115 by omega), if_neg h_223, if_neg h_236, if_neg h_272]; exact ⟨rfl, rfl⟩)
                  · refine V_bipush (v := 4294967287) dX7_readPart_257 (by decide) ?_
                    refine V_goto (tgt := 268) dX7_readPart_259 rfl ?_
                    have w8 := rTw_lt (hi := 95) (z := (rDg 2 (va_up z 2 (z 2 + 1)) tx).2) (tx := tx) (by decide)
                    refine V_istore_n (i := 3) dX7_readPart_268 rfl rfl rfl ?_
                    dsimp only [List.set_cons_zero, List.set_cons_succ]
                    refine V_iload_n (i := 3) dX7_readPart_269 rfl rfl ?_
                    refine V_bipush (v := 4294967287) dX7_readPart_270 (by decide) ?_
                    refine V_icmp_eq (tgt := 285) (by omega) (by omega) dX7_readPart_272 rfl (fun h_272 => ?_) (fun h_272 => ?_)
                    · refine V_iload_n (i := 3) dX7_readPart_285 rfl rfl ?_
                      refine V_bipush (v := 4294967287) dX7_readPart_286 (by decide) ?_
                      refine V_icmp_eq (tgt := 295) (by omega) (by omega) dX7_readPart_288 rfl (fun h_288 => ?_) (fun h_288 => ?_)
                      · refine V_iconst (v := 0) dX7_readPart_295 rfl ?_
                        refine V_zret hR dX7_readPart_296 (by first | exact Or.inl rfl | exact Or.inr rfl | omega) hkc hks ?_
                        unfold rPt
                        first | (exfalso; omega) | (rw [if_neg (b00 h_21), if_neg (show ¬ tx (z 2) = 64 by omega), if_neg (show ¬ tx (z 2) = 111 by omega), if_pos (show tx (z 2) = 115 by omega), if_pos h_223]; exact ⟨rfl, rfl⟩) | (rw [if_neg (b00 h_21), if_neg (show ¬ tx (z 2) = 64 by omega), if_neg (show ¬ tx (z 2) = 111 by omega), if_pos (show tx (z 2) = 115 by omega), if_neg h_223, if_neg h_236, if_pos h_272]; exact ⟨rfl, rfl⟩) | (rw [if_neg (b00 h_21), if_neg (show ¬ tx (z 2) = 64 by omega), if_neg (show ¬ tx (z 2) = 111 by omega), if_pos (show tx (z 2) = 115 by omega), if_neg h_223, if_neg h_236, if_neg h_272]; exact ⟨rfl, rfl⟩)
                      · exfalso; omega
                    · exfalso; omega
                · refine V_aload_n (i := 0) dX7_readPart_239 rfl rfl ?_
                  refine V_dup dX7_readPart_240 rfl ?_
                  refine V_get (C := RX7) (T := TX7) (N := 17) (ci := 6) (q := 0) (ref := "OrderChainsModel") 3 rfl il_X7_readPart_X7 rfl rfl fl_X7_readPart_106 rfl rfl dX7_readPart_241 ?_
                  refine V_iconst (v := 1) dX7_readPart_244 rfl ?_
                  refine V_isub dX7_readPart_245 (Nat.le_trans (show 1 ≤ z 2 + 1 by omega) (rDg_ge 2 (va_up z 2 (z 2 + 1)) tx)) ?_
                  refine V_put (C := RX7) (T := TX7) (N := 17) (ci := 6) (q := 0) (ref := "OrderChainsModel") (ty := .int) (ty0 := tyX7) 3 rfl il_X7_readPart_X7 tyX7_ok nmX7 rfl rfl fl_X7_readPart_106 rfl rfl rfl rfl rfl rfl dX7_readPart_246 ?_
                  dsimp only [List.set_cons_zero, List.set_cons_succ]
                  refine V_iconst (v := 0) dX7_readPart_249 rfl ?_
                  refine V_zret hR dX7_readPart_250 (by first | exact Or.inl rfl | exact Or.inr rfl | omega) hkc hks ?_
                  unfold rPt
                  first | (exfalso; omega) | (rw [if_neg (b00 h_21), if_neg (show ¬ tx (z 2) = 64 by omega), if_neg (show ¬ tx (z 2) = 111 by omega), if_pos (show tx (z 2) = 115 by omega), if_neg h_223, if_pos h_236]; exact ⟨rfl, rfl⟩)
            · refine V_aload_n (i := 0) dX7_readPart_178 rfl rfl ?_
              refine V_iconst (v := 3) dX7_readPart_179 rfl ?_
              refine V_callV (C := RX7) (q := 0) (ci := 6) (As := _) (rest := []) [0, 1] (c_X7_digit l G B (va_up z 2 (z 2 + 1)) tx 3 (by decide) (show z 1 ≤ 140 from h1) (show z 2 + 1 ≤ 140 by omega) ht) vy_X7_digit gX7_readPart_X7_digit rfl rfl rfl rfl rfl rfl rfl ⟨rfl, rfl⟩ ⟨rfl, rfl⟩ ⟨Nat.zero_le _, Nat.zero_le _⟩ rfl dX7_readPart_180 (fun v Y hE => ?_)
              obtain ⟨rfl, rfl⟩ := hE
              refine ⟨rfl, ?_⟩
              dsimp only [vfill, List.set_cons_zero, List.set_cons_succ, Option.toList, List.cons_append, List.nil_append, Nat.add_zero]
              have w9 := rDg_lt (hi := 3) (z := (va_up z 2 (z 2 + 1))) (tx := tx) (by decide)
              refine V_istore_n (i := 2) dX7_readPart_183 rfl rfl rfl ?_
              dsimp only [List.set_cons_zero, List.set_cons_succ]
              refine V_aload_n (i := 0) dX7_readPart_184 rfl rfl ?_
              refine V_iload_n (i := 2) dX7_readPart_185 rfl rfl ?_
              refine V_bipush (v := 4294967287) dX7_readPart_186 (by decide) ?_
              refine V_icmp_ne (tgt := 198) (by omega) (by omega) dX7_readPart_188 rfl (fun h_188 => ?_) (fun h_188 => ?_)
              · refine V_iload_n (i := 2) dX7_readPart_198 rfl rfl ?_
                refine V_put (C := RX7) (T := TX7) (N := 17) (ci := 6) (q := 0) (ref := "OrderChainsModel") (ty := .int) (ty0 := tyX7) 15 rfl il_X7_readPart_X7 tyX7_ok nmX7 rfl rfl fl_X7_readPart_122 rfl rfl rfl rfl rfl rfl dX7_readPart_199 ?_
                dsimp only [List.set_cons_zero, List.set_cons_succ]
                refine V_iload_n (i := 2) dX7_readPart_202 rfl rfl ?_
                refine V_bipush (v := 4294967287) dX7_readPart_203 (by decide) ?_
                refine V_icmp_eq (tgt := 212) (by omega) (by omega) dX7_readPart_205 rfl (fun h_205 => ?_) (fun h_205 => ?_)
                · refine V_iconst (v := 0) dX7_readPart_212 rfl ?_
                  refine V_zret hR dX7_readPart_213 (by first | exact Or.inl rfl | exact Or.inr rfl | omega) hkc hks ?_
                  unfold rPt
                  first | (exfalso; omega) | (rw [if_neg (b00 h_21), if_neg (show ¬ tx (z 2) = 64 by omega), if_pos (show tx (z 2) = 111 by omega), if_pos h_188]; exact ⟨rfl, rfl⟩) | (rw [if_neg (b00 h_21), if_neg (show ¬ tx (z 2) = 64 by omega), if_pos (show tx (z 2) = 111 by omega), if_neg h_188]; exact ⟨rfl, rfl⟩)
                · refine V_iconst (v := 1) dX7_readPart_208 rfl ?_
                  refine V_goto (tgt := 213) dX7_readPart_209 rfl ?_
                  refine V_zret hR dX7_readPart_213 (by first | exact Or.inl rfl | exact Or.inr rfl | omega) hkc hks ?_
                  unfold rPt
                  first | (exfalso; omega) | (rw [if_neg (b00 h_21), if_neg (show ¬ tx (z 2) = 64 by omega), if_pos (show tx (z 2) = 111 by omega), if_pos h_188]; exact ⟨rfl, rfl⟩) | (rw [if_neg (b00 h_21), if_neg (show ¬ tx (z 2) = 64 by omega), if_pos (show tx (z 2) = 111 by omega), if_neg h_188]; exact ⟨rfl, rfl⟩)
              · refine V_aload_n (i := 0) dX7_readPart_191 rfl rfl ?_
                refine V_get (C := RX7) (T := TX7) (N := 17) (ci := 6) (q := 0) (ref := "OrderChainsModel") 15 rfl il_X7_readPart_X7 rfl rfl fl_X7_readPart_122 rfl rfl dX7_readPart_192 ?_
                refine V_goto (tgt := 199) dX7_readPart_195 rfl ?_
                refine V_put (C := RX7) (T := TX7) (N := 17) (ci := 6) (q := 0) (ref := "OrderChainsModel") (ty := .int) (ty0 := tyX7) 15 rfl il_X7_readPart_X7 tyX7_ok nmX7 rfl rfl fl_X7_readPart_122 rfl rfl rfl rfl rfl rfl dX7_readPart_199 ?_
                dsimp only [List.set_cons_zero, List.set_cons_succ]
                refine V_iload_n (i := 2) dX7_readPart_202 rfl rfl ?_
                refine V_bipush (v := 4294967287) dX7_readPart_203 (by decide) ?_
                refine V_icmp_eq (tgt := 212) (by omega) (by omega) dX7_readPart_205 rfl (fun h_205 => ?_) (fun h_205 => ?_)
                · refine V_iconst (v := 0) dX7_readPart_212 rfl ?_
                  refine V_zret hR dX7_readPart_213 (by first | exact Or.inl rfl | exact Or.inr rfl | omega) hkc hks ?_
                  unfold rPt
                  first | (exfalso; omega) | (rw [if_neg (b00 h_21), if_neg (show ¬ tx (z 2) = 64 by omega), if_pos (show tx (z 2) = 111 by omega), if_pos h_188]; exact ⟨rfl, rfl⟩) | (rw [if_neg (b00 h_21), if_neg (show ¬ tx (z 2) = 64 by omega), if_pos (show tx (z 2) = 111 by omega), if_neg h_188]; exact ⟨rfl, rfl⟩)
                · refine V_iconst (v := 1) dX7_readPart_208 rfl ?_
                  refine V_goto (tgt := 213) dX7_readPart_209 rfl ?_
                  refine V_zret hR dX7_readPart_213 (by first | exact Or.inl rfl | exact Or.inr rfl | omega) hkc hks ?_
                  unfold rPt
                  first | (exfalso; omega) | (rw [if_neg (b00 h_21), if_neg (show ¬ tx (z 2) = 64 by omega), if_pos (show tx (z 2) = 111 by omega), if_pos h_188]; exact ⟨rfl, rfl⟩) | (rw [if_neg (b00 h_21), if_neg (show ¬ tx (z 2) = 64 by omega), if_pos (show tx (z 2) = 111 by omega), if_neg h_188]; exact ⟨rfl, rfl⟩)
          · refine V_aload_n (i := 0) dX7_readPart_135 rfl rfl ?_
            refine V_bipush (v := 95) dX7_readPart_136 (by decide) ?_
            refine V_callV (C := RX7) (q := 0) (ci := 6) (As := _) (rest := []) [0, 1] (c_X7_two l G B (va_up z 2 (z 2 + 1)) tx 95 (by decide) (show z 1 ≤ 140 from h1) (show z 2 + 1 ≤ 140 by omega) ht) vy_X7_two gX7_readPart_X7_two rfl rfl rfl rfl rfl rfl rfl ⟨rfl, rfl⟩ ⟨rfl, rfl⟩ ⟨Nat.zero_le _, Nat.zero_le _⟩ rfl dX7_readPart_138 (fun v Y hE => ?_)
            obtain ⟨rfl, rfl⟩ := hE
            refine ⟨rfl, ?_⟩
            dsimp only [vfill, List.set_cons_zero, List.set_cons_succ, Option.toList, List.cons_append, List.nil_append, Nat.add_zero]
            have w9 := rTw_lt (hi := 95) (z := (va_up z 2 (z 2 + 1))) (tx := tx) (by decide)
            refine V_istore_n (i := 2) dX7_readPart_141 rfl rfl rfl ?_
            dsimp only [List.set_cons_zero, List.set_cons_succ]
            refine V_aload_n (i := 0) dX7_readPart_142 rfl rfl ?_
            refine V_iload_n (i := 2) dX7_readPart_143 rfl rfl ?_
            refine V_bipush (v := 4294967287) dX7_readPart_144 (by decide) ?_
            refine V_icmp_ne (tgt := 156) (by omega) (by omega) dX7_readPart_146 rfl (fun h_146 => ?_) (fun h_146 => ?_)
            · refine V_iload_n (i := 2) dX7_readPart_156 rfl rfl ?_
              refine V_put (C := RX7) (T := TX7) (N := 17) (ci := 6) (q := 0) (ref := "OrderChainsModel") (ty := .int) (ty0 := tyX7) 14 rfl il_X7_readPart_X7 tyX7_ok nmX7 rfl rfl fl_X7_readPart_116 rfl rfl rfl rfl rfl rfl dX7_readPart_157 ?_
              dsimp only [List.set_cons_zero, List.set_cons_succ]
              refine V_iload_n (i := 2) dX7_readPart_160 rfl rfl ?_
              refine V_bipush (v := 4294967287) dX7_readPart_161 (by decide) ?_
              refine V_icmp_eq (tgt := 170) (by omega) (by omega) dX7_readPart_163 rfl (fun h_163 => ?_) (fun h_163 => ?_)
              · refine V_iconst (v := 0) dX7_readPart_170 rfl ?_
                refine V_zret hR dX7_readPart_171 (by first | exact Or.inl rfl | exact Or.inr rfl | omega) hkc hks ?_
                unfold rPt
                first | (exfalso; omega) | (rw [if_neg (b00 h_21), if_pos (show tx (z 2) = 64 by omega), if_pos h_146]; exact ⟨rfl, rfl⟩) | (rw [if_neg (b00 h_21), if_pos (show tx (z 2) = 64 by omega), if_neg h_146]; exact ⟨rfl, rfl⟩)
              · refine V_iconst (v := 1) dX7_readPart_166 rfl ?_
                refine V_goto (tgt := 171) dX7_readPart_167 rfl ?_
                refine V_zret hR dX7_readPart_171 (by first | exact Or.inl rfl | exact Or.inr rfl | omega) hkc hks ?_
                unfold rPt
                first | (exfalso; omega) | (rw [if_neg (b00 h_21), if_pos (show tx (z 2) = 64 by omega), if_pos h_146]; exact ⟨rfl, rfl⟩) | (rw [if_neg (b00 h_21), if_pos (show tx (z 2) = 64 by omega), if_neg h_146]; exact ⟨rfl, rfl⟩)
            · refine V_aload_n (i := 0) dX7_readPart_149 rfl rfl ?_
              refine V_get (C := RX7) (T := TX7) (N := 17) (ci := 6) (q := 0) (ref := "OrderChainsModel") 14 rfl il_X7_readPart_X7 rfl rfl fl_X7_readPart_116 rfl rfl dX7_readPart_150 ?_
              refine V_goto (tgt := 157) dX7_readPart_153 rfl ?_
              refine V_put (C := RX7) (T := TX7) (N := 17) (ci := 6) (q := 0) (ref := "OrderChainsModel") (ty := .int) (ty0 := tyX7) 14 rfl il_X7_readPart_X7 tyX7_ok nmX7 rfl rfl fl_X7_readPart_116 rfl rfl rfl rfl rfl rfl dX7_readPart_157 ?_
              dsimp only [List.set_cons_zero, List.set_cons_succ]
              refine V_iload_n (i := 2) dX7_readPart_160 rfl rfl ?_
              refine V_bipush (v := 4294967287) dX7_readPart_161 (by decide) ?_
              refine V_icmp_eq (tgt := 170) (by omega) (by omega) dX7_readPart_163 rfl (fun h_163 => ?_) (fun h_163 => ?_)
              · refine V_iconst (v := 0) dX7_readPart_170 rfl ?_
                refine V_zret hR dX7_readPart_171 (by first | exact Or.inl rfl | exact Or.inr rfl | omega) hkc hks ?_
                unfold rPt
                first | (exfalso; omega) | (rw [if_neg (b00 h_21), if_pos (show tx (z 2) = 64 by omega), if_pos h_146]; exact ⟨rfl, rfl⟩) | (rw [if_neg (b00 h_21), if_pos (show tx (z 2) = 64 by omega), if_neg h_146]; exact ⟨rfl, rfl⟩)
              · refine V_iconst (v := 1) dX7_readPart_166 rfl ?_
                refine V_goto (tgt := 171) dX7_readPart_167 rfl ?_
                refine V_zret hR dX7_readPart_171 (by first | exact Or.inl rfl | exact Or.inr rfl | omega) hkc hks ?_
                unfold rPt
                first | (exfalso; omega) | (rw [if_neg (b00 h_21), if_pos (show tx (z 2) = 64 by omega), if_pos h_146]; exact ⟨rfl, rfl⟩) | (rw [if_neg (b00 h_21), if_pos (show tx (z 2) = 64 by omega), if_neg h_146]; exact ⟨rfl, rfl⟩)
        · refine V_iconst (v := 0) dX7_readPart_117 rfl ?_
          refine V_zret hR dX7_readPart_118 (by first | exact Or.inl rfl | exact Or.inr rfl | omega) hkc hks ?_
          unfold rPt
          first | (exfalso; omega) | (rw [if_neg (b00 h_21), if_neg (show ¬ tx (z 2) = 64 by omega), if_neg (show ¬ tx (z 2) = 111 by omega), if_neg (show ¬ tx (z 2) = 115 by omega)]; exact ⟨rfl, rfl⟩)
  · refine V_aload_n (i := 0) dX7_readPart_24 rfl rfl ?_
    refine V_get (C := RX7) (T := TX7) (N := 17) (ci := 6) (q := 0) (ref := "OrderChainsModel") 14 rfl il_X7_readPart_X7 rfl rfl fl_X7_readPart_116 rfl rfl dX7_readPart_25 ?_
    refine V_bipush (v := 96) dX7_readPart_28 (by decide) ?_
    refine V_icmp_ge (tgt := 42) (by omega) (by omega) dX7_readPart_30 rfl (fun h_30 => ?_) (fun h_30 => ?_)
    · refine V_bipush (v := 4294967287) dX7_readPart_42 (by decide) ?_
      refine V_istore_n (i := 2) dX7_readPart_44 rfl rfl rfl ?_
      dsimp only [List.set_cons_zero, List.set_cons_succ]
      refine V_iload_n (i := 2) dX7_readPart_45 rfl rfl ?_
      refine V_bipush (v := 4294967287) dX7_readPart_46 (by decide) ?_
      refine V_icmp_eq (tgt := 87) (by omega) (by omega) dX7_readPart_48 rfl (fun h_48 => ?_) (fun h_48 => ?_)
      · refine V_iload_n (i := 2) dX7_readPart_87 rfl rfl ?_
        refine V_bipush (v := 4294967287) dX7_readPart_88 (by decide) ?_
        refine V_icmp_eq (tgt := 97) (by omega) (by omega) dX7_readPart_90 rfl (fun h_90 => ?_) (fun h_90 => ?_)
        · refine V_iconst (v := 0) dX7_readPart_97 rfl ?_
          refine V_zret hR dX7_readPart_98 (by first | exact Or.inl rfl | exact Or.inr rfl | omega) hkc hks ?_
          unfold rPt
          first | (exfalso; omega) | (rw [if_pos (b01 h_21), if_pos (show z 6 < 96 by omega), if_pos h_48]; exact ⟨rfl, rfl⟩) | (rw [if_pos (b01 h_21), if_pos (show z 6 < 96 by omega), if_neg h_48]; exact ⟨rfl, rfl⟩) | (rw [if_pos (b01 h_21), if_neg (show ¬ z 6 < 96 by omega)]; exact ⟨rfl, rfl⟩)
        · exfalso; omega
      · exfalso; omega
    · refine V_aload_n (i := 0) dX7_readPart_33 rfl rfl ?_
      refine V_bipush (v := 99) dX7_readPart_34 (by decide) ?_
      refine V_callV (C := RX7) (q := 0) (ci := 6) (As := _) (rest := []) [0, 1] (c_X7_two l G B z tx 99 (by decide) h1 (by omega) ht) vy_X7_two gX7_readPart_X7_two rfl rfl rfl rfl rfl rfl rfl ⟨rfl, rfl⟩ ⟨rfl, rfl⟩ ⟨Nat.zero_le _, Nat.zero_le _⟩ rfl dX7_readPart_36 (fun v Y hE => ?_)
      obtain ⟨rfl, rfl⟩ := hE
      refine ⟨rfl, ?_⟩
      dsimp only [vfill, List.set_cons_zero, List.set_cons_succ, Option.toList, List.cons_append, List.nil_append, Nat.add_zero]
      have w9 := rTw_lt (hi := 99) (z := z) (tx := tx) (by decide)
      have o6 : (rTw 99 z tx).2 6 = z 6 := rTw_o (by decide)
      refine V_goto (tgt := 44) dX7_readPart_39 rfl ?_
      refine V_istore_n (i := 2) dX7_readPart_44 rfl rfl rfl ?_
      dsimp only [List.set_cons_zero, List.set_cons_succ]
      refine V_iload_n (i := 2) dX7_readPart_45 rfl rfl ?_
      refine V_bipush (v := 4294967287) dX7_readPart_46 (by decide) ?_
      refine V_icmp_eq (tgt := 87) (by omega) (by omega) dX7_readPart_48 rfl (fun h_48 => ?_) (fun h_48 => ?_)
      · refine V_iload_n (i := 2) dX7_readPart_87 rfl rfl ?_
        refine V_bipush (v := 4294967287) dX7_readPart_88 (by decide) ?_
        refine V_icmp_eq (tgt := 97) (by omega) (by omega) dX7_readPart_90 rfl (fun h_90 => ?_) (fun h_90 => ?_)
        · refine V_iconst (v := 0) dX7_readPart_97 rfl ?_
          refine V_zret hR dX7_readPart_98 (by first | exact Or.inl rfl | exact Or.inr rfl | omega) hkc hks ?_
          unfold rPt
          first | (exfalso; omega) | (rw [if_pos (b01 h_21), if_pos (show z 6 < 96 by omega), if_pos h_48]; exact ⟨rfl, rfl⟩) | (rw [if_pos (b01 h_21), if_pos (show z 6 < 96 by omega), if_neg h_48]; exact ⟨rfl, rfl⟩) | (rw [if_pos (b01 h_21), if_neg (show ¬ z 6 < 96 by omega)]; exact ⟨rfl, rfl⟩)
        · refine V_iconst (v := 1) dX7_readPart_93 rfl ?_
          refine V_goto (tgt := 98) dX7_readPart_94 rfl ?_
          refine V_zret hR dX7_readPart_98 (by first | exact Or.inl rfl | exact Or.inr rfl | omega) hkc hks ?_
          unfold rPt
          first | (exfalso; omega) | (rw [if_pos (b01 h_21), if_pos (show z 6 < 96 by omega), if_pos h_48]; exact ⟨rfl, rfl⟩) | (rw [if_pos (b01 h_21), if_pos (show z 6 < 96 by omega), if_neg h_48]; exact ⟨rfl, rfl⟩) | (rw [if_pos (b01 h_21), if_neg (show ¬ z 6 < 96 by omega)]; exact ⟨rfl, rfl⟩)
      · refine V_aload_n (i := 0) dX7_readPart_51 rfl rfl ?_
        refine V_get (C := RX7) (T := TX7) (N := 17) (ci := 6) (q := 0) (ref := "OrderChainsModel") 4 rfl il_X7_readPart_X7 rfl rfl fl_X7_readPart_13 rfl rfl dX7_readPart_52 ?_
        refine V_aload_n (i := 0) dX7_readPart_55 rfl rfl ?_
        refine V_get (C := RX7) (T := TX7) (N := 17) (ci := 6) (q := 0) (ref := "OrderChainsModel") 14 rfl il_X7_readPart_X7 rfl rfl fl_X7_readPart_116 rfl rfl dX7_readPart_56 ?_
        refine V_iload_n (i := 2) dX7_readPart_59 rfl rfl ?_
        refine V_iast (q := 2) rfl (by omega) rfl dX7_readPart_60 ?_
        dsimp only [List.set_cons_zero, List.set_cons_succ]
        refine V_aload_n (i := 0) dX7_readPart_61 rfl rfl ?_
        refine V_get (C := RX7) (T := TX7) (N := 17) (ci := 6) (q := 0) (ref := "OrderChainsModel") 4 rfl il_X7_readPart_X7 rfl rfl fl_X7_readPart_13 rfl rfl dX7_readPart_62 ?_
        refine V_bipush (v := 96) dX7_readPart_65 (by decide) ?_
        refine V_aload_n (i := 0) dX7_readPart_67 rfl rfl ?_
        refine V_get (C := RX7) (T := TX7) (N := 17) (ci := 6) (q := 0) (ref := "OrderChainsModel") 14 rfl il_X7_readPart_X7 rfl rfl fl_X7_readPart_116 rfl rfl dX7_readPart_68 ?_
        refine V_iadd dX7_readPart_71 ?_
        refine V_aload_n (i := 0) dX7_readPart_72 rfl rfl ?_
        refine V_get (C := RX7) (T := TX7) (N := 17) (ci := 6) (q := 0) (ref := "OrderChainsModel") 15 rfl il_X7_readPart_X7 rfl rfl fl_X7_readPart_122 rfl rfl dX7_readPart_73 ?_
        refine V_iast (q := 2) rfl (by omega) rfl dX7_readPart_76 ?_
        dsimp only [List.set_cons_zero, List.set_cons_succ]
        refine V_aload_n (i := 0) dX7_readPart_77 rfl rfl ?_
        refine V_dup dX7_readPart_78 rfl ?_
        refine V_get (C := RX7) (T := TX7) (N := 17) (ci := 6) (q := 0) (ref := "OrderChainsModel") 14 rfl il_X7_readPart_X7 rfl rfl fl_X7_readPart_116 rfl rfl dX7_readPart_79 ?_
        refine V_iconst (v := 1) dX7_readPart_82 rfl ?_
        refine V_iadd dX7_readPart_83 ?_
        refine V_put (C := RX7) (T := TX7) (N := 17) (ci := 6) (q := 0) (ref := "OrderChainsModel") (ty := .int) (ty0 := tyX7) 14 rfl il_X7_readPart_X7 tyX7_ok nmX7 rfl rfl fl_X7_readPart_116 rfl rfl rfl rfl rfl rfl dX7_readPart_84 ?_
        dsimp only [List.set_cons_zero, List.set_cons_succ]
        refine V_iload_n (i := 2) dX7_readPart_87 rfl rfl ?_
        refine V_bipush (v := 4294967287) dX7_readPart_88 (by decide) ?_
        refine V_icmp_eq (tgt := 97) (by omega) (by omega) dX7_readPart_90 rfl (fun h_90 => ?_) (fun h_90 => ?_)
        · refine V_iconst (v := 0) dX7_readPart_97 rfl ?_
          refine V_zret hR dX7_readPart_98 (by first | exact Or.inl rfl | exact Or.inr rfl | omega) hkc hks ?_
          unfold rPt
          first | (exfalso; omega) | (rw [if_pos (b01 h_21), if_pos (show z 6 < 96 by omega), if_pos h_48]; exact ⟨rfl, rfl⟩) | (rw [if_pos (b01 h_21), if_pos (show z 6 < 96 by omega), if_neg h_48]; exact ⟨rfl, rfl⟩) | (rw [if_pos (b01 h_21), if_neg (show ¬ z 6 < 96 by omega)]; exact ⟨rfl, rfl⟩)
        · refine V_iconst (v := 1) dX7_readPart_93 rfl ?_
          refine V_goto (tgt := 98) dX7_readPart_94 rfl ?_
          refine V_zret hR dX7_readPart_98 (by first | exact Or.inl rfl | exact Or.inr rfl | omega) hkc hks ?_
          unfold rPt
          first | (exfalso; omega) | (rw [if_pos (b01 h_21), if_pos (show z 6 < 96 by omega), if_pos h_48]; exact ⟨rfl, rfl⟩) | (rw [if_pos (b01 h_21), if_pos (show z 6 < 96 by omega), if_neg h_48]; exact ⟨rfl, rfl⟩) | (rw [if_pos (b01 h_21), if_neg (show ¬ z 6 < 96 by omega)]; exact ⟨rfl, rfl⟩)

end REF14
