section ENG
def eO (a s : Nat → Nat) : va_W := [(a 0, .inr (2, [.ref (a 1), .ref (a 2), .ref (a 3), .ref (a 4), .ref (a 5), .int (nI (s 0)), .int (nI (s 1)), .int (nI (s 2)), .int (nI (s 3)), .ref (a 9), .int (nI (s 4))]))]
def eC (G : vG) (a : Nat → Nat) : va_W := [(a 5, .inl (G.2 2, 3, .inr (.inr (.inr (.inr (rA (fun h => a (6 + h))))))))]
def vsum (f : Nat → Nat) : Nat → Nat
  | 0 => 0
  | n + 1 => vsum f n + f n
theorem vsum_cong {f g : Nat → Nat} : ∀ {n : Nat}, (∀ k, k < n → f k = g k) → vsum f n = vsum g n
  | 0, _ => rfl
  | n + 1, h => by rw [vsum, vsum, vsum_cong (fun k hk => h k (by omega)), h n (by omega)]
theorem vsum_le {f : Nat → Nat} {c : Nat} : ∀ {n : Nat}, (∀ k, k < n → f k ≤ c) → vsum f n ≤ n * c
  | 0, _ => by simp [vsum]
  | n + 1, h => by
    have h1 := vsum_le (f := f) (c := c) (n := n) (fun k hk => h k (by omega))
    have h2 := h n (by omega)
    rw [vsum, Nat.succ_mul]
    omega
theorem up_s {α : Type} {f : Nat → α} {i : Nat} {v : α} : va_up f i v i = v := if_pos rfl
theorem up_n {α : Type} {f : Nat → α} {i j : Nat} {v : α} (h : j ≠ i) : va_up f i v j = f j := if_neg h
theorem fill_step (f : Nat → Nat) (v i : Nat) : va_up (fun k => if k < i then v else f k) i v = fun k => if k < i + 1 then v else f k := by
  funext k
  unfold va_up
  by_cases h : k = i
  · rw [if_pos h, if_pos (by omega)]
  · rw [if_neg h]
    show (if k < i then v else f k) = _
    by_cases h2 : k < i
    · rw [if_pos h2, if_pos (by omega)]
    · rw [if_neg h2, if_neg (by omega)]
theorem nI_or (a b : Nat) : nI a ||| nI b = nI (a ||| b) := by
  apply Int32.toBitVec_inj.mp
  show BitVec.ofNat 32 a ||| BitVec.ofNat 32 b = BitVec.ofNat 32 (a ||| b)
  apply BitVec.eq_of_toNat_eq
  simp only [BitVec.toNat_or, BitVec.toNat_ofNat]
  exact (Nat.or_mod_two_pow).symm
theorem nI_sh1 {h : Nat} (hh : h < 3) : nI 1 <<< (nI h &&& 31) = nI (2 ^ h) := by
  rcases (show h = 0 ∨ h = 1 ∨ h = 2 by omega) with rfl | rfl | rfl <;> decide

abbrev rJ7_fill_53178 : Room := { frames := 0, cells := 0, slots := 0, locals := 0 }
theorem vy_J7_fill_53178 : vY yJ7_fill_53178 wsJ7_fill_53178 cJ7_fill_53178 4 none 2 := ⟨⟨_, rfl⟩, by decide +kernel, by decide +kernel, by decide +kernel⟩
set_option maxHeartbeats 4000000 in
set_option maxRecDepth 100000 in
/-- Arrays.fill -/
theorem c_J7_fill_53178 (l : Launch) (G : vG) (a N v : Nat) (f : Nat → Nat) (hN : Nat.blt N 2147483648 = true) : Kc l G yJ7_fill_53178 wsJ7_fill_53178 rJ7_fill_53178 [.ref a, .int (nI v)] [iA G a N f] (fun r Y => r = none ∧ Y = [iA G a N (fun k => if k < N then v else f k)]) 0 0 := by
  refine V_enter (own := RJ7) [some (.ref a), some (.int (nI v)), none, none] (by decide +kernel) rfl rfl (Nat.le_of_ble_eq_true rfl) rfl (fun Γ hR hin => ?_)
  have hkc : 0 ≤ 0 := Nat.le_refl 0
  have hks : 0 ≤ 0 := Nat.le_refl 0
  have hN2 : N < 2147483648 := Nat.le_of_ble_eq_true hN
  have LP5 : ∀ (fuel : Nat) (i : Nat), N + 1 ≤ i + fuel → i ≤ N → V l G (cJ7_fill_53178, 4, wsJ7_fill_53178, RJ7, rJ7_fill_53178) Γ 0 0 5 [some (.ref a), some (.int (nI v)), some (.int (nI i)), some (.int (nI N))] [] [iA G a N (fun k => if k < i then v else f k)] := by
    intro fuel
    induction fuel with
    | zero => intro i hf hi; exact absurd hf (by omega)
    | succ fuel ih =>
      intro i hf hi
      refine V_iload_n (i := 2) dJ7_fill_53178_5 rfl rfl ?_
      refine V_iload_n (i := 3) dJ7_fill_53178_6 rfl rfl ?_
      refine V_icmp_ge (tgt := 20) (by omega) (by omega) dJ7_fill_53178_7 rfl (fun h_7 => ?_) (fun h_7 => ?_)
      · refine V_vret hR dJ7_fill_53178_20 hkc hks ?_
        exact ⟨rfl, by rw [show i = N by omega]⟩
      · refine V_aload_n (i := 0) dJ7_fill_53178_10 rfl rfl ?_
        refine V_iload_n (i := 2) dJ7_fill_53178_11 rfl rfl ?_
        refine V_iload_n (i := 1) dJ7_fill_53178_12 rfl rfl ?_
        refine V_iast (q := 0) rfl (by omega) hN dJ7_fill_53178_13 ?_
        dsimp only [List.set_cons_zero, List.set_cons_succ]
        refine V_iinc dJ7_fill_53178_14 rfl (nI_1 _) rfl rfl ?_
        dsimp only [List.set_cons_zero, List.set_cons_succ]
        refine V_goto (tgt := 5) dJ7_fill_53178_17 rfl ?_
        rw [fill_step]
        exact ih (i + 1) (by omega) (by omega)
  refine V_iconst (v := 0) dJ7_fill_53178_0 rfl ?_
  refine V_istore_n (i := 2) dJ7_fill_53178_1 rfl rfl rfl ?_
  dsimp only [List.set_cons_zero, List.set_cons_succ]
  refine V_aload_n (i := 0) dJ7_fill_53178_2 rfl rfl ?_
  refine V_alen (q := 0) (t := 0) rfl rfl dJ7_fill_53178_3 ?_
  refine V_istore_n (i := 3) dJ7_fill_53178_4 rfl rfl rfl ?_
  dsimp only [List.set_cons_zero, List.set_cons_succ]
  have e0 : (fun k => if k < 0 then v else f k) = f := by funext k; rw [if_neg (Nat.not_lt_zero k)]
  refine V_same (X' := [iA G a N (fun k => if k < 0 then v else f k)]) (by rw [e0]) ?_
  exact LP5 (N + 1) 0 (by omega) (Nat.zero_le N)

theorem vsum_succ (f : Nat → Nat) (n : Nat) : vsum f n + f n = vsum f (n + 1) := rfl
abbrev rX2_sumOfValues : Room := { frames := 0, cells := 0, slots := 0, locals := 0 }
theorem vy_X2_sumOfValues : vY yX2_sumOfValues wsX2_sumOfValues cX2_sumOfValues 3 (some .int) 0 := ⟨⟨_, rfl⟩, by decide +kernel, by decide +kernel, by decide +kernel⟩
theorem fl_X2_sumOfValues_9 : Cond.fieldLink RX2 9 "OrderChains$Engine" "values" "[I" ∈ wsX2_sumOfValues := List.mem_of_getElem? (i := 1) rfl
theorem il_X2_sumOfValues_X2 : ∀ w ∈ wsX20, w ∈ wsX2_sumOfValues := fun _ h => List.mem_cons_of_mem _ (List.mem_append_right _ h)
set_option maxHeartbeats 4000000 in
set_option maxRecDepth 100000 in
/-- X2_sumOfValues -/
theorem c_X2_sumOfValues (l : Launch) (G : vG) (a s val : Nat → Nat) : Kc l G yX2_sumOfValues wsX2_sumOfValues rX2_sumOfValues [.ref (a 0)] [eO a s, iA G (a 1) 96 val] (fun r Y => r = some (.int (nI (vsum val 96))) ∧ Y = [eO a s, iA G (a 1) 96 val]) 0 0 := by
  refine V_enter (own := RX2) [some (.ref (a 0)), none, none] (by decide +kernel) rfl rfl (Nat.le_of_ble_eq_true rfl) rfl (fun Γ hR hin => ?_)
  have hkc : 0 ≤ 0 := Nat.le_refl 0
  have hks : 0 ≤ 0 := Nat.le_refl 0
  have LP4 : ∀ (fuel : Nat) (c : Nat), 97 ≤ c + fuel → c ≤ 96 → V l G (cX2_sumOfValues, 3, wsX2_sumOfValues, RX2, rX2_sumOfValues) Γ 0 0 4 [some (.ref (a 0)), some (.int (nI (vsum val c))), some (.int (nI c))] [] [eO a s, iA G (a 1) 96 val] := by
    intro fuel
    induction fuel with
    | zero => intro c hf hc; exact absurd hf (by omega)
    | succ fuel ih =>
      intro c hf hc
      refine V_iload_n (i := 2) dX2_sumOfValues_4 rfl rfl ?_
      refine V_bipush (v := 96) dX2_sumOfValues_5 (by decide) ?_
      refine V_icmp_ge (tgt := 25) (by omega) (by omega) dX2_sumOfValues_7 rfl (fun h_7 => ?_) (fun h_7 => ?_)
      · refine V_iload_n (i := 1) dX2_sumOfValues_25 rfl rfl ?_
        refine V_iret hR dX2_sumOfValues_26 hkc hks ?_
        exact ⟨by rw [show c = 96 by omega], rfl⟩
      · refine V_iload_n (i := 1) dX2_sumOfValues_10 rfl rfl ?_
        refine V_aload_n (i := 0) dX2_sumOfValues_11 rfl rfl ?_
        refine V_get (C := RX2) (T := TX2) (N := 11) (ci := 2) (q := 0) (ref := "OrderChains$Engine") 0 rfl il_X2_sumOfValues_X2 rfl rfl fl_X2_sumOfValues_9 rfl rfl dX2_sumOfValues_12 ?_
        refine V_iload_n (i := 2) dX2_sumOfValues_15 rfl rfl ?_
        refine V_iald (q := 1) rfl (by omega) rfl dX2_sumOfValues_16 ?_
        refine V_iadd dX2_sumOfValues_17 ?_
        refine V_istore_n (i := 1) dX2_sumOfValues_18 rfl rfl rfl ?_
        dsimp only [List.set_cons_zero, List.set_cons_succ]
        refine V_iinc dX2_sumOfValues_19 rfl (nI_1 _) rfl rfl ?_
        dsimp only [List.set_cons_zero, List.set_cons_succ]
        refine V_goto (tgt := 4) dX2_sumOfValues_22 rfl ?_
        exact ih (c + 1) (by omega) (by omega)
  refine V_iconst (v := 0) dX2_sumOfValues_0 rfl ?_
  refine V_istore_n (i := 1) dX2_sumOfValues_1 rfl rfl rfl ?_
  dsimp only [List.set_cons_zero, List.set_cons_succ]
  refine V_iconst (v := 0) dX2_sumOfValues_2 rfl ?_
  refine V_istore_n (i := 2) dX2_sumOfValues_3 rfl rfl rfl ?_
  dsimp only [List.set_cons_zero, List.set_cons_succ]
  exact LP4 97 0 (by omega) (by omega)

abbrev rX2_markedCells : Room := { frames := 0, cells := 0, slots := 0, locals := 0 }
theorem vy_X2_markedCells : vY yX2_markedCells wsX2_markedCells cX2_markedCells 3 (some .int) 0 := ⟨⟨_, rfl⟩, by decide +kernel, by decide +kernel, by decide +kernel⟩
theorem fl_X2_markedCells_18 : Cond.fieldLink RX2 18 "OrderChains$Engine" "marks" "[I" ∈ wsX2_markedCells := List.mem_of_getElem? (i := 1) rfl
theorem il_X2_markedCells_X2 : ∀ w ∈ wsX20, w ∈ wsX2_markedCells := fun _ h => List.mem_cons_of_mem _ (List.mem_append_right _ h)
set_option maxHeartbeats 4000000 in
set_option maxRecDepth 100000 in
/-- X2_markedCells -/
theorem c_X2_markedCells (l : Launch) (G : vG) (a s mark : Nat → Nat) : Kc l G yX2_markedCells wsX2_markedCells rX2_markedCells [.ref (a 0)] [eO a s, iA G (a 3) 96 mark] (fun r Y => r = some (.int (nI (vsum mark 96))) ∧ Y = [eO a s, iA G (a 3) 96 mark]) 0 0 := by
  refine V_enter (own := RX2) [some (.ref (a 0)), none, none] (by decide +kernel) rfl rfl (Nat.le_of_ble_eq_true rfl) rfl (fun Γ hR hin => ?_)
  have hkc : 0 ≤ 0 := Nat.le_refl 0
  have hks : 0 ≤ 0 := Nat.le_refl 0
  have LP4 : ∀ (fuel : Nat) (c : Nat), 97 ≤ c + fuel → c ≤ 96 → V l G (cX2_markedCells, 3, wsX2_markedCells, RX2, rX2_markedCells) Γ 0 0 4 [some (.ref (a 0)), some (.int (nI (vsum mark c))), some (.int (nI c))] [] [eO a s, iA G (a 3) 96 mark] := by
    intro fuel
    induction fuel with
    | zero => intro c hf hc; exact absurd hf (by omega)
    | succ fuel ih =>
      intro c hf hc
      refine V_iload_n (i := 2) dX2_markedCells_4 rfl rfl ?_
      refine V_bipush (v := 96) dX2_markedCells_5 (by decide) ?_
      refine V_icmp_ge (tgt := 25) (by omega) (by omega) dX2_markedCells_7 rfl (fun h_7 => ?_) (fun h_7 => ?_)
      · refine V_iload_n (i := 1) dX2_markedCells_25 rfl rfl ?_
        refine V_iret hR dX2_markedCells_26 hkc hks ?_
        exact ⟨by rw [show c = 96 by omega], rfl⟩
      · refine V_iload_n (i := 1) dX2_markedCells_10 rfl rfl ?_
        refine V_aload_n (i := 0) dX2_markedCells_11 rfl rfl ?_
        refine V_get (C := RX2) (T := TX2) (N := 11) (ci := 2) (q := 0) (ref := "OrderChains$Engine") 2 rfl il_X2_markedCells_X2 rfl rfl fl_X2_markedCells_18 rfl rfl dX2_markedCells_12 ?_
        refine V_iload_n (i := 2) dX2_markedCells_15 rfl rfl ?_
        refine V_iald (q := 1) rfl (by omega) rfl dX2_markedCells_16 ?_
        refine V_iadd dX2_markedCells_17 ?_
        refine V_istore_n (i := 1) dX2_markedCells_18 rfl rfl rfl ?_
        dsimp only [List.set_cons_zero, List.set_cons_succ]
        refine V_iinc dX2_markedCells_19 rfl (nI_1 _) rfl rfl ?_
        dsimp only [List.set_cons_zero, List.set_cons_succ]
        refine V_goto (tgt := 4) dX2_markedCells_22 rfl ?_
        exact ih (c + 1) (by omega) (by omega)
  refine V_iconst (v := 0) dX2_markedCells_0 rfl ?_
  refine V_istore_n (i := 1) dX2_markedCells_1 rfl rfl rfl ?_
  dsimp only [List.set_cons_zero, List.set_cons_succ]
  refine V_iconst (v := 0) dX2_markedCells_2 rfl ?_
  refine V_istore_n (i := 2) dX2_markedCells_3 rfl rfl rfl ?_
  dsimp only [List.set_cons_zero, List.set_cons_succ]
  exact LP4 97 0 (by omega) (by omega)

abbrev rX2_ownedCells : Room := { frames := 0, cells := 0, slots := 0, locals := 0 }
theorem vy_X2_ownedCells : vY yX2_ownedCells wsX2_ownedCells cX2_ownedCells 3 (some .int) 0 := ⟨⟨_, rfl⟩, by decide +kernel, by decide +kernel, by decide +kernel⟩
theorem fl_X2_ownedCells_15 : Cond.fieldLink RX2 15 "OrderChains$Engine" "owners" "[I" ∈ wsX2_ownedCells := List.mem_of_getElem? (i := 1) rfl
theorem il_X2_ownedCells_X2 : ∀ w ∈ wsX20, w ∈ wsX2_ownedCells := fun _ h => List.mem_cons_of_mem _ (List.mem_append_right _ h)
set_option maxHeartbeats 4000000 in
set_option maxRecDepth 100000 in
/-- Engine.ownedCells -/
theorem c_X2_ownedCells (l : Launch) (G : vG) (a s own : Nat → Nat) (hb : ∀ k, k < 96 → own k < 4294967296) : Kc l G yX2_ownedCells wsX2_ownedCells rX2_ownedCells [.ref (a 0)] [eO a s, iA G (a 2) 96 own] (fun r Y => r = some (.int (nI (vsum (fun k => if own k = 0 then 0 else 1) 96))) ∧ Y = [eO a s, iA G (a 2) 96 own]) 0 0 := by
  refine V_enter (own := RX2) [some (.ref (a 0)), none, none] (by decide +kernel) rfl rfl (Nat.le_of_ble_eq_true rfl) rfl (fun Γ hR hin => ?_)
  have hkc : 0 ≤ 0 := Nat.le_refl 0
  have hks : 0 ≤ 0 := Nat.le_refl 0
  have LP4 : ∀ (fuel : Nat) (c : Nat), 97 ≤ c + fuel → c ≤ 96 → V l G (cX2_ownedCells, 3, wsX2_ownedCells, RX2, rX2_ownedCells) Γ 0 0 4 [some (.ref (a 0)), some (.int (nI (vsum (fun k => if own k = 0 then 0 else 1) c))), some (.int (nI c))] [] [eO a s, iA G (a 2) 96 own] := by
    intro fuel
    induction fuel with
    | zero => intro c hf hc; exact absurd hf (by omega)
    | succ fuel ih =>
      intro c hf hc
      refine V_iload_n (i := 2) dX2_ownedCells_4 rfl rfl ?_
      refine V_bipush (v := 96) dX2_ownedCells_5 (by decide) ?_
      refine V_icmp_ge (tgt := 28) (by omega) (by omega) dX2_ownedCells_7 rfl (fun h_7 => ?_) (fun h_7 => ?_)
      · refine V_iload_n (i := 1) dX2_ownedCells_28 rfl rfl ?_
        refine V_iret hR dX2_ownedCells_29 hkc hks ?_
        exact ⟨by rw [show c = 96 by omega], rfl⟩
      · refine V_aload_n (i := 0) dX2_ownedCells_10 rfl rfl ?_
        refine V_get (C := RX2) (T := TX2) (N := 11) (ci := 2) (q := 0) (ref := "OrderChains$Engine") 1 rfl il_X2_ownedCells_X2 rfl rfl fl_X2_ownedCells_15 rfl rfl dX2_ownedCells_11 ?_
        refine V_iload_n (i := 2) dX2_ownedCells_14 rfl rfl ?_
        refine V_iald (q := 1) rfl (by omega) rfl dX2_ownedCells_15 ?_
        refine V_if_eq (tgt := 22) (hb c (by omega)) dX2_ownedCells_16 rfl (fun h_16 => ?_) (fun h_16 => ?_)
        · refine V_iinc dX2_ownedCells_22 rfl (nI_1 _) rfl rfl ?_
          dsimp only [List.set_cons_zero, List.set_cons_succ]
          refine V_goto (tgt := 4) dX2_ownedCells_25 rfl ?_
          first | (have e : vsum (fun k => if own k = 0 then 0 else 1) (c + 1) = vsum (fun k => if own k = 0 then 0 else 1) c := (by show vsum (fun k => if own k = 0 then 0 else 1) c + (if own c = 0 then 0 else 1) = _; rw [if_pos h_16]; rfl); rw [← e]; exact ih (c + 1) (by omega) (by omega)) | (have e : vsum (fun k => if own k = 0 then 0 else 1) (c + 1) = vsum (fun k => if own k = 0 then 0 else 1) c + 1 := (by show vsum (fun k => if own k = 0 then 0 else 1) c + (if own c = 0 then 0 else 1) = _; rw [if_neg h_16]); rw [← e]; exact ih (c + 1) (by omega) (by omega))
        · refine V_iinc dX2_ownedCells_19 rfl (nI_1 _) rfl rfl ?_
          dsimp only [List.set_cons_zero, List.set_cons_succ]
          refine V_iinc dX2_ownedCells_22 rfl (nI_1 _) rfl rfl ?_
          dsimp only [List.set_cons_zero, List.set_cons_succ]
          refine V_goto (tgt := 4) dX2_ownedCells_25 rfl ?_
          first | (have e : vsum (fun k => if own k = 0 then 0 else 1) (c + 1) = vsum (fun k => if own k = 0 then 0 else 1) c := (by show vsum (fun k => if own k = 0 then 0 else 1) c + (if own c = 0 then 0 else 1) = _; rw [if_pos h_16]; rfl); rw [← e]; exact ih (c + 1) (by omega) (by omega)) | (have e : vsum (fun k => if own k = 0 then 0 else 1) (c + 1) = vsum (fun k => if own k = 0 then 0 else 1) c + 1 := (by show vsum (fun k => if own k = 0 then 0 else 1) c + (if own c = 0 then 0 else 1) = _; rw [if_neg h_16]); rw [← e]; exact ih (c + 1) (by omega) (by omega))
  refine V_iconst (v := 0) dX2_ownedCells_0 rfl ?_
  refine V_istore_n (i := 1) dX2_ownedCells_1 rfl rfl rfl ?_
  dsimp only [List.set_cons_zero, List.set_cons_succ]
  refine V_iconst (v := 0) dX2_ownedCells_2 rfl ?_
  refine V_istore_n (i := 2) dX2_ownedCells_3 rfl rfl rfl ?_
  dsimp only [List.set_cons_zero, List.set_cons_succ]
  exact LP4 97 0 (by omega) (by omega)

abbrev rJ6_bitCount_0f7a4 : Room := { frames := 0, cells := 0, slots := 0, locals := 0 }
theorem vy_J6_bitCount_0f7a4 : vY yJ6_bitCount_0f7a4 wsJ6_bitCount_0f7a4 cJ6_bitCount_0f7a4 1 (some .int) 1 := ⟨⟨_, rfl⟩, by decide +kernel, by decide +kernel, by decide +kernel⟩
theorem kc_J6_bitCount_0f7a4_265 : Cond.constant RJ6 265 (1431655765) ∈ wsJ6_bitCount_0f7a4 := List.mem_of_getElem? (i := 1) rfl
theorem kc_J6_bitCount_0f7a4_266 : Cond.constant RJ6 266 (858993459) ∈ wsJ6_bitCount_0f7a4 := List.mem_of_getElem? (i := 2) rfl
theorem kc_J6_bitCount_0f7a4_267 : Cond.constant RJ6 267 (252645135) ∈ wsJ6_bitCount_0f7a4 := List.mem_of_getElem? (i := 3) rfl
def bc8 (x : Nat) : Nat := if x = 0 then 0 else if x = 1 ∨ x = 2 ∨ x = 4 then 1 else if x = 7 then 3 else 2
set_option maxHeartbeats 4000000 in
/-- Integer.bitCount, below 8 -/
theorem c_J6_bitCount (l : Launch) (G : vG) (x : Nat) (hx : x < 8) : Kc l G yJ6_bitCount_0f7a4 wsJ6_bitCount_0f7a4 rJ6_bitCount_0f7a4 [.int (nI x)] [] (fun r Y => r = some (.int (nI (bc8 x))) ∧ Y = []) 0 0 := by
  refine V_enter (own := RJ6) [some (.int (nI x))] (by decide +kernel) rfl rfl (Nat.le_of_ble_eq_true rfl) rfl (fun Γ hR hin => ?_)
  have hkc : 0 ≤ 0 := Nat.le_refl 0
  have hks : 0 ≤ 0 := Nat.le_refl 0
  rcases (show x = 0 ∨ x = 1 ∨ x = 2 ∨ x = 3 ∨ x = 4 ∨ x = 5 ∨ x = 6 ∨ x = 7 by omega) with rfl | rfl | rfl | rfl | rfl | rfl | rfl | rfl
  · refine V_iload_n (i := 0) dJ6_bitCount_0f7a4_0 rfl rfl ?_
    refine V_iload_n (i := 0) dJ6_bitCount_0f7a4_1 rfl rfl ?_
    refine V_iconst (v := 1) dJ6_bitCount_0f7a4_2 rfl ?_
    refine V_iushrG (v := 0) dJ6_bitCount_0f7a4_3 (by decide) ?_
    refine V_ldc_w (v := 1431655765) dJ6_bitCount_0f7a4_4 kc_J6_bitCount_0f7a4_265 ?_
    refine V_iandG (v := 0) dJ6_bitCount_0f7a4_7 (by decide) ?_
    refine V_isub dJ6_bitCount_0f7a4_8 (by omega) ?_
    refine V_top (b := 0) (by omega) ?_
    refine V_istore_n (i := 0) dJ6_bitCount_0f7a4_9 rfl rfl rfl ?_
    dsimp only [List.set_cons_zero, List.set_cons_succ]
    refine V_iload_n (i := 0) dJ6_bitCount_0f7a4_10 rfl rfl ?_
    refine V_ldc_w (v := 858993459) dJ6_bitCount_0f7a4_11 kc_J6_bitCount_0f7a4_266 ?_
    refine V_iandG (v := 0) dJ6_bitCount_0f7a4_14 (by decide) ?_
    refine V_iload_n (i := 0) dJ6_bitCount_0f7a4_15 rfl rfl ?_
    refine V_iconst (v := 2) dJ6_bitCount_0f7a4_16 rfl ?_
    refine V_iushrG (v := 0) dJ6_bitCount_0f7a4_17 (by decide) ?_
    refine V_ldc_w (v := 858993459) dJ6_bitCount_0f7a4_18 kc_J6_bitCount_0f7a4_266 ?_
    refine V_iandG (v := 0) dJ6_bitCount_0f7a4_21 (by decide) ?_
    refine V_iadd dJ6_bitCount_0f7a4_22 ?_
    refine V_top (b := 0) (by omega) ?_
    refine V_istore_n (i := 0) dJ6_bitCount_0f7a4_23 rfl rfl rfl ?_
    dsimp only [List.set_cons_zero, List.set_cons_succ]
    refine V_iload_n (i := 0) dJ6_bitCount_0f7a4_24 rfl rfl ?_
    refine V_iload_n (i := 0) dJ6_bitCount_0f7a4_25 rfl rfl ?_
    refine V_iconst (v := 4) dJ6_bitCount_0f7a4_26 rfl ?_
    refine V_iushrG (v := 0) dJ6_bitCount_0f7a4_27 (by decide) ?_
    refine V_iadd dJ6_bitCount_0f7a4_28 ?_
    refine V_top (b := 0) (by omega) ?_
    refine V_ldc_w (v := 252645135) dJ6_bitCount_0f7a4_29 kc_J6_bitCount_0f7a4_267 ?_
    refine V_iandG (v := 0) dJ6_bitCount_0f7a4_32 (by decide) ?_
    refine V_istore_n (i := 0) dJ6_bitCount_0f7a4_33 rfl rfl rfl ?_
    dsimp only [List.set_cons_zero, List.set_cons_succ]
    refine V_iload_n (i := 0) dJ6_bitCount_0f7a4_34 rfl rfl ?_
    refine V_iload_n (i := 0) dJ6_bitCount_0f7a4_35 rfl rfl ?_
    refine V_bipush (v := 8) dJ6_bitCount_0f7a4_36 (by decide) ?_
    refine V_iushrG (v := 0) dJ6_bitCount_0f7a4_38 (by decide) ?_
    refine V_iadd dJ6_bitCount_0f7a4_39 ?_
    refine V_top (b := 0) (by omega) ?_
    refine V_istore_n (i := 0) dJ6_bitCount_0f7a4_40 rfl rfl rfl ?_
    dsimp only [List.set_cons_zero, List.set_cons_succ]
    refine V_iload_n (i := 0) dJ6_bitCount_0f7a4_41 rfl rfl ?_
    refine V_iload_n (i := 0) dJ6_bitCount_0f7a4_42 rfl rfl ?_
    refine V_bipush (v := 16) dJ6_bitCount_0f7a4_43 (by decide) ?_
    refine V_iushrG (v := 0) dJ6_bitCount_0f7a4_45 (by decide) ?_
    refine V_iadd dJ6_bitCount_0f7a4_46 ?_
    refine V_top (b := 0) (by omega) ?_
    refine V_istore_n (i := 0) dJ6_bitCount_0f7a4_47 rfl rfl rfl ?_
    dsimp only [List.set_cons_zero, List.set_cons_succ]
    refine V_iload_n (i := 0) dJ6_bitCount_0f7a4_48 rfl rfl ?_
    refine V_bipush (v := 63) dJ6_bitCount_0f7a4_49 (by decide) ?_
    refine V_iandG (v := 0) dJ6_bitCount_0f7a4_51 (by decide) ?_
    refine V_iret hR dJ6_bitCount_0f7a4_52 hkc hks ?_
    exact ⟨rfl, rfl⟩
  · refine V_iload_n (i := 0) dJ6_bitCount_0f7a4_0 rfl rfl ?_
    refine V_iload_n (i := 0) dJ6_bitCount_0f7a4_1 rfl rfl ?_
    refine V_iconst (v := 1) dJ6_bitCount_0f7a4_2 rfl ?_
    refine V_iushrG (v := 0) dJ6_bitCount_0f7a4_3 (by decide) ?_
    refine V_ldc_w (v := 1431655765) dJ6_bitCount_0f7a4_4 kc_J6_bitCount_0f7a4_265 ?_
    refine V_iandG (v := 0) dJ6_bitCount_0f7a4_7 (by decide) ?_
    refine V_isub dJ6_bitCount_0f7a4_8 (by omega) ?_
    refine V_top (b := 1) (by omega) ?_
    refine V_istore_n (i := 0) dJ6_bitCount_0f7a4_9 rfl rfl rfl ?_
    dsimp only [List.set_cons_zero, List.set_cons_succ]
    refine V_iload_n (i := 0) dJ6_bitCount_0f7a4_10 rfl rfl ?_
    refine V_ldc_w (v := 858993459) dJ6_bitCount_0f7a4_11 kc_J6_bitCount_0f7a4_266 ?_
    refine V_iandG (v := 1) dJ6_bitCount_0f7a4_14 (by decide) ?_
    refine V_iload_n (i := 0) dJ6_bitCount_0f7a4_15 rfl rfl ?_
    refine V_iconst (v := 2) dJ6_bitCount_0f7a4_16 rfl ?_
    refine V_iushrG (v := 0) dJ6_bitCount_0f7a4_17 (by decide) ?_
    refine V_ldc_w (v := 858993459) dJ6_bitCount_0f7a4_18 kc_J6_bitCount_0f7a4_266 ?_
    refine V_iandG (v := 0) dJ6_bitCount_0f7a4_21 (by decide) ?_
    refine V_iadd dJ6_bitCount_0f7a4_22 ?_
    refine V_top (b := 1) (by omega) ?_
    refine V_istore_n (i := 0) dJ6_bitCount_0f7a4_23 rfl rfl rfl ?_
    dsimp only [List.set_cons_zero, List.set_cons_succ]
    refine V_iload_n (i := 0) dJ6_bitCount_0f7a4_24 rfl rfl ?_
    refine V_iload_n (i := 0) dJ6_bitCount_0f7a4_25 rfl rfl ?_
    refine V_iconst (v := 4) dJ6_bitCount_0f7a4_26 rfl ?_
    refine V_iushrG (v := 0) dJ6_bitCount_0f7a4_27 (by decide) ?_
    refine V_iadd dJ6_bitCount_0f7a4_28 ?_
    refine V_top (b := 1) (by omega) ?_
    refine V_ldc_w (v := 252645135) dJ6_bitCount_0f7a4_29 kc_J6_bitCount_0f7a4_267 ?_
    refine V_iandG (v := 1) dJ6_bitCount_0f7a4_32 (by decide) ?_
    refine V_istore_n (i := 0) dJ6_bitCount_0f7a4_33 rfl rfl rfl ?_
    dsimp only [List.set_cons_zero, List.set_cons_succ]
    refine V_iload_n (i := 0) dJ6_bitCount_0f7a4_34 rfl rfl ?_
    refine V_iload_n (i := 0) dJ6_bitCount_0f7a4_35 rfl rfl ?_
    refine V_bipush (v := 8) dJ6_bitCount_0f7a4_36 (by decide) ?_
    refine V_iushrG (v := 0) dJ6_bitCount_0f7a4_38 (by decide) ?_
    refine V_iadd dJ6_bitCount_0f7a4_39 ?_
    refine V_top (b := 1) (by omega) ?_
    refine V_istore_n (i := 0) dJ6_bitCount_0f7a4_40 rfl rfl rfl ?_
    dsimp only [List.set_cons_zero, List.set_cons_succ]
    refine V_iload_n (i := 0) dJ6_bitCount_0f7a4_41 rfl rfl ?_
    refine V_iload_n (i := 0) dJ6_bitCount_0f7a4_42 rfl rfl ?_
    refine V_bipush (v := 16) dJ6_bitCount_0f7a4_43 (by decide) ?_
    refine V_iushrG (v := 0) dJ6_bitCount_0f7a4_45 (by decide) ?_
    refine V_iadd dJ6_bitCount_0f7a4_46 ?_
    refine V_top (b := 1) (by omega) ?_
    refine V_istore_n (i := 0) dJ6_bitCount_0f7a4_47 rfl rfl rfl ?_
    dsimp only [List.set_cons_zero, List.set_cons_succ]
    refine V_iload_n (i := 0) dJ6_bitCount_0f7a4_48 rfl rfl ?_
    refine V_bipush (v := 63) dJ6_bitCount_0f7a4_49 (by decide) ?_
    refine V_iandG (v := 1) dJ6_bitCount_0f7a4_51 (by decide) ?_
    refine V_iret hR dJ6_bitCount_0f7a4_52 hkc hks ?_
    exact ⟨rfl, rfl⟩
  · refine V_iload_n (i := 0) dJ6_bitCount_0f7a4_0 rfl rfl ?_
    refine V_iload_n (i := 0) dJ6_bitCount_0f7a4_1 rfl rfl ?_
    refine V_iconst (v := 1) dJ6_bitCount_0f7a4_2 rfl ?_
    refine V_iushrG (v := 1) dJ6_bitCount_0f7a4_3 (by decide) ?_
    refine V_ldc_w (v := 1431655765) dJ6_bitCount_0f7a4_4 kc_J6_bitCount_0f7a4_265 ?_
    refine V_iandG (v := 1) dJ6_bitCount_0f7a4_7 (by decide) ?_
    refine V_isub dJ6_bitCount_0f7a4_8 (by omega) ?_
    refine V_top (b := 1) (by omega) ?_
    refine V_istore_n (i := 0) dJ6_bitCount_0f7a4_9 rfl rfl rfl ?_
    dsimp only [List.set_cons_zero, List.set_cons_succ]
    refine V_iload_n (i := 0) dJ6_bitCount_0f7a4_10 rfl rfl ?_
    refine V_ldc_w (v := 858993459) dJ6_bitCount_0f7a4_11 kc_J6_bitCount_0f7a4_266 ?_
    refine V_iandG (v := 1) dJ6_bitCount_0f7a4_14 (by decide) ?_
    refine V_iload_n (i := 0) dJ6_bitCount_0f7a4_15 rfl rfl ?_
    refine V_iconst (v := 2) dJ6_bitCount_0f7a4_16 rfl ?_
    refine V_iushrG (v := 0) dJ6_bitCount_0f7a4_17 (by decide) ?_
    refine V_ldc_w (v := 858993459) dJ6_bitCount_0f7a4_18 kc_J6_bitCount_0f7a4_266 ?_
    refine V_iandG (v := 0) dJ6_bitCount_0f7a4_21 (by decide) ?_
    refine V_iadd dJ6_bitCount_0f7a4_22 ?_
    refine V_top (b := 1) (by omega) ?_
    refine V_istore_n (i := 0) dJ6_bitCount_0f7a4_23 rfl rfl rfl ?_
    dsimp only [List.set_cons_zero, List.set_cons_succ]
    refine V_iload_n (i := 0) dJ6_bitCount_0f7a4_24 rfl rfl ?_
    refine V_iload_n (i := 0) dJ6_bitCount_0f7a4_25 rfl rfl ?_
    refine V_iconst (v := 4) dJ6_bitCount_0f7a4_26 rfl ?_
    refine V_iushrG (v := 0) dJ6_bitCount_0f7a4_27 (by decide) ?_
    refine V_iadd dJ6_bitCount_0f7a4_28 ?_
    refine V_top (b := 1) (by omega) ?_
    refine V_ldc_w (v := 252645135) dJ6_bitCount_0f7a4_29 kc_J6_bitCount_0f7a4_267 ?_
    refine V_iandG (v := 1) dJ6_bitCount_0f7a4_32 (by decide) ?_
    refine V_istore_n (i := 0) dJ6_bitCount_0f7a4_33 rfl rfl rfl ?_
    dsimp only [List.set_cons_zero, List.set_cons_succ]
    refine V_iload_n (i := 0) dJ6_bitCount_0f7a4_34 rfl rfl ?_
    refine V_iload_n (i := 0) dJ6_bitCount_0f7a4_35 rfl rfl ?_
    refine V_bipush (v := 8) dJ6_bitCount_0f7a4_36 (by decide) ?_
    refine V_iushrG (v := 0) dJ6_bitCount_0f7a4_38 (by decide) ?_
    refine V_iadd dJ6_bitCount_0f7a4_39 ?_
    refine V_top (b := 1) (by omega) ?_
    refine V_istore_n (i := 0) dJ6_bitCount_0f7a4_40 rfl rfl rfl ?_
    dsimp only [List.set_cons_zero, List.set_cons_succ]
    refine V_iload_n (i := 0) dJ6_bitCount_0f7a4_41 rfl rfl ?_
    refine V_iload_n (i := 0) dJ6_bitCount_0f7a4_42 rfl rfl ?_
    refine V_bipush (v := 16) dJ6_bitCount_0f7a4_43 (by decide) ?_
    refine V_iushrG (v := 0) dJ6_bitCount_0f7a4_45 (by decide) ?_
    refine V_iadd dJ6_bitCount_0f7a4_46 ?_
    refine V_top (b := 1) (by omega) ?_
    refine V_istore_n (i := 0) dJ6_bitCount_0f7a4_47 rfl rfl rfl ?_
    dsimp only [List.set_cons_zero, List.set_cons_succ]
    refine V_iload_n (i := 0) dJ6_bitCount_0f7a4_48 rfl rfl ?_
    refine V_bipush (v := 63) dJ6_bitCount_0f7a4_49 (by decide) ?_
    refine V_iandG (v := 1) dJ6_bitCount_0f7a4_51 (by decide) ?_
    refine V_iret hR dJ6_bitCount_0f7a4_52 hkc hks ?_
    exact ⟨rfl, rfl⟩
  · refine V_iload_n (i := 0) dJ6_bitCount_0f7a4_0 rfl rfl ?_
    refine V_iload_n (i := 0) dJ6_bitCount_0f7a4_1 rfl rfl ?_
    refine V_iconst (v := 1) dJ6_bitCount_0f7a4_2 rfl ?_
    refine V_iushrG (v := 1) dJ6_bitCount_0f7a4_3 (by decide) ?_
    refine V_ldc_w (v := 1431655765) dJ6_bitCount_0f7a4_4 kc_J6_bitCount_0f7a4_265 ?_
    refine V_iandG (v := 1) dJ6_bitCount_0f7a4_7 (by decide) ?_
    refine V_isub dJ6_bitCount_0f7a4_8 (by omega) ?_
    refine V_top (b := 2) (by omega) ?_
    refine V_istore_n (i := 0) dJ6_bitCount_0f7a4_9 rfl rfl rfl ?_
    dsimp only [List.set_cons_zero, List.set_cons_succ]
    refine V_iload_n (i := 0) dJ6_bitCount_0f7a4_10 rfl rfl ?_
    refine V_ldc_w (v := 858993459) dJ6_bitCount_0f7a4_11 kc_J6_bitCount_0f7a4_266 ?_
    refine V_iandG (v := 2) dJ6_bitCount_0f7a4_14 (by decide) ?_
    refine V_iload_n (i := 0) dJ6_bitCount_0f7a4_15 rfl rfl ?_
    refine V_iconst (v := 2) dJ6_bitCount_0f7a4_16 rfl ?_
    refine V_iushrG (v := 0) dJ6_bitCount_0f7a4_17 (by decide) ?_
    refine V_ldc_w (v := 858993459) dJ6_bitCount_0f7a4_18 kc_J6_bitCount_0f7a4_266 ?_
    refine V_iandG (v := 0) dJ6_bitCount_0f7a4_21 (by decide) ?_
    refine V_iadd dJ6_bitCount_0f7a4_22 ?_
    refine V_top (b := 2) (by omega) ?_
    refine V_istore_n (i := 0) dJ6_bitCount_0f7a4_23 rfl rfl rfl ?_
    dsimp only [List.set_cons_zero, List.set_cons_succ]
    refine V_iload_n (i := 0) dJ6_bitCount_0f7a4_24 rfl rfl ?_
    refine V_iload_n (i := 0) dJ6_bitCount_0f7a4_25 rfl rfl ?_
    refine V_iconst (v := 4) dJ6_bitCount_0f7a4_26 rfl ?_
    refine V_iushrG (v := 0) dJ6_bitCount_0f7a4_27 (by decide) ?_
    refine V_iadd dJ6_bitCount_0f7a4_28 ?_
    refine V_top (b := 2) (by omega) ?_
    refine V_ldc_w (v := 252645135) dJ6_bitCount_0f7a4_29 kc_J6_bitCount_0f7a4_267 ?_
    refine V_iandG (v := 2) dJ6_bitCount_0f7a4_32 (by decide) ?_
    refine V_istore_n (i := 0) dJ6_bitCount_0f7a4_33 rfl rfl rfl ?_
    dsimp only [List.set_cons_zero, List.set_cons_succ]
    refine V_iload_n (i := 0) dJ6_bitCount_0f7a4_34 rfl rfl ?_
    refine V_iload_n (i := 0) dJ6_bitCount_0f7a4_35 rfl rfl ?_
    refine V_bipush (v := 8) dJ6_bitCount_0f7a4_36 (by decide) ?_
    refine V_iushrG (v := 0) dJ6_bitCount_0f7a4_38 (by decide) ?_
    refine V_iadd dJ6_bitCount_0f7a4_39 ?_
    refine V_top (b := 2) (by omega) ?_
    refine V_istore_n (i := 0) dJ6_bitCount_0f7a4_40 rfl rfl rfl ?_
    dsimp only [List.set_cons_zero, List.set_cons_succ]
    refine V_iload_n (i := 0) dJ6_bitCount_0f7a4_41 rfl rfl ?_
    refine V_iload_n (i := 0) dJ6_bitCount_0f7a4_42 rfl rfl ?_
    refine V_bipush (v := 16) dJ6_bitCount_0f7a4_43 (by decide) ?_
    refine V_iushrG (v := 0) dJ6_bitCount_0f7a4_45 (by decide) ?_
    refine V_iadd dJ6_bitCount_0f7a4_46 ?_
    refine V_top (b := 2) (by omega) ?_
    refine V_istore_n (i := 0) dJ6_bitCount_0f7a4_47 rfl rfl rfl ?_
    dsimp only [List.set_cons_zero, List.set_cons_succ]
    refine V_iload_n (i := 0) dJ6_bitCount_0f7a4_48 rfl rfl ?_
    refine V_bipush (v := 63) dJ6_bitCount_0f7a4_49 (by decide) ?_
    refine V_iandG (v := 2) dJ6_bitCount_0f7a4_51 (by decide) ?_
    refine V_iret hR dJ6_bitCount_0f7a4_52 hkc hks ?_
    exact ⟨rfl, rfl⟩
  · refine V_iload_n (i := 0) dJ6_bitCount_0f7a4_0 rfl rfl ?_
    refine V_iload_n (i := 0) dJ6_bitCount_0f7a4_1 rfl rfl ?_
    refine V_iconst (v := 1) dJ6_bitCount_0f7a4_2 rfl ?_
    refine V_iushrG (v := 2) dJ6_bitCount_0f7a4_3 (by decide) ?_
    refine V_ldc_w (v := 1431655765) dJ6_bitCount_0f7a4_4 kc_J6_bitCount_0f7a4_265 ?_
    refine V_iandG (v := 0) dJ6_bitCount_0f7a4_7 (by decide) ?_
    refine V_isub dJ6_bitCount_0f7a4_8 (by omega) ?_
    refine V_top (b := 4) (by omega) ?_
    refine V_istore_n (i := 0) dJ6_bitCount_0f7a4_9 rfl rfl rfl ?_
    dsimp only [List.set_cons_zero, List.set_cons_succ]
    refine V_iload_n (i := 0) dJ6_bitCount_0f7a4_10 rfl rfl ?_
    refine V_ldc_w (v := 858993459) dJ6_bitCount_0f7a4_11 kc_J6_bitCount_0f7a4_266 ?_
    refine V_iandG (v := 0) dJ6_bitCount_0f7a4_14 (by decide) ?_
    refine V_iload_n (i := 0) dJ6_bitCount_0f7a4_15 rfl rfl ?_
    refine V_iconst (v := 2) dJ6_bitCount_0f7a4_16 rfl ?_
    refine V_iushrG (v := 1) dJ6_bitCount_0f7a4_17 (by decide) ?_
    refine V_ldc_w (v := 858993459) dJ6_bitCount_0f7a4_18 kc_J6_bitCount_0f7a4_266 ?_
    refine V_iandG (v := 1) dJ6_bitCount_0f7a4_21 (by decide) ?_
    refine V_iadd dJ6_bitCount_0f7a4_22 ?_
    refine V_top (b := 1) (by omega) ?_
    refine V_istore_n (i := 0) dJ6_bitCount_0f7a4_23 rfl rfl rfl ?_
    dsimp only [List.set_cons_zero, List.set_cons_succ]
    refine V_iload_n (i := 0) dJ6_bitCount_0f7a4_24 rfl rfl ?_
    refine V_iload_n (i := 0) dJ6_bitCount_0f7a4_25 rfl rfl ?_
    refine V_iconst (v := 4) dJ6_bitCount_0f7a4_26 rfl ?_
    refine V_iushrG (v := 0) dJ6_bitCount_0f7a4_27 (by decide) ?_
    refine V_iadd dJ6_bitCount_0f7a4_28 ?_
    refine V_top (b := 1) (by omega) ?_
    refine V_ldc_w (v := 252645135) dJ6_bitCount_0f7a4_29 kc_J6_bitCount_0f7a4_267 ?_
    refine V_iandG (v := 1) dJ6_bitCount_0f7a4_32 (by decide) ?_
    refine V_istore_n (i := 0) dJ6_bitCount_0f7a4_33 rfl rfl rfl ?_
    dsimp only [List.set_cons_zero, List.set_cons_succ]
    refine V_iload_n (i := 0) dJ6_bitCount_0f7a4_34 rfl rfl ?_
    refine V_iload_n (i := 0) dJ6_bitCount_0f7a4_35 rfl rfl ?_
    refine V_bipush (v := 8) dJ6_bitCount_0f7a4_36 (by decide) ?_
    refine V_iushrG (v := 0) dJ6_bitCount_0f7a4_38 (by decide) ?_
    refine V_iadd dJ6_bitCount_0f7a4_39 ?_
    refine V_top (b := 1) (by omega) ?_
    refine V_istore_n (i := 0) dJ6_bitCount_0f7a4_40 rfl rfl rfl ?_
    dsimp only [List.set_cons_zero, List.set_cons_succ]
    refine V_iload_n (i := 0) dJ6_bitCount_0f7a4_41 rfl rfl ?_
    refine V_iload_n (i := 0) dJ6_bitCount_0f7a4_42 rfl rfl ?_
    refine V_bipush (v := 16) dJ6_bitCount_0f7a4_43 (by decide) ?_
    refine V_iushrG (v := 0) dJ6_bitCount_0f7a4_45 (by decide) ?_
    refine V_iadd dJ6_bitCount_0f7a4_46 ?_
    refine V_top (b := 1) (by omega) ?_
    refine V_istore_n (i := 0) dJ6_bitCount_0f7a4_47 rfl rfl rfl ?_
    dsimp only [List.set_cons_zero, List.set_cons_succ]
    refine V_iload_n (i := 0) dJ6_bitCount_0f7a4_48 rfl rfl ?_
    refine V_bipush (v := 63) dJ6_bitCount_0f7a4_49 (by decide) ?_
    refine V_iandG (v := 1) dJ6_bitCount_0f7a4_51 (by decide) ?_
    refine V_iret hR dJ6_bitCount_0f7a4_52 hkc hks ?_
    exact ⟨rfl, rfl⟩
  · refine V_iload_n (i := 0) dJ6_bitCount_0f7a4_0 rfl rfl ?_
    refine V_iload_n (i := 0) dJ6_bitCount_0f7a4_1 rfl rfl ?_
    refine V_iconst (v := 1) dJ6_bitCount_0f7a4_2 rfl ?_
    refine V_iushrG (v := 2) dJ6_bitCount_0f7a4_3 (by decide) ?_
    refine V_ldc_w (v := 1431655765) dJ6_bitCount_0f7a4_4 kc_J6_bitCount_0f7a4_265 ?_
    refine V_iandG (v := 0) dJ6_bitCount_0f7a4_7 (by decide) ?_
    refine V_isub dJ6_bitCount_0f7a4_8 (by omega) ?_
    refine V_top (b := 5) (by omega) ?_
    refine V_istore_n (i := 0) dJ6_bitCount_0f7a4_9 rfl rfl rfl ?_
    dsimp only [List.set_cons_zero, List.set_cons_succ]
    refine V_iload_n (i := 0) dJ6_bitCount_0f7a4_10 rfl rfl ?_
    refine V_ldc_w (v := 858993459) dJ6_bitCount_0f7a4_11 kc_J6_bitCount_0f7a4_266 ?_
    refine V_iandG (v := 1) dJ6_bitCount_0f7a4_14 (by decide) ?_
    refine V_iload_n (i := 0) dJ6_bitCount_0f7a4_15 rfl rfl ?_
    refine V_iconst (v := 2) dJ6_bitCount_0f7a4_16 rfl ?_
    refine V_iushrG (v := 1) dJ6_bitCount_0f7a4_17 (by decide) ?_
    refine V_ldc_w (v := 858993459) dJ6_bitCount_0f7a4_18 kc_J6_bitCount_0f7a4_266 ?_
    refine V_iandG (v := 1) dJ6_bitCount_0f7a4_21 (by decide) ?_
    refine V_iadd dJ6_bitCount_0f7a4_22 ?_
    refine V_top (b := 2) (by omega) ?_
    refine V_istore_n (i := 0) dJ6_bitCount_0f7a4_23 rfl rfl rfl ?_
    dsimp only [List.set_cons_zero, List.set_cons_succ]
    refine V_iload_n (i := 0) dJ6_bitCount_0f7a4_24 rfl rfl ?_
    refine V_iload_n (i := 0) dJ6_bitCount_0f7a4_25 rfl rfl ?_
    refine V_iconst (v := 4) dJ6_bitCount_0f7a4_26 rfl ?_
    refine V_iushrG (v := 0) dJ6_bitCount_0f7a4_27 (by decide) ?_
    refine V_iadd dJ6_bitCount_0f7a4_28 ?_
    refine V_top (b := 2) (by omega) ?_
    refine V_ldc_w (v := 252645135) dJ6_bitCount_0f7a4_29 kc_J6_bitCount_0f7a4_267 ?_
    refine V_iandG (v := 2) dJ6_bitCount_0f7a4_32 (by decide) ?_
    refine V_istore_n (i := 0) dJ6_bitCount_0f7a4_33 rfl rfl rfl ?_
    dsimp only [List.set_cons_zero, List.set_cons_succ]
    refine V_iload_n (i := 0) dJ6_bitCount_0f7a4_34 rfl rfl ?_
    refine V_iload_n (i := 0) dJ6_bitCount_0f7a4_35 rfl rfl ?_
    refine V_bipush (v := 8) dJ6_bitCount_0f7a4_36 (by decide) ?_
    refine V_iushrG (v := 0) dJ6_bitCount_0f7a4_38 (by decide) ?_
    refine V_iadd dJ6_bitCount_0f7a4_39 ?_
    refine V_top (b := 2) (by omega) ?_
    refine V_istore_n (i := 0) dJ6_bitCount_0f7a4_40 rfl rfl rfl ?_
    dsimp only [List.set_cons_zero, List.set_cons_succ]
    refine V_iload_n (i := 0) dJ6_bitCount_0f7a4_41 rfl rfl ?_
    refine V_iload_n (i := 0) dJ6_bitCount_0f7a4_42 rfl rfl ?_
    refine V_bipush (v := 16) dJ6_bitCount_0f7a4_43 (by decide) ?_
    refine V_iushrG (v := 0) dJ6_bitCount_0f7a4_45 (by decide) ?_
    refine V_iadd dJ6_bitCount_0f7a4_46 ?_
    refine V_top (b := 2) (by omega) ?_
    refine V_istore_n (i := 0) dJ6_bitCount_0f7a4_47 rfl rfl rfl ?_
    dsimp only [List.set_cons_zero, List.set_cons_succ]
    refine V_iload_n (i := 0) dJ6_bitCount_0f7a4_48 rfl rfl ?_
    refine V_bipush (v := 63) dJ6_bitCount_0f7a4_49 (by decide) ?_
    refine V_iandG (v := 2) dJ6_bitCount_0f7a4_51 (by decide) ?_
    refine V_iret hR dJ6_bitCount_0f7a4_52 hkc hks ?_
    exact ⟨rfl, rfl⟩
  · refine V_iload_n (i := 0) dJ6_bitCount_0f7a4_0 rfl rfl ?_
    refine V_iload_n (i := 0) dJ6_bitCount_0f7a4_1 rfl rfl ?_
    refine V_iconst (v := 1) dJ6_bitCount_0f7a4_2 rfl ?_
    refine V_iushrG (v := 3) dJ6_bitCount_0f7a4_3 (by decide) ?_
    refine V_ldc_w (v := 1431655765) dJ6_bitCount_0f7a4_4 kc_J6_bitCount_0f7a4_265 ?_
    refine V_iandG (v := 1) dJ6_bitCount_0f7a4_7 (by decide) ?_
    refine V_isub dJ6_bitCount_0f7a4_8 (by omega) ?_
    refine V_top (b := 5) (by omega) ?_
    refine V_istore_n (i := 0) dJ6_bitCount_0f7a4_9 rfl rfl rfl ?_
    dsimp only [List.set_cons_zero, List.set_cons_succ]
    refine V_iload_n (i := 0) dJ6_bitCount_0f7a4_10 rfl rfl ?_
    refine V_ldc_w (v := 858993459) dJ6_bitCount_0f7a4_11 kc_J6_bitCount_0f7a4_266 ?_
    refine V_iandG (v := 1) dJ6_bitCount_0f7a4_14 (by decide) ?_
    refine V_iload_n (i := 0) dJ6_bitCount_0f7a4_15 rfl rfl ?_
    refine V_iconst (v := 2) dJ6_bitCount_0f7a4_16 rfl ?_
    refine V_iushrG (v := 1) dJ6_bitCount_0f7a4_17 (by decide) ?_
    refine V_ldc_w (v := 858993459) dJ6_bitCount_0f7a4_18 kc_J6_bitCount_0f7a4_266 ?_
    refine V_iandG (v := 1) dJ6_bitCount_0f7a4_21 (by decide) ?_
    refine V_iadd dJ6_bitCount_0f7a4_22 ?_
    refine V_top (b := 2) (by omega) ?_
    refine V_istore_n (i := 0) dJ6_bitCount_0f7a4_23 rfl rfl rfl ?_
    dsimp only [List.set_cons_zero, List.set_cons_succ]
    refine V_iload_n (i := 0) dJ6_bitCount_0f7a4_24 rfl rfl ?_
    refine V_iload_n (i := 0) dJ6_bitCount_0f7a4_25 rfl rfl ?_
    refine V_iconst (v := 4) dJ6_bitCount_0f7a4_26 rfl ?_
    refine V_iushrG (v := 0) dJ6_bitCount_0f7a4_27 (by decide) ?_
    refine V_iadd dJ6_bitCount_0f7a4_28 ?_
    refine V_top (b := 2) (by omega) ?_
    refine V_ldc_w (v := 252645135) dJ6_bitCount_0f7a4_29 kc_J6_bitCount_0f7a4_267 ?_
    refine V_iandG (v := 2) dJ6_bitCount_0f7a4_32 (by decide) ?_
    refine V_istore_n (i := 0) dJ6_bitCount_0f7a4_33 rfl rfl rfl ?_
    dsimp only [List.set_cons_zero, List.set_cons_succ]
    refine V_iload_n (i := 0) dJ6_bitCount_0f7a4_34 rfl rfl ?_
    refine V_iload_n (i := 0) dJ6_bitCount_0f7a4_35 rfl rfl ?_
    refine V_bipush (v := 8) dJ6_bitCount_0f7a4_36 (by decide) ?_
    refine V_iushrG (v := 0) dJ6_bitCount_0f7a4_38 (by decide) ?_
    refine V_iadd dJ6_bitCount_0f7a4_39 ?_
    refine V_top (b := 2) (by omega) ?_
    refine V_istore_n (i := 0) dJ6_bitCount_0f7a4_40 rfl rfl rfl ?_
    dsimp only [List.set_cons_zero, List.set_cons_succ]
    refine V_iload_n (i := 0) dJ6_bitCount_0f7a4_41 rfl rfl ?_
    refine V_iload_n (i := 0) dJ6_bitCount_0f7a4_42 rfl rfl ?_
    refine V_bipush (v := 16) dJ6_bitCount_0f7a4_43 (by decide) ?_
    refine V_iushrG (v := 0) dJ6_bitCount_0f7a4_45 (by decide) ?_
    refine V_iadd dJ6_bitCount_0f7a4_46 ?_
    refine V_top (b := 2) (by omega) ?_
    refine V_istore_n (i := 0) dJ6_bitCount_0f7a4_47 rfl rfl rfl ?_
    dsimp only [List.set_cons_zero, List.set_cons_succ]
    refine V_iload_n (i := 0) dJ6_bitCount_0f7a4_48 rfl rfl ?_
    refine V_bipush (v := 63) dJ6_bitCount_0f7a4_49 (by decide) ?_
    refine V_iandG (v := 2) dJ6_bitCount_0f7a4_51 (by decide) ?_
    refine V_iret hR dJ6_bitCount_0f7a4_52 hkc hks ?_
    exact ⟨rfl, rfl⟩
  · refine V_iload_n (i := 0) dJ6_bitCount_0f7a4_0 rfl rfl ?_
    refine V_iload_n (i := 0) dJ6_bitCount_0f7a4_1 rfl rfl ?_
    refine V_iconst (v := 1) dJ6_bitCount_0f7a4_2 rfl ?_
    refine V_iushrG (v := 3) dJ6_bitCount_0f7a4_3 (by decide) ?_
    refine V_ldc_w (v := 1431655765) dJ6_bitCount_0f7a4_4 kc_J6_bitCount_0f7a4_265 ?_
    refine V_iandG (v := 1) dJ6_bitCount_0f7a4_7 (by decide) ?_
    refine V_isub dJ6_bitCount_0f7a4_8 (by omega) ?_
    refine V_top (b := 6) (by omega) ?_
    refine V_istore_n (i := 0) dJ6_bitCount_0f7a4_9 rfl rfl rfl ?_
    dsimp only [List.set_cons_zero, List.set_cons_succ]
    refine V_iload_n (i := 0) dJ6_bitCount_0f7a4_10 rfl rfl ?_
    refine V_ldc_w (v := 858993459) dJ6_bitCount_0f7a4_11 kc_J6_bitCount_0f7a4_266 ?_
    refine V_iandG (v := 2) dJ6_bitCount_0f7a4_14 (by decide) ?_
    refine V_iload_n (i := 0) dJ6_bitCount_0f7a4_15 rfl rfl ?_
    refine V_iconst (v := 2) dJ6_bitCount_0f7a4_16 rfl ?_
    refine V_iushrG (v := 1) dJ6_bitCount_0f7a4_17 (by decide) ?_
    refine V_ldc_w (v := 858993459) dJ6_bitCount_0f7a4_18 kc_J6_bitCount_0f7a4_266 ?_
    refine V_iandG (v := 1) dJ6_bitCount_0f7a4_21 (by decide) ?_
    refine V_iadd dJ6_bitCount_0f7a4_22 ?_
    refine V_top (b := 3) (by omega) ?_
    refine V_istore_n (i := 0) dJ6_bitCount_0f7a4_23 rfl rfl rfl ?_
    dsimp only [List.set_cons_zero, List.set_cons_succ]
    refine V_iload_n (i := 0) dJ6_bitCount_0f7a4_24 rfl rfl ?_
    refine V_iload_n (i := 0) dJ6_bitCount_0f7a4_25 rfl rfl ?_
    refine V_iconst (v := 4) dJ6_bitCount_0f7a4_26 rfl ?_
    refine V_iushrG (v := 0) dJ6_bitCount_0f7a4_27 (by decide) ?_
    refine V_iadd dJ6_bitCount_0f7a4_28 ?_
    refine V_top (b := 3) (by omega) ?_
    refine V_ldc_w (v := 252645135) dJ6_bitCount_0f7a4_29 kc_J6_bitCount_0f7a4_267 ?_
    refine V_iandG (v := 3) dJ6_bitCount_0f7a4_32 (by decide) ?_
    refine V_istore_n (i := 0) dJ6_bitCount_0f7a4_33 rfl rfl rfl ?_
    dsimp only [List.set_cons_zero, List.set_cons_succ]
    refine V_iload_n (i := 0) dJ6_bitCount_0f7a4_34 rfl rfl ?_
    refine V_iload_n (i := 0) dJ6_bitCount_0f7a4_35 rfl rfl ?_
    refine V_bipush (v := 8) dJ6_bitCount_0f7a4_36 (by decide) ?_
    refine V_iushrG (v := 0) dJ6_bitCount_0f7a4_38 (by decide) ?_
    refine V_iadd dJ6_bitCount_0f7a4_39 ?_
    refine V_top (b := 3) (by omega) ?_
    refine V_istore_n (i := 0) dJ6_bitCount_0f7a4_40 rfl rfl rfl ?_
    dsimp only [List.set_cons_zero, List.set_cons_succ]
    refine V_iload_n (i := 0) dJ6_bitCount_0f7a4_41 rfl rfl ?_
    refine V_iload_n (i := 0) dJ6_bitCount_0f7a4_42 rfl rfl ?_
    refine V_bipush (v := 16) dJ6_bitCount_0f7a4_43 (by decide) ?_
    refine V_iushrG (v := 0) dJ6_bitCount_0f7a4_45 (by decide) ?_
    refine V_iadd dJ6_bitCount_0f7a4_46 ?_
    refine V_top (b := 3) (by omega) ?_
    refine V_istore_n (i := 0) dJ6_bitCount_0f7a4_47 rfl rfl rfl ?_
    dsimp only [List.set_cons_zero, List.set_cons_succ]
    refine V_iload_n (i := 0) dJ6_bitCount_0f7a4_48 rfl rfl ?_
    refine V_bipush (v := 63) dJ6_bitCount_0f7a4_49 (by decide) ?_
    refine V_iandG (v := 3) dJ6_bitCount_0f7a4_51 (by decide) ?_
    refine V_iret hR dJ6_bitCount_0f7a4_52 hkc hks ?_
    exact ⟨rfl, rfl⟩

abbrev rX2_cellsOfSeveralWriters : Room := { frames := 1, cells := 0, slots := 0, locals := 20 }
theorem vy_X2_cellsOfSeveralWriters : vY yX2_cellsOfSeveralWriters wsX2_cellsOfSeveralWriters cX2_cellsOfSeveralWriters 3 (some .int) 0 := ⟨⟨_, rfl⟩, by decide +kernel, by decide +kernel, by decide +kernel⟩
theorem fl_X2_cellsOfSeveralWriters_43 : Cond.fieldLink RX2 43 "OrderChains$Engine" "writerBits" "[I" ∈ wsX2_cellsOfSeveralWriters := List.mem_of_getElem? (i := 1) rfl
theorem il_X2_cellsOfSeveralWriters_X2 : ∀ w ∈ wsX20, w ∈ wsX2_cellsOfSeveralWriters := fun _ h => List.mem_cons_of_mem _ (List.mem_append_right _ h)
set_option maxHeartbeats 4000000 in
set_option maxRecDepth 100000 in
/-- Engine.cellsOfSeveralWriters -/
theorem c_X2_cellsOfSeveralWriters (l : Launch) (G : vG) (a s bits : Nat → Nat) (hb : ∀ k, k < 96 → bits k < 8) : Kc l G yX2_cellsOfSeveralWriters wsX2_cellsOfSeveralWriters rX2_cellsOfSeveralWriters [.ref (a 0)] [eO a s, iA G (a 9) 96 bits] (fun r Y => r = some (.int (nI (vsum (fun k => if bc8 (bits k) ≤ 1 then 0 else 1) 96))) ∧ Y = [eO a s, iA G (a 9) 96 bits]) 0 0 := by
  refine V_enter (own := RX2) [some (.ref (a 0)), none, none] (by decide +kernel) rfl rfl (Nat.le_of_ble_eq_true rfl) rfl (fun Γ hR hin => ?_)
  have hkc : 0 ≤ 0 := Nat.le_refl 0
  have hks : 0 ≤ 0 := Nat.le_refl 0
  have LP4 : ∀ (fuel : Nat) (c : Nat), 97 ≤ c + fuel → c ≤ 96 → V l G (cX2_cellsOfSeveralWriters, 3, wsX2_cellsOfSeveralWriters, RX2, rX2_cellsOfSeveralWriters) Γ 0 0 4 [some (.ref (a 0)), some (.int (nI (vsum (fun k => if bc8 (bits k) ≤ 1 then 0 else 1) c))), some (.int (nI c))] [] [eO a s, iA G (a 9) 96 bits] := by
    intro fuel
    induction fuel with
    | zero => intro c hf hc; exact absurd hf (by omega)
    | succ fuel ih =>
      intro c hf hc
      refine V_iload_n (i := 2) dX2_cellsOfSeveralWriters_4 rfl rfl ?_
      refine V_bipush (v := 96) dX2_cellsOfSeveralWriters_5 (by decide) ?_
      refine V_icmp_ge (tgt := 32) (by omega) (by omega) dX2_cellsOfSeveralWriters_7 rfl (fun h_7 => ?_) (fun h_7 => ?_)
      · refine V_iload_n (i := 1) dX2_cellsOfSeveralWriters_32 rfl rfl ?_
        refine V_iret hR dX2_cellsOfSeveralWriters_33 hkc hks ?_
        exact ⟨by rw [show c = 96 by omega], rfl⟩
      · refine V_aload_n (i := 0) dX2_cellsOfSeveralWriters_10 rfl rfl ?_
        refine V_get (C := RX2) (T := TX2) (N := 11) (ci := 2) (q := 0) (ref := "OrderChains$Engine") 9 rfl il_X2_cellsOfSeveralWriters_X2 rfl rfl fl_X2_cellsOfSeveralWriters_43 rfl rfl dX2_cellsOfSeveralWriters_11 ?_
        refine V_iload_n (i := 2) dX2_cellsOfSeveralWriters_14 rfl rfl ?_
        refine V_iald (q := 1) rfl (by omega) rfl dX2_cellsOfSeveralWriters_15 ?_
        refine V_callS (As := _) (rest := []) [] (c_J6_bitCount l G (bits c) (hb c (by omega))) vy_J6_bitCount_0f7a4 gX2_cellsOfSeveralWriters_J6_bitCount_0f7a4 rfl rfl rfl rfl ⟨rfl, rfl⟩ ⟨rfl, rfl⟩ ⟨Nat.zero_le _, Nat.zero_le _⟩ rfl dX2_cellsOfSeveralWriters_16 (fun v Y hE => ?_)
        obtain ⟨rfl, rfl⟩ := hE
        refine ⟨rfl, ?_⟩
        dsimp only [vfill, List.set_cons_zero, List.set_cons_succ, Option.toList, List.cons_append, List.nil_append, Nat.add_zero]
        refine V_iconst (v := 1) dX2_cellsOfSeveralWriters_19 rfl ?_
        refine V_icmp_le (tgt := 26) (by have : bc8 (bits c) ≤ 3 := (by unfold bc8; split; omega; split; omega; split <;> omega); omega) (by have : bc8 (bits c) ≤ 3 := (by unfold bc8; split; omega; split; omega; split <;> omega); omega) dX2_cellsOfSeveralWriters_20 rfl (fun h_20 => ?_) (fun h_20 => ?_)
        · refine V_iinc dX2_cellsOfSeveralWriters_26 rfl (nI_1 _) rfl rfl ?_
          dsimp only [List.set_cons_zero, List.set_cons_succ]
          refine V_goto (tgt := 4) dX2_cellsOfSeveralWriters_29 rfl ?_
          first | (have e : vsum (fun k => if bc8 (bits k) ≤ 1 then 0 else 1) (c + 1) = vsum (fun k => if bc8 (bits k) ≤ 1 then 0 else 1) c := (by show vsum (fun k => if bc8 (bits k) ≤ 1 then 0 else 1) c + (if bc8 (bits c) ≤ 1 then 0 else 1) = _; rw [if_pos h_20]; rfl); rw [← e]; exact ih (c + 1) (by omega) (by omega)) | (have e : vsum (fun k => if bc8 (bits k) ≤ 1 then 0 else 1) (c + 1) = vsum (fun k => if bc8 (bits k) ≤ 1 then 0 else 1) c + 1 := (by show vsum (fun k => if bc8 (bits k) ≤ 1 then 0 else 1) c + (if bc8 (bits c) ≤ 1 then 0 else 1) = _; rw [if_neg h_20]); rw [← e]; exact ih (c + 1) (by omega) (by omega))
        · refine V_iinc dX2_cellsOfSeveralWriters_23 rfl (nI_1 _) rfl rfl ?_
          dsimp only [List.set_cons_zero, List.set_cons_succ]
          refine V_iinc dX2_cellsOfSeveralWriters_26 rfl (nI_1 _) rfl rfl ?_
          dsimp only [List.set_cons_zero, List.set_cons_succ]
          refine V_goto (tgt := 4) dX2_cellsOfSeveralWriters_29 rfl ?_
          first | (have e : vsum (fun k => if bc8 (bits k) ≤ 1 then 0 else 1) (c + 1) = vsum (fun k => if bc8 (bits k) ≤ 1 then 0 else 1) c := (by show vsum (fun k => if bc8 (bits k) ≤ 1 then 0 else 1) c + (if bc8 (bits c) ≤ 1 then 0 else 1) = _; rw [if_pos h_20]; rfl); rw [← e]; exact ih (c + 1) (by omega) (by omega)) | (have e : vsum (fun k => if bc8 (bits k) ≤ 1 then 0 else 1) (c + 1) = vsum (fun k => if bc8 (bits k) ≤ 1 then 0 else 1) c + 1 := (by show vsum (fun k => if bc8 (bits k) ≤ 1 then 0 else 1) c + (if bc8 (bits c) ≤ 1 then 0 else 1) = _; rw [if_neg h_20]); rw [← e]; exact ih (c + 1) (by omega) (by omega))
  refine V_iconst (v := 0) dX2_cellsOfSeveralWriters_0 rfl ?_
  refine V_istore_n (i := 1) dX2_cellsOfSeveralWriters_1 rfl rfl rfl ?_
  dsimp only [List.set_cons_zero, List.set_cons_succ]
  refine V_iconst (v := 0) dX2_cellsOfSeveralWriters_2 rfl ?_
  refine V_istore_n (i := 2) dX2_cellsOfSeveralWriters_3 rfl rfl rfl ?_
  dsimp only [List.set_cons_zero, List.set_cons_succ]
  exact LP4 97 0 (by omega) (by omega)

abbrev rX2_channelsThatAre : Room := { frames := 0, cells := 0, slots := 0, locals := 0 }
theorem vy_X2_channelsThatAre : vY yX2_channelsThatAre wsX2_channelsThatAre cX2_channelsThatAre 4 (some .int) 1 := ⟨⟨_, rfl⟩, by decide +kernel, by decide +kernel, by decide +kernel⟩
theorem fl_X2_channelsThatAre_26 : Cond.fieldLink RX2 26 "OrderChains$Engine" "channels" "[LOrderChains$Channel;" ∈ wsX2_channelsThatAre := List.mem_of_getElem? (i := 1) rfl
theorem il_X2_channelsThatAre_X2 : ∀ w ∈ wsX20, w ∈ wsX2_channelsThatAre := fun _ h => List.mem_cons_of_mem _ (List.mem_append_left _ (List.mem_append_right _ h))
theorem fl_X2_channelsThatAre_72 : Cond.fieldLink RX2 72 "OrderChains$Channel" "condition" "I" ∈ wsX2_channelsThatAre := List.mem_of_getElem? (i := 2) rfl
theorem il_X2_channelsThatAre_X1 : ∀ w ∈ wsX10, w ∈ wsX2_channelsThatAre := fun _ h => List.mem_cons_of_mem _ (List.mem_append_right _ h)
set_option maxHeartbeats 4000000 in
set_option maxRecDepth 100000 in
/-- Engine.channelsThatAre -/
theorem c_X2_channelsThatAre (l : Launch) (G : vG) (a s : Nat → Nat) (ch : Nat → Nat → Nat) (c : Nat) (hc : c < 4294967296) (h0 : ch 0 0 < 4294967296) (h1 : ch 1 0 < 4294967296) (h2 : ch 2 0 < 4294967296) : Kc l G yX2_channelsThatAre wsX2_channelsThatAre rX2_channelsThatAre [.ref (a 0), .int (nI c)] [eO a s, eC G a, cX (a 6) (ch 0), cX (a 7) (ch 1), cX (a 8) (ch 2)] (fun r Y => r = some (.int (nI (vsum (fun h => if ch h 0 = c then 1 else 0) 3))) ∧ Y = [eO a s, eC G a, cX (a 6) (ch 0), cX (a 7) (ch 1), cX (a 8) (ch 2)]) 0 0 := by
  refine V_enter (own := RX2) [some (.ref (a 0)), some (.int (nI c)), none, none] (by decide +kernel) rfl rfl (Nat.le_of_ble_eq_true rfl) rfl (fun Γ hR hin => ?_)
  have hkc : 0 ≤ 0 := Nat.le_refl 0
  have hks : 0 ≤ 0 := Nat.le_refl 0
  refine V_iconst (v := 0) dX2_channelsThatAre_0 rfl ?_
  refine V_istore_n (i := 2) dX2_channelsThatAre_1 rfl rfl rfl ?_
  dsimp only [List.set_cons_zero, List.set_cons_succ]
  refine V_iconst (v := 0) dX2_channelsThatAre_2 rfl ?_
  refine V_istore_n (i := 3) dX2_channelsThatAre_3 rfl rfl rfl ?_
  dsimp only [List.set_cons_zero, List.set_cons_succ]
  refine V_iload_n (i := 3) dX2_channelsThatAre_4 rfl rfl ?_
  refine V_iconst (v := 3) dX2_channelsThatAre_5 rfl ?_
  refine V_icmp_ge (tgt := 31) (by omega) (by omega) dX2_channelsThatAre_6 rfl (fun h_6 => ?_) (fun h_6 => ?_)
  · exfalso; omega
  · refine V_aload_n (i := 0) dX2_channelsThatAre_9 rfl rfl ?_
    refine V_get (C := RX2) (T := TX2) (N := 11) (ci := 2) (q := 0) (ref := "OrderChains$Engine") 4 rfl il_X2_channelsThatAre_X2 rfl rfl fl_X2_channelsThatAre_26 rfl rfl dX2_channelsThatAre_10 ?_
    refine V_iload_n (i := 3) dX2_channelsThatAre_13 rfl rfl ?_
    refine V_aaldC (q := 1) rfl (by omega) rfl dX2_channelsThatAre_14 ?_
    refine V_get (C := RX1) (T := TX1) (N := 13) (ci := 1) (q := 2) (ref := "OrderChains$Channel") 0 rfl il_X2_channelsThatAre_X1 rfl rfl fl_X2_channelsThatAre_72 rfl rfl dX2_channelsThatAre_15 ?_
    refine V_iload_n (i := 1) dX2_channelsThatAre_18 rfl rfl ?_
    refine V_icmp_ne (tgt := 25) (by first | exact h0 | exact h1 | exact h2 | omega) (by first | exact h0 | exact h1 | exact h2 | omega) dX2_channelsThatAre_19 rfl (fun h_19 => ?_) (fun h_19 => ?_)
    · refine V_iinc (v := 1) dX2_channelsThatAre_25 rfl (by decide) rfl rfl ?_
      dsimp only [List.set_cons_zero, List.set_cons_succ]
      refine V_goto (tgt := 4) dX2_channelsThatAre_28 rfl ?_
      refine V_iload_n (i := 3) dX2_channelsThatAre_4 rfl rfl ?_
      refine V_iconst (v := 3) dX2_channelsThatAre_5 rfl ?_
      refine V_icmp_ge (tgt := 31) (by omega) (by omega) dX2_channelsThatAre_6 rfl (fun h_6_2 => ?_) (fun h_6_2 => ?_)
      · exfalso; omega
      · refine V_aload_n (i := 0) dX2_channelsThatAre_9 rfl rfl ?_
        refine V_get (C := RX2) (T := TX2) (N := 11) (ci := 2) (q := 0) (ref := "OrderChains$Engine") 4 rfl il_X2_channelsThatAre_X2 rfl rfl fl_X2_channelsThatAre_26 rfl rfl dX2_channelsThatAre_10 ?_
        refine V_iload_n (i := 3) dX2_channelsThatAre_13 rfl rfl ?_
        refine V_aaldC (q := 1) rfl (by omega) rfl dX2_channelsThatAre_14 ?_
        refine V_get (C := RX1) (T := TX1) (N := 13) (ci := 1) (q := 3) (ref := "OrderChains$Channel") 0 rfl il_X2_channelsThatAre_X1 rfl rfl fl_X2_channelsThatAre_72 rfl rfl dX2_channelsThatAre_15 ?_
        refine V_iload_n (i := 1) dX2_channelsThatAre_18 rfl rfl ?_
        refine V_icmp_ne (tgt := 25) (by first | exact h0 | exact h1 | exact h2 | omega) (by first | exact h0 | exact h1 | exact h2 | omega) dX2_channelsThatAre_19 rfl (fun h_19_2 => ?_) (fun h_19_2 => ?_)
        · refine V_iinc (v := 2) dX2_channelsThatAre_25 rfl (by decide) rfl rfl ?_
          dsimp only [List.set_cons_zero, List.set_cons_succ]
          refine V_goto (tgt := 4) dX2_channelsThatAre_28 rfl ?_
          refine V_iload_n (i := 3) dX2_channelsThatAre_4 rfl rfl ?_
          refine V_iconst (v := 3) dX2_channelsThatAre_5 rfl ?_
          refine V_icmp_ge (tgt := 31) (by omega) (by omega) dX2_channelsThatAre_6 rfl (fun h_6_3 => ?_) (fun h_6_3 => ?_)
          · exfalso; omega
          · refine V_aload_n (i := 0) dX2_channelsThatAre_9 rfl rfl ?_
            refine V_get (C := RX2) (T := TX2) (N := 11) (ci := 2) (q := 0) (ref := "OrderChains$Engine") 4 rfl il_X2_channelsThatAre_X2 rfl rfl fl_X2_channelsThatAre_26 rfl rfl dX2_channelsThatAre_10 ?_
            refine V_iload_n (i := 3) dX2_channelsThatAre_13 rfl rfl ?_
            refine V_aaldC (q := 1) rfl (by omega) rfl dX2_channelsThatAre_14 ?_
            refine V_get (C := RX1) (T := TX1) (N := 13) (ci := 1) (q := 4) (ref := "OrderChains$Channel") 0 rfl il_X2_channelsThatAre_X1 rfl rfl fl_X2_channelsThatAre_72 rfl rfl dX2_channelsThatAre_15 ?_
            refine V_iload_n (i := 1) dX2_channelsThatAre_18 rfl rfl ?_
            refine V_icmp_ne (tgt := 25) (by first | exact h0 | exact h1 | exact h2 | omega) (by first | exact h0 | exact h1 | exact h2 | omega) dX2_channelsThatAre_19 rfl (fun h_19_3 => ?_) (fun h_19_3 => ?_)
            · refine V_iinc (v := 3) dX2_channelsThatAre_25 rfl (by decide) rfl rfl ?_
              dsimp only [List.set_cons_zero, List.set_cons_succ]
              refine V_goto (tgt := 4) dX2_channelsThatAre_28 rfl ?_
              refine V_iload_n (i := 3) dX2_channelsThatAre_4 rfl rfl ?_
              refine V_iconst (v := 3) dX2_channelsThatAre_5 rfl ?_
              refine V_icmp_ge (tgt := 31) (by omega) (by omega) dX2_channelsThatAre_6 rfl (fun h_6_4 => ?_) (fun h_6_4 => ?_)
              · refine V_iload_n (i := 2) dX2_channelsThatAre_31 rfl rfl ?_
                refine V_iret hR dX2_channelsThatAre_32 hkc hks ?_
                refine ⟨?_, rfl⟩
                simp [vsum, h_19, h_19_2, h_19_3]
              · exfalso; omega
            · refine V_iinc (v := 1) dX2_channelsThatAre_22 rfl (by decide) rfl rfl ?_
              dsimp only [List.set_cons_zero, List.set_cons_succ]
              refine V_iinc (v := 3) dX2_channelsThatAre_25 rfl (by decide) rfl rfl ?_
              dsimp only [List.set_cons_zero, List.set_cons_succ]
              refine V_goto (tgt := 4) dX2_channelsThatAre_28 rfl ?_
              refine V_iload_n (i := 3) dX2_channelsThatAre_4 rfl rfl ?_
              refine V_iconst (v := 3) dX2_channelsThatAre_5 rfl ?_
              refine V_icmp_ge (tgt := 31) (by omega) (by omega) dX2_channelsThatAre_6 rfl (fun h_6_4 => ?_) (fun h_6_4 => ?_)
              · refine V_iload_n (i := 2) dX2_channelsThatAre_31 rfl rfl ?_
                refine V_iret hR dX2_channelsThatAre_32 hkc hks ?_
                refine ⟨?_, rfl⟩
                simp [vsum, h_19, h_19_2, h_19_3]
              · exfalso; omega
        · refine V_iinc (v := 1) dX2_channelsThatAre_22 rfl (by decide) rfl rfl ?_
          dsimp only [List.set_cons_zero, List.set_cons_succ]
          refine V_iinc (v := 2) dX2_channelsThatAre_25 rfl (by decide) rfl rfl ?_
          dsimp only [List.set_cons_zero, List.set_cons_succ]
          refine V_goto (tgt := 4) dX2_channelsThatAre_28 rfl ?_
          refine V_iload_n (i := 3) dX2_channelsThatAre_4 rfl rfl ?_
          refine V_iconst (v := 3) dX2_channelsThatAre_5 rfl ?_
          refine V_icmp_ge (tgt := 31) (by omega) (by omega) dX2_channelsThatAre_6 rfl (fun h_6_3 => ?_) (fun h_6_3 => ?_)
          · exfalso; omega
          · refine V_aload_n (i := 0) dX2_channelsThatAre_9 rfl rfl ?_
            refine V_get (C := RX2) (T := TX2) (N := 11) (ci := 2) (q := 0) (ref := "OrderChains$Engine") 4 rfl il_X2_channelsThatAre_X2 rfl rfl fl_X2_channelsThatAre_26 rfl rfl dX2_channelsThatAre_10 ?_
            refine V_iload_n (i := 3) dX2_channelsThatAre_13 rfl rfl ?_
            refine V_aaldC (q := 1) rfl (by omega) rfl dX2_channelsThatAre_14 ?_
            refine V_get (C := RX1) (T := TX1) (N := 13) (ci := 1) (q := 4) (ref := "OrderChains$Channel") 0 rfl il_X2_channelsThatAre_X1 rfl rfl fl_X2_channelsThatAre_72 rfl rfl dX2_channelsThatAre_15 ?_
            refine V_iload_n (i := 1) dX2_channelsThatAre_18 rfl rfl ?_
            refine V_icmp_ne (tgt := 25) (by first | exact h0 | exact h1 | exact h2 | omega) (by first | exact h0 | exact h1 | exact h2 | omega) dX2_channelsThatAre_19 rfl (fun h_19_3 => ?_) (fun h_19_3 => ?_)
            · refine V_iinc (v := 3) dX2_channelsThatAre_25 rfl (by decide) rfl rfl ?_
              dsimp only [List.set_cons_zero, List.set_cons_succ]
              refine V_goto (tgt := 4) dX2_channelsThatAre_28 rfl ?_
              refine V_iload_n (i := 3) dX2_channelsThatAre_4 rfl rfl ?_
              refine V_iconst (v := 3) dX2_channelsThatAre_5 rfl ?_
              refine V_icmp_ge (tgt := 31) (by omega) (by omega) dX2_channelsThatAre_6 rfl (fun h_6_4 => ?_) (fun h_6_4 => ?_)
              · refine V_iload_n (i := 2) dX2_channelsThatAre_31 rfl rfl ?_
                refine V_iret hR dX2_channelsThatAre_32 hkc hks ?_
                refine ⟨?_, rfl⟩
                simp [vsum, h_19, h_19_2, h_19_3]
              · exfalso; omega
            · refine V_iinc (v := 2) dX2_channelsThatAre_22 rfl (by decide) rfl rfl ?_
              dsimp only [List.set_cons_zero, List.set_cons_succ]
              refine V_iinc (v := 3) dX2_channelsThatAre_25 rfl (by decide) rfl rfl ?_
              dsimp only [List.set_cons_zero, List.set_cons_succ]
              refine V_goto (tgt := 4) dX2_channelsThatAre_28 rfl ?_
              refine V_iload_n (i := 3) dX2_channelsThatAre_4 rfl rfl ?_
              refine V_iconst (v := 3) dX2_channelsThatAre_5 rfl ?_
              refine V_icmp_ge (tgt := 31) (by omega) (by omega) dX2_channelsThatAre_6 rfl (fun h_6_4 => ?_) (fun h_6_4 => ?_)
              · refine V_iload_n (i := 2) dX2_channelsThatAre_31 rfl rfl ?_
                refine V_iret hR dX2_channelsThatAre_32 hkc hks ?_
                refine ⟨?_, rfl⟩
                simp [vsum, h_19, h_19_2, h_19_3]
              · exfalso; omega
    · refine V_iinc (v := 1) dX2_channelsThatAre_22 rfl (by decide) rfl rfl ?_
      dsimp only [List.set_cons_zero, List.set_cons_succ]
      refine V_iinc (v := 1) dX2_channelsThatAre_25 rfl (by decide) rfl rfl ?_
      dsimp only [List.set_cons_zero, List.set_cons_succ]
      refine V_goto (tgt := 4) dX2_channelsThatAre_28 rfl ?_
      refine V_iload_n (i := 3) dX2_channelsThatAre_4 rfl rfl ?_
      refine V_iconst (v := 3) dX2_channelsThatAre_5 rfl ?_
      refine V_icmp_ge (tgt := 31) (by omega) (by omega) dX2_channelsThatAre_6 rfl (fun h_6_2 => ?_) (fun h_6_2 => ?_)
      · exfalso; omega
      · refine V_aload_n (i := 0) dX2_channelsThatAre_9 rfl rfl ?_
        refine V_get (C := RX2) (T := TX2) (N := 11) (ci := 2) (q := 0) (ref := "OrderChains$Engine") 4 rfl il_X2_channelsThatAre_X2 rfl rfl fl_X2_channelsThatAre_26 rfl rfl dX2_channelsThatAre_10 ?_
        refine V_iload_n (i := 3) dX2_channelsThatAre_13 rfl rfl ?_
        refine V_aaldC (q := 1) rfl (by omega) rfl dX2_channelsThatAre_14 ?_
        refine V_get (C := RX1) (T := TX1) (N := 13) (ci := 1) (q := 3) (ref := "OrderChains$Channel") 0 rfl il_X2_channelsThatAre_X1 rfl rfl fl_X2_channelsThatAre_72 rfl rfl dX2_channelsThatAre_15 ?_
        refine V_iload_n (i := 1) dX2_channelsThatAre_18 rfl rfl ?_
        refine V_icmp_ne (tgt := 25) (by first | exact h0 | exact h1 | exact h2 | omega) (by first | exact h0 | exact h1 | exact h2 | omega) dX2_channelsThatAre_19 rfl (fun h_19_2 => ?_) (fun h_19_2 => ?_)
        · refine V_iinc (v := 2) dX2_channelsThatAre_25 rfl (by decide) rfl rfl ?_
          dsimp only [List.set_cons_zero, List.set_cons_succ]
          refine V_goto (tgt := 4) dX2_channelsThatAre_28 rfl ?_
          refine V_iload_n (i := 3) dX2_channelsThatAre_4 rfl rfl ?_
          refine V_iconst (v := 3) dX2_channelsThatAre_5 rfl ?_
          refine V_icmp_ge (tgt := 31) (by omega) (by omega) dX2_channelsThatAre_6 rfl (fun h_6_3 => ?_) (fun h_6_3 => ?_)
          · exfalso; omega
          · refine V_aload_n (i := 0) dX2_channelsThatAre_9 rfl rfl ?_
            refine V_get (C := RX2) (T := TX2) (N := 11) (ci := 2) (q := 0) (ref := "OrderChains$Engine") 4 rfl il_X2_channelsThatAre_X2 rfl rfl fl_X2_channelsThatAre_26 rfl rfl dX2_channelsThatAre_10 ?_
            refine V_iload_n (i := 3) dX2_channelsThatAre_13 rfl rfl ?_
            refine V_aaldC (q := 1) rfl (by omega) rfl dX2_channelsThatAre_14 ?_
            refine V_get (C := RX1) (T := TX1) (N := 13) (ci := 1) (q := 4) (ref := "OrderChains$Channel") 0 rfl il_X2_channelsThatAre_X1 rfl rfl fl_X2_channelsThatAre_72 rfl rfl dX2_channelsThatAre_15 ?_
            refine V_iload_n (i := 1) dX2_channelsThatAre_18 rfl rfl ?_
            refine V_icmp_ne (tgt := 25) (by first | exact h0 | exact h1 | exact h2 | omega) (by first | exact h0 | exact h1 | exact h2 | omega) dX2_channelsThatAre_19 rfl (fun h_19_3 => ?_) (fun h_19_3 => ?_)
            · refine V_iinc (v := 3) dX2_channelsThatAre_25 rfl (by decide) rfl rfl ?_
              dsimp only [List.set_cons_zero, List.set_cons_succ]
              refine V_goto (tgt := 4) dX2_channelsThatAre_28 rfl ?_
              refine V_iload_n (i := 3) dX2_channelsThatAre_4 rfl rfl ?_
              refine V_iconst (v := 3) dX2_channelsThatAre_5 rfl ?_
              refine V_icmp_ge (tgt := 31) (by omega) (by omega) dX2_channelsThatAre_6 rfl (fun h_6_4 => ?_) (fun h_6_4 => ?_)
              · refine V_iload_n (i := 2) dX2_channelsThatAre_31 rfl rfl ?_
                refine V_iret hR dX2_channelsThatAre_32 hkc hks ?_
                refine ⟨?_, rfl⟩
                simp [vsum, h_19, h_19_2, h_19_3]
              · exfalso; omega
            · refine V_iinc (v := 2) dX2_channelsThatAre_22 rfl (by decide) rfl rfl ?_
              dsimp only [List.set_cons_zero, List.set_cons_succ]
              refine V_iinc (v := 3) dX2_channelsThatAre_25 rfl (by decide) rfl rfl ?_
              dsimp only [List.set_cons_zero, List.set_cons_succ]
              refine V_goto (tgt := 4) dX2_channelsThatAre_28 rfl ?_
              refine V_iload_n (i := 3) dX2_channelsThatAre_4 rfl rfl ?_
              refine V_iconst (v := 3) dX2_channelsThatAre_5 rfl ?_
              refine V_icmp_ge (tgt := 31) (by omega) (by omega) dX2_channelsThatAre_6 rfl (fun h_6_4 => ?_) (fun h_6_4 => ?_)
              · refine V_iload_n (i := 2) dX2_channelsThatAre_31 rfl rfl ?_
                refine V_iret hR dX2_channelsThatAre_32 hkc hks ?_
                refine ⟨?_, rfl⟩
                simp [vsum, h_19, h_19_2, h_19_3]
              · exfalso; omega
        · refine V_iinc (v := 2) dX2_channelsThatAre_22 rfl (by decide) rfl rfl ?_
          dsimp only [List.set_cons_zero, List.set_cons_succ]
          refine V_iinc (v := 2) dX2_channelsThatAre_25 rfl (by decide) rfl rfl ?_
          dsimp only [List.set_cons_zero, List.set_cons_succ]
          refine V_goto (tgt := 4) dX2_channelsThatAre_28 rfl ?_
          refine V_iload_n (i := 3) dX2_channelsThatAre_4 rfl rfl ?_
          refine V_iconst (v := 3) dX2_channelsThatAre_5 rfl ?_
          refine V_icmp_ge (tgt := 31) (by omega) (by omega) dX2_channelsThatAre_6 rfl (fun h_6_3 => ?_) (fun h_6_3 => ?_)
          · exfalso; omega
          · refine V_aload_n (i := 0) dX2_channelsThatAre_9 rfl rfl ?_
            refine V_get (C := RX2) (T := TX2) (N := 11) (ci := 2) (q := 0) (ref := "OrderChains$Engine") 4 rfl il_X2_channelsThatAre_X2 rfl rfl fl_X2_channelsThatAre_26 rfl rfl dX2_channelsThatAre_10 ?_
            refine V_iload_n (i := 3) dX2_channelsThatAre_13 rfl rfl ?_
            refine V_aaldC (q := 1) rfl (by omega) rfl dX2_channelsThatAre_14 ?_
            refine V_get (C := RX1) (T := TX1) (N := 13) (ci := 1) (q := 4) (ref := "OrderChains$Channel") 0 rfl il_X2_channelsThatAre_X1 rfl rfl fl_X2_channelsThatAre_72 rfl rfl dX2_channelsThatAre_15 ?_
            refine V_iload_n (i := 1) dX2_channelsThatAre_18 rfl rfl ?_
            refine V_icmp_ne (tgt := 25) (by first | exact h0 | exact h1 | exact h2 | omega) (by first | exact h0 | exact h1 | exact h2 | omega) dX2_channelsThatAre_19 rfl (fun h_19_3 => ?_) (fun h_19_3 => ?_)
            · refine V_iinc (v := 3) dX2_channelsThatAre_25 rfl (by decide) rfl rfl ?_
              dsimp only [List.set_cons_zero, List.set_cons_succ]
              refine V_goto (tgt := 4) dX2_channelsThatAre_28 rfl ?_
              refine V_iload_n (i := 3) dX2_channelsThatAre_4 rfl rfl ?_
              refine V_iconst (v := 3) dX2_channelsThatAre_5 rfl ?_
              refine V_icmp_ge (tgt := 31) (by omega) (by omega) dX2_channelsThatAre_6 rfl (fun h_6_4 => ?_) (fun h_6_4 => ?_)
              · refine V_iload_n (i := 2) dX2_channelsThatAre_31 rfl rfl ?_
                refine V_iret hR dX2_channelsThatAre_32 hkc hks ?_
                refine ⟨?_, rfl⟩
                simp [vsum, h_19, h_19_2, h_19_3]
              · exfalso; omega
            · refine V_iinc (v := 3) dX2_channelsThatAre_22 rfl (by decide) rfl rfl ?_
              dsimp only [List.set_cons_zero, List.set_cons_succ]
              refine V_iinc (v := 3) dX2_channelsThatAre_25 rfl (by decide) rfl rfl ?_
              dsimp only [List.set_cons_zero, List.set_cons_succ]
              refine V_goto (tgt := 4) dX2_channelsThatAre_28 rfl ?_
              refine V_iload_n (i := 3) dX2_channelsThatAre_4 rfl rfl ?_
              refine V_iconst (v := 3) dX2_channelsThatAre_5 rfl ?_
              refine V_icmp_ge (tgt := 31) (by omega) (by omega) dX2_channelsThatAre_6 rfl (fun h_6_4 => ?_) (fun h_6_4 => ?_)
              · refine V_iload_n (i := 2) dX2_channelsThatAre_31 rfl rfl ?_
                refine V_iret hR dX2_channelsThatAre_32 hkc hks ?_
                refine ⟨?_, rfl⟩
                simp [vsum, h_19, h_19_2, h_19_3]
              · exfalso; omega

def nT (lt : Nat) (ch : Nat → Nat → Nat) : Nat := if ch ((lt + 1) % 3) 0 = 1 then (lt + 1) % 3 else if ch ((lt + 2) % 3) 0 = 1 then (lt + 2) % 3 else if ch ((lt + 3) % 3) 0 = 1 then (lt + 3) % 3 else 4294967287
theorem nT_cases (lt : Nat) (ch : Nat → Nat → Nat) : nT lt ch = 0 ∨ nT lt ch = 1 ∨ nT lt ch = 2 ∨ nT lt ch = 4294967287 := by
  unfold nT
  split
  · omega
  · split
    · omega
    · split <;> omega
abbrev rX2_nextTurn : Room := { frames := 0, cells := 0, slots := 0, locals := 0 }
theorem vy_X2_nextTurn : vY yX2_nextTurn wsX2_nextTurn cX2_nextTurn 3 (some .int) 0 := ⟨⟨_, rfl⟩, by decide +kernel, by decide +kernel, by decide +kernel⟩
theorem fl_X2_nextTurn_30 : Cond.fieldLink RX2 30 "OrderChains$Engine" "lastTurn" "I" ∈ wsX2_nextTurn := List.mem_of_getElem? (i := 1) rfl
theorem il_X2_nextTurn_X2 : ∀ w ∈ wsX20, w ∈ wsX2_nextTurn := fun _ h => List.mem_cons_of_mem _ (List.mem_append_left _ (List.mem_append_right _ h))
theorem fl_X2_nextTurn_26 : Cond.fieldLink RX2 26 "OrderChains$Engine" "channels" "[LOrderChains$Channel;" ∈ wsX2_nextTurn := List.mem_of_getElem? (i := 2) rfl
theorem fl_X2_nextTurn_72 : Cond.fieldLink RX2 72 "OrderChains$Channel" "condition" "I" ∈ wsX2_nextTurn := List.mem_of_getElem? (i := 3) rfl
theorem il_X2_nextTurn_X1 : ∀ w ∈ wsX10, w ∈ wsX2_nextTurn := fun _ h => List.mem_cons_of_mem _ (List.mem_append_right _ h)
set_option maxHeartbeats 4000000 in
set_option maxRecDepth 100000 in
/-- Engine.nextTurn -/
theorem c_X2_nextTurn (l : Launch) (G : vG) (a s : Nat → Nat) (ch : Nat → Nat → Nat) (hs : s 0 < 3) (h0 : ch 0 0 < 4294967296) (h1 : ch 1 0 < 4294967296) (h2 : ch 2 0 < 4294967296) : Kc l G yX2_nextTurn wsX2_nextTurn rX2_nextTurn [.ref (a 0)] [eO a s, eC G a, cX (a 6) (ch 0), cX (a 7) (ch 1), cX (a 8) (ch 2)] (fun r Y => r = some (.int (nI (nT (s 0) ch))) ∧ Y = [eO a s, eC G a, cX (a 6) (ch 0), cX (a 7) (ch 1), cX (a 8) (ch 2)]) 0 0 := by
  refine V_enter (own := RX2) [some (.ref (a 0)), none, none] (by decide +kernel) rfl rfl (Nat.le_of_ble_eq_true rfl) rfl (fun Γ hR hin => ?_)
  have hkc : 0 ≤ 0 := Nat.le_refl 0
  have hks : 0 ≤ 0 := Nat.le_refl 0
  rcases (show s 0 = 0 ∨ s 0 = 1 ∨ s 0 = 2 by omega) with e0 | e0 | e0
  · refine V_iconst (v := 1) dX2_nextTurn_0 rfl ?_
    refine V_istore_n (i := 1) dX2_nextTurn_1 rfl rfl rfl ?_
    dsimp only [List.set_cons_zero, List.set_cons_succ]
    refine V_iload_n (i := 1) dX2_nextTurn_2 rfl rfl ?_
    refine V_iconst (v := 3) dX2_nextTurn_3 rfl ?_
    refine V_icmp_gt (tgt := 37) (by omega) (by omega) dX2_nextTurn_4 rfl (fun h_4 => ?_) (fun h_4 => ?_)
    · exfalso; omega
    · refine V_aload_n (i := 0) dX2_nextTurn_7 rfl rfl ?_
      refine V_get (C := RX2) (T := TX2) (N := 11) (ci := 2) (q := 0) (ref := "OrderChains$Engine") 5 rfl il_X2_nextTurn_X2 rfl rfl fl_X2_nextTurn_30 rfl rfl dX2_nextTurn_8 ?_
      refine V_top (b := 0) (by omega) ?_
      refine V_iload_n (i := 1) dX2_nextTurn_11 rfl rfl ?_
      refine V_iadd dX2_nextTurn_12 ?_
      refine V_top (b := 1) (by omega) ?_
      refine V_iconst (v := 3) dX2_nextTurn_13 rfl ?_
      refine V_irem dX2_nextTurn_14 (by omega) (by omega) (by omega) ?_
      refine V_top (b := 1) (by omega) ?_
      refine V_istore_n (i := 2) dX2_nextTurn_15 rfl rfl rfl ?_
      dsimp only [List.set_cons_zero, List.set_cons_succ]
      refine V_aload_n (i := 0) dX2_nextTurn_16 rfl rfl ?_
      refine V_get (C := RX2) (T := TX2) (N := 11) (ci := 2) (q := 0) (ref := "OrderChains$Engine") 4 rfl il_X2_nextTurn_X2 rfl rfl fl_X2_nextTurn_26 rfl rfl dX2_nextTurn_17 ?_
      refine V_iload_n (i := 2) dX2_nextTurn_20 rfl rfl ?_
      refine V_aaldC (q := 1) rfl (by omega) rfl dX2_nextTurn_21 ?_
      refine V_get (C := RX1) (T := TX1) (N := 13) (ci := 1) (q := 3) (ref := "OrderChains$Channel") 0 rfl il_X2_nextTurn_X1 rfl rfl fl_X2_nextTurn_72 rfl rfl dX2_nextTurn_22 ?_
      refine V_iconst (v := 1) dX2_nextTurn_25 rfl ?_
      refine V_icmp_ne (tgt := 31) (by first | exact h0 | exact h1 | exact h2) (by omega) dX2_nextTurn_26 rfl (fun h_26 => ?_) (fun h_26 => ?_)
      · refine V_iinc (v := 2) dX2_nextTurn_31 rfl (by decide) rfl rfl ?_
        dsimp only [List.set_cons_zero, List.set_cons_succ]
        refine V_goto (tgt := 2) dX2_nextTurn_34 rfl ?_
        refine V_iload_n (i := 1) dX2_nextTurn_2 rfl rfl ?_
        refine V_iconst (v := 3) dX2_nextTurn_3 rfl ?_
        refine V_icmp_gt (tgt := 37) (by omega) (by omega) dX2_nextTurn_4 rfl (fun h_4_2 => ?_) (fun h_4_2 => ?_)
        · exfalso; omega
        · refine V_aload_n (i := 0) dX2_nextTurn_7 rfl rfl ?_
          refine V_get (C := RX2) (T := TX2) (N := 11) (ci := 2) (q := 0) (ref := "OrderChains$Engine") 5 rfl il_X2_nextTurn_X2 rfl rfl fl_X2_nextTurn_30 rfl rfl dX2_nextTurn_8 ?_
          refine V_top (b := 0) (by omega) ?_
          refine V_iload_n (i := 1) dX2_nextTurn_11 rfl rfl ?_
          refine V_iadd dX2_nextTurn_12 ?_
          refine V_top (b := 2) (by omega) ?_
          refine V_iconst (v := 3) dX2_nextTurn_13 rfl ?_
          refine V_irem dX2_nextTurn_14 (by omega) (by omega) (by omega) ?_
          refine V_top (b := 2) (by omega) ?_
          refine V_istore_n (i := 2) dX2_nextTurn_15 rfl rfl rfl ?_
          dsimp only [List.set_cons_zero, List.set_cons_succ]
          refine V_aload_n (i := 0) dX2_nextTurn_16 rfl rfl ?_
          refine V_get (C := RX2) (T := TX2) (N := 11) (ci := 2) (q := 0) (ref := "OrderChains$Engine") 4 rfl il_X2_nextTurn_X2 rfl rfl fl_X2_nextTurn_26 rfl rfl dX2_nextTurn_17 ?_
          refine V_iload_n (i := 2) dX2_nextTurn_20 rfl rfl ?_
          refine V_aaldC (q := 1) rfl (by omega) rfl dX2_nextTurn_21 ?_
          refine V_get (C := RX1) (T := TX1) (N := 13) (ci := 1) (q := 4) (ref := "OrderChains$Channel") 0 rfl il_X2_nextTurn_X1 rfl rfl fl_X2_nextTurn_72 rfl rfl dX2_nextTurn_22 ?_
          refine V_iconst (v := 1) dX2_nextTurn_25 rfl ?_
          refine V_icmp_ne (tgt := 31) (by first | exact h0 | exact h1 | exact h2) (by omega) dX2_nextTurn_26 rfl (fun h_26_2 => ?_) (fun h_26_2 => ?_)
          · refine V_iinc (v := 3) dX2_nextTurn_31 rfl (by decide) rfl rfl ?_
            dsimp only [List.set_cons_zero, List.set_cons_succ]
            refine V_goto (tgt := 2) dX2_nextTurn_34 rfl ?_
            refine V_iload_n (i := 1) dX2_nextTurn_2 rfl rfl ?_
            refine V_iconst (v := 3) dX2_nextTurn_3 rfl ?_
            refine V_icmp_gt (tgt := 37) (by omega) (by omega) dX2_nextTurn_4 rfl (fun h_4_3 => ?_) (fun h_4_3 => ?_)
            · exfalso; omega
            · refine V_aload_n (i := 0) dX2_nextTurn_7 rfl rfl ?_
              refine V_get (C := RX2) (T := TX2) (N := 11) (ci := 2) (q := 0) (ref := "OrderChains$Engine") 5 rfl il_X2_nextTurn_X2 rfl rfl fl_X2_nextTurn_30 rfl rfl dX2_nextTurn_8 ?_
              refine V_top (b := 0) (by omega) ?_
              refine V_iload_n (i := 1) dX2_nextTurn_11 rfl rfl ?_
              refine V_iadd dX2_nextTurn_12 ?_
              refine V_top (b := 3) (by omega) ?_
              refine V_iconst (v := 3) dX2_nextTurn_13 rfl ?_
              refine V_irem dX2_nextTurn_14 (by omega) (by omega) (by omega) ?_
              refine V_top (b := 0) (by omega) ?_
              refine V_istore_n (i := 2) dX2_nextTurn_15 rfl rfl rfl ?_
              dsimp only [List.set_cons_zero, List.set_cons_succ]
              refine V_aload_n (i := 0) dX2_nextTurn_16 rfl rfl ?_
              refine V_get (C := RX2) (T := TX2) (N := 11) (ci := 2) (q := 0) (ref := "OrderChains$Engine") 4 rfl il_X2_nextTurn_X2 rfl rfl fl_X2_nextTurn_26 rfl rfl dX2_nextTurn_17 ?_
              refine V_iload_n (i := 2) dX2_nextTurn_20 rfl rfl ?_
              refine V_aaldC (q := 1) rfl (by omega) rfl dX2_nextTurn_21 ?_
              refine V_get (C := RX1) (T := TX1) (N := 13) (ci := 1) (q := 2) (ref := "OrderChains$Channel") 0 rfl il_X2_nextTurn_X1 rfl rfl fl_X2_nextTurn_72 rfl rfl dX2_nextTurn_22 ?_
              refine V_iconst (v := 1) dX2_nextTurn_25 rfl ?_
              refine V_icmp_ne (tgt := 31) (by first | exact h0 | exact h1 | exact h2) (by omega) dX2_nextTurn_26 rfl (fun h_26_3 => ?_) (fun h_26_3 => ?_)
              · refine V_iinc (v := 4) dX2_nextTurn_31 rfl (by decide) rfl rfl ?_
                dsimp only [List.set_cons_zero, List.set_cons_succ]
                refine V_goto (tgt := 2) dX2_nextTurn_34 rfl ?_
                refine V_iload_n (i := 1) dX2_nextTurn_2 rfl rfl ?_
                refine V_iconst (v := 3) dX2_nextTurn_3 rfl ?_
                refine V_icmp_gt (tgt := 37) (by omega) (by omega) dX2_nextTurn_4 rfl (fun h_4_4 => ?_) (fun h_4_4 => ?_)
                · refine V_bipush (v := 4294967287) dX2_nextTurn_37 (by decide) ?_
                  refine V_iret hR dX2_nextTurn_39 hkc hks ?_
                  refine ⟨?_, rfl⟩
                  unfold nT
                  rw [e0]
                  simp only [Nat.reduceAdd, Nat.reduceMod]
                  first | (rw [if_pos h_26]; done) | (simp_all; done)
                · exfalso; omega
              · refine V_iload_n (i := 2) dX2_nextTurn_29 rfl rfl ?_
                refine V_iret hR dX2_nextTurn_30 hkc hks ?_
                refine ⟨?_, rfl⟩
                unfold nT
                rw [e0]
                simp only [Nat.reduceAdd, Nat.reduceMod]
                first | (rw [if_pos h_26]; done) | (simp_all; done)
          · refine V_iload_n (i := 2) dX2_nextTurn_29 rfl rfl ?_
            refine V_iret hR dX2_nextTurn_30 hkc hks ?_
            refine ⟨?_, rfl⟩
            unfold nT
            rw [e0]
            simp only [Nat.reduceAdd, Nat.reduceMod]
            first | (rw [if_pos h_26]; done) | (simp_all; done)
      · refine V_iload_n (i := 2) dX2_nextTurn_29 rfl rfl ?_
        refine V_iret hR dX2_nextTurn_30 hkc hks ?_
        refine ⟨?_, rfl⟩
        unfold nT
        rw [e0]
        simp only [Nat.reduceAdd, Nat.reduceMod]
        first | (rw [if_pos h_26]; done) | (simp_all; done)
  · refine V_iconst (v := 1) dX2_nextTurn_0 rfl ?_
    refine V_istore_n (i := 1) dX2_nextTurn_1 rfl rfl rfl ?_
    dsimp only [List.set_cons_zero, List.set_cons_succ]
    refine V_iload_n (i := 1) dX2_nextTurn_2 rfl rfl ?_
    refine V_iconst (v := 3) dX2_nextTurn_3 rfl ?_
    refine V_icmp_gt (tgt := 37) (by omega) (by omega) dX2_nextTurn_4 rfl (fun h_4 => ?_) (fun h_4 => ?_)
    · exfalso; omega
    · refine V_aload_n (i := 0) dX2_nextTurn_7 rfl rfl ?_
      refine V_get (C := RX2) (T := TX2) (N := 11) (ci := 2) (q := 0) (ref := "OrderChains$Engine") 5 rfl il_X2_nextTurn_X2 rfl rfl fl_X2_nextTurn_30 rfl rfl dX2_nextTurn_8 ?_
      refine V_top (b := 1) (by omega) ?_
      refine V_iload_n (i := 1) dX2_nextTurn_11 rfl rfl ?_
      refine V_iadd dX2_nextTurn_12 ?_
      refine V_top (b := 2) (by omega) ?_
      refine V_iconst (v := 3) dX2_nextTurn_13 rfl ?_
      refine V_irem dX2_nextTurn_14 (by omega) (by omega) (by omega) ?_
      refine V_top (b := 2) (by omega) ?_
      refine V_istore_n (i := 2) dX2_nextTurn_15 rfl rfl rfl ?_
      dsimp only [List.set_cons_zero, List.set_cons_succ]
      refine V_aload_n (i := 0) dX2_nextTurn_16 rfl rfl ?_
      refine V_get (C := RX2) (T := TX2) (N := 11) (ci := 2) (q := 0) (ref := "OrderChains$Engine") 4 rfl il_X2_nextTurn_X2 rfl rfl fl_X2_nextTurn_26 rfl rfl dX2_nextTurn_17 ?_
      refine V_iload_n (i := 2) dX2_nextTurn_20 rfl rfl ?_
      refine V_aaldC (q := 1) rfl (by omega) rfl dX2_nextTurn_21 ?_
      refine V_get (C := RX1) (T := TX1) (N := 13) (ci := 1) (q := 4) (ref := "OrderChains$Channel") 0 rfl il_X2_nextTurn_X1 rfl rfl fl_X2_nextTurn_72 rfl rfl dX2_nextTurn_22 ?_
      refine V_iconst (v := 1) dX2_nextTurn_25 rfl ?_
      refine V_icmp_ne (tgt := 31) (by first | exact h0 | exact h1 | exact h2) (by omega) dX2_nextTurn_26 rfl (fun h_26 => ?_) (fun h_26 => ?_)
      · refine V_iinc (v := 2) dX2_nextTurn_31 rfl (by decide) rfl rfl ?_
        dsimp only [List.set_cons_zero, List.set_cons_succ]
        refine V_goto (tgt := 2) dX2_nextTurn_34 rfl ?_
        refine V_iload_n (i := 1) dX2_nextTurn_2 rfl rfl ?_
        refine V_iconst (v := 3) dX2_nextTurn_3 rfl ?_
        refine V_icmp_gt (tgt := 37) (by omega) (by omega) dX2_nextTurn_4 rfl (fun h_4_2 => ?_) (fun h_4_2 => ?_)
        · exfalso; omega
        · refine V_aload_n (i := 0) dX2_nextTurn_7 rfl rfl ?_
          refine V_get (C := RX2) (T := TX2) (N := 11) (ci := 2) (q := 0) (ref := "OrderChains$Engine") 5 rfl il_X2_nextTurn_X2 rfl rfl fl_X2_nextTurn_30 rfl rfl dX2_nextTurn_8 ?_
          refine V_top (b := 1) (by omega) ?_
          refine V_iload_n (i := 1) dX2_nextTurn_11 rfl rfl ?_
          refine V_iadd dX2_nextTurn_12 ?_
          refine V_top (b := 3) (by omega) ?_
          refine V_iconst (v := 3) dX2_nextTurn_13 rfl ?_
          refine V_irem dX2_nextTurn_14 (by omega) (by omega) (by omega) ?_
          refine V_top (b := 0) (by omega) ?_
          refine V_istore_n (i := 2) dX2_nextTurn_15 rfl rfl rfl ?_
          dsimp only [List.set_cons_zero, List.set_cons_succ]
          refine V_aload_n (i := 0) dX2_nextTurn_16 rfl rfl ?_
          refine V_get (C := RX2) (T := TX2) (N := 11) (ci := 2) (q := 0) (ref := "OrderChains$Engine") 4 rfl il_X2_nextTurn_X2 rfl rfl fl_X2_nextTurn_26 rfl rfl dX2_nextTurn_17 ?_
          refine V_iload_n (i := 2) dX2_nextTurn_20 rfl rfl ?_
          refine V_aaldC (q := 1) rfl (by omega) rfl dX2_nextTurn_21 ?_
          refine V_get (C := RX1) (T := TX1) (N := 13) (ci := 1) (q := 2) (ref := "OrderChains$Channel") 0 rfl il_X2_nextTurn_X1 rfl rfl fl_X2_nextTurn_72 rfl rfl dX2_nextTurn_22 ?_
          refine V_iconst (v := 1) dX2_nextTurn_25 rfl ?_
          refine V_icmp_ne (tgt := 31) (by first | exact h0 | exact h1 | exact h2) (by omega) dX2_nextTurn_26 rfl (fun h_26_2 => ?_) (fun h_26_2 => ?_)
          · refine V_iinc (v := 3) dX2_nextTurn_31 rfl (by decide) rfl rfl ?_
            dsimp only [List.set_cons_zero, List.set_cons_succ]
            refine V_goto (tgt := 2) dX2_nextTurn_34 rfl ?_
            refine V_iload_n (i := 1) dX2_nextTurn_2 rfl rfl ?_
            refine V_iconst (v := 3) dX2_nextTurn_3 rfl ?_
            refine V_icmp_gt (tgt := 37) (by omega) (by omega) dX2_nextTurn_4 rfl (fun h_4_3 => ?_) (fun h_4_3 => ?_)
            · exfalso; omega
            · refine V_aload_n (i := 0) dX2_nextTurn_7 rfl rfl ?_
              refine V_get (C := RX2) (T := TX2) (N := 11) (ci := 2) (q := 0) (ref := "OrderChains$Engine") 5 rfl il_X2_nextTurn_X2 rfl rfl fl_X2_nextTurn_30 rfl rfl dX2_nextTurn_8 ?_
              refine V_top (b := 1) (by omega) ?_
              refine V_iload_n (i := 1) dX2_nextTurn_11 rfl rfl ?_
              refine V_iadd dX2_nextTurn_12 ?_
              refine V_top (b := 4) (by omega) ?_
              refine V_iconst (v := 3) dX2_nextTurn_13 rfl ?_
              refine V_irem dX2_nextTurn_14 (by omega) (by omega) (by omega) ?_
              refine V_top (b := 1) (by omega) ?_
              refine V_istore_n (i := 2) dX2_nextTurn_15 rfl rfl rfl ?_
              dsimp only [List.set_cons_zero, List.set_cons_succ]
              refine V_aload_n (i := 0) dX2_nextTurn_16 rfl rfl ?_
              refine V_get (C := RX2) (T := TX2) (N := 11) (ci := 2) (q := 0) (ref := "OrderChains$Engine") 4 rfl il_X2_nextTurn_X2 rfl rfl fl_X2_nextTurn_26 rfl rfl dX2_nextTurn_17 ?_
              refine V_iload_n (i := 2) dX2_nextTurn_20 rfl rfl ?_
              refine V_aaldC (q := 1) rfl (by omega) rfl dX2_nextTurn_21 ?_
              refine V_get (C := RX1) (T := TX1) (N := 13) (ci := 1) (q := 3) (ref := "OrderChains$Channel") 0 rfl il_X2_nextTurn_X1 rfl rfl fl_X2_nextTurn_72 rfl rfl dX2_nextTurn_22 ?_
              refine V_iconst (v := 1) dX2_nextTurn_25 rfl ?_
              refine V_icmp_ne (tgt := 31) (by first | exact h0 | exact h1 | exact h2) (by omega) dX2_nextTurn_26 rfl (fun h_26_3 => ?_) (fun h_26_3 => ?_)
              · refine V_iinc (v := 4) dX2_nextTurn_31 rfl (by decide) rfl rfl ?_
                dsimp only [List.set_cons_zero, List.set_cons_succ]
                refine V_goto (tgt := 2) dX2_nextTurn_34 rfl ?_
                refine V_iload_n (i := 1) dX2_nextTurn_2 rfl rfl ?_
                refine V_iconst (v := 3) dX2_nextTurn_3 rfl ?_
                refine V_icmp_gt (tgt := 37) (by omega) (by omega) dX2_nextTurn_4 rfl (fun h_4_4 => ?_) (fun h_4_4 => ?_)
                · refine V_bipush (v := 4294967287) dX2_nextTurn_37 (by decide) ?_
                  refine V_iret hR dX2_nextTurn_39 hkc hks ?_
                  refine ⟨?_, rfl⟩
                  unfold nT
                  rw [e0]
                  simp only [Nat.reduceAdd, Nat.reduceMod]
                  first | (rw [if_pos h_26]; done) | (simp_all; done)
                · exfalso; omega
              · refine V_iload_n (i := 2) dX2_nextTurn_29 rfl rfl ?_
                refine V_iret hR dX2_nextTurn_30 hkc hks ?_
                refine ⟨?_, rfl⟩
                unfold nT
                rw [e0]
                simp only [Nat.reduceAdd, Nat.reduceMod]
                first | (rw [if_pos h_26]; done) | (simp_all; done)
          · refine V_iload_n (i := 2) dX2_nextTurn_29 rfl rfl ?_
            refine V_iret hR dX2_nextTurn_30 hkc hks ?_
            refine ⟨?_, rfl⟩
            unfold nT
            rw [e0]
            simp only [Nat.reduceAdd, Nat.reduceMod]
            first | (rw [if_pos h_26]; done) | (simp_all; done)
      · refine V_iload_n (i := 2) dX2_nextTurn_29 rfl rfl ?_
        refine V_iret hR dX2_nextTurn_30 hkc hks ?_
        refine ⟨?_, rfl⟩
        unfold nT
        rw [e0]
        simp only [Nat.reduceAdd, Nat.reduceMod]
        first | (rw [if_pos h_26]; done) | (simp_all; done)
  · refine V_iconst (v := 1) dX2_nextTurn_0 rfl ?_
    refine V_istore_n (i := 1) dX2_nextTurn_1 rfl rfl rfl ?_
    dsimp only [List.set_cons_zero, List.set_cons_succ]
    refine V_iload_n (i := 1) dX2_nextTurn_2 rfl rfl ?_
    refine V_iconst (v := 3) dX2_nextTurn_3 rfl ?_
    refine V_icmp_gt (tgt := 37) (by omega) (by omega) dX2_nextTurn_4 rfl (fun h_4 => ?_) (fun h_4 => ?_)
    · exfalso; omega
    · refine V_aload_n (i := 0) dX2_nextTurn_7 rfl rfl ?_
      refine V_get (C := RX2) (T := TX2) (N := 11) (ci := 2) (q := 0) (ref := "OrderChains$Engine") 5 rfl il_X2_nextTurn_X2 rfl rfl fl_X2_nextTurn_30 rfl rfl dX2_nextTurn_8 ?_
      refine V_top (b := 2) (by omega) ?_
      refine V_iload_n (i := 1) dX2_nextTurn_11 rfl rfl ?_
      refine V_iadd dX2_nextTurn_12 ?_
      refine V_top (b := 3) (by omega) ?_
      refine V_iconst (v := 3) dX2_nextTurn_13 rfl ?_
      refine V_irem dX2_nextTurn_14 (by omega) (by omega) (by omega) ?_
      refine V_top (b := 0) (by omega) ?_
      refine V_istore_n (i := 2) dX2_nextTurn_15 rfl rfl rfl ?_
      dsimp only [List.set_cons_zero, List.set_cons_succ]
      refine V_aload_n (i := 0) dX2_nextTurn_16 rfl rfl ?_
      refine V_get (C := RX2) (T := TX2) (N := 11) (ci := 2) (q := 0) (ref := "OrderChains$Engine") 4 rfl il_X2_nextTurn_X2 rfl rfl fl_X2_nextTurn_26 rfl rfl dX2_nextTurn_17 ?_
      refine V_iload_n (i := 2) dX2_nextTurn_20 rfl rfl ?_
      refine V_aaldC (q := 1) rfl (by omega) rfl dX2_nextTurn_21 ?_
      refine V_get (C := RX1) (T := TX1) (N := 13) (ci := 1) (q := 2) (ref := "OrderChains$Channel") 0 rfl il_X2_nextTurn_X1 rfl rfl fl_X2_nextTurn_72 rfl rfl dX2_nextTurn_22 ?_
      refine V_iconst (v := 1) dX2_nextTurn_25 rfl ?_
      refine V_icmp_ne (tgt := 31) (by first | exact h0 | exact h1 | exact h2) (by omega) dX2_nextTurn_26 rfl (fun h_26 => ?_) (fun h_26 => ?_)
      · refine V_iinc (v := 2) dX2_nextTurn_31 rfl (by decide) rfl rfl ?_
        dsimp only [List.set_cons_zero, List.set_cons_succ]
        refine V_goto (tgt := 2) dX2_nextTurn_34 rfl ?_
        refine V_iload_n (i := 1) dX2_nextTurn_2 rfl rfl ?_
        refine V_iconst (v := 3) dX2_nextTurn_3 rfl ?_
        refine V_icmp_gt (tgt := 37) (by omega) (by omega) dX2_nextTurn_4 rfl (fun h_4_2 => ?_) (fun h_4_2 => ?_)
        · exfalso; omega
        · refine V_aload_n (i := 0) dX2_nextTurn_7 rfl rfl ?_
          refine V_get (C := RX2) (T := TX2) (N := 11) (ci := 2) (q := 0) (ref := "OrderChains$Engine") 5 rfl il_X2_nextTurn_X2 rfl rfl fl_X2_nextTurn_30 rfl rfl dX2_nextTurn_8 ?_
          refine V_top (b := 2) (by omega) ?_
          refine V_iload_n (i := 1) dX2_nextTurn_11 rfl rfl ?_
          refine V_iadd dX2_nextTurn_12 ?_
          refine V_top (b := 4) (by omega) ?_
          refine V_iconst (v := 3) dX2_nextTurn_13 rfl ?_
          refine V_irem dX2_nextTurn_14 (by omega) (by omega) (by omega) ?_
          refine V_top (b := 1) (by omega) ?_
          refine V_istore_n (i := 2) dX2_nextTurn_15 rfl rfl rfl ?_
          dsimp only [List.set_cons_zero, List.set_cons_succ]
          refine V_aload_n (i := 0) dX2_nextTurn_16 rfl rfl ?_
          refine V_get (C := RX2) (T := TX2) (N := 11) (ci := 2) (q := 0) (ref := "OrderChains$Engine") 4 rfl il_X2_nextTurn_X2 rfl rfl fl_X2_nextTurn_26 rfl rfl dX2_nextTurn_17 ?_
          refine V_iload_n (i := 2) dX2_nextTurn_20 rfl rfl ?_
          refine V_aaldC (q := 1) rfl (by omega) rfl dX2_nextTurn_21 ?_
          refine V_get (C := RX1) (T := TX1) (N := 13) (ci := 1) (q := 3) (ref := "OrderChains$Channel") 0 rfl il_X2_nextTurn_X1 rfl rfl fl_X2_nextTurn_72 rfl rfl dX2_nextTurn_22 ?_
          refine V_iconst (v := 1) dX2_nextTurn_25 rfl ?_
          refine V_icmp_ne (tgt := 31) (by first | exact h0 | exact h1 | exact h2) (by omega) dX2_nextTurn_26 rfl (fun h_26_2 => ?_) (fun h_26_2 => ?_)
          · refine V_iinc (v := 3) dX2_nextTurn_31 rfl (by decide) rfl rfl ?_
            dsimp only [List.set_cons_zero, List.set_cons_succ]
            refine V_goto (tgt := 2) dX2_nextTurn_34 rfl ?_
            refine V_iload_n (i := 1) dX2_nextTurn_2 rfl rfl ?_
            refine V_iconst (v := 3) dX2_nextTurn_3 rfl ?_
            refine V_icmp_gt (tgt := 37) (by omega) (by omega) dX2_nextTurn_4 rfl (fun h_4_3 => ?_) (fun h_4_3 => ?_)
            · exfalso; omega
            · refine V_aload_n (i := 0) dX2_nextTurn_7 rfl rfl ?_
              refine V_get (C := RX2) (T := TX2) (N := 11) (ci := 2) (q := 0) (ref := "OrderChains$Engine") 5 rfl il_X2_nextTurn_X2 rfl rfl fl_X2_nextTurn_30 rfl rfl dX2_nextTurn_8 ?_
              refine V_top (b := 2) (by omega) ?_
              refine V_iload_n (i := 1) dX2_nextTurn_11 rfl rfl ?_
              refine V_iadd dX2_nextTurn_12 ?_
              refine V_top (b := 5) (by omega) ?_
              refine V_iconst (v := 3) dX2_nextTurn_13 rfl ?_
              refine V_irem dX2_nextTurn_14 (by omega) (by omega) (by omega) ?_
              refine V_top (b := 2) (by omega) ?_
              refine V_istore_n (i := 2) dX2_nextTurn_15 rfl rfl rfl ?_
              dsimp only [List.set_cons_zero, List.set_cons_succ]
              refine V_aload_n (i := 0) dX2_nextTurn_16 rfl rfl ?_
              refine V_get (C := RX2) (T := TX2) (N := 11) (ci := 2) (q := 0) (ref := "OrderChains$Engine") 4 rfl il_X2_nextTurn_X2 rfl rfl fl_X2_nextTurn_26 rfl rfl dX2_nextTurn_17 ?_
              refine V_iload_n (i := 2) dX2_nextTurn_20 rfl rfl ?_
              refine V_aaldC (q := 1) rfl (by omega) rfl dX2_nextTurn_21 ?_
              refine V_get (C := RX1) (T := TX1) (N := 13) (ci := 1) (q := 4) (ref := "OrderChains$Channel") 0 rfl il_X2_nextTurn_X1 rfl rfl fl_X2_nextTurn_72 rfl rfl dX2_nextTurn_22 ?_
              refine V_iconst (v := 1) dX2_nextTurn_25 rfl ?_
              refine V_icmp_ne (tgt := 31) (by first | exact h0 | exact h1 | exact h2) (by omega) dX2_nextTurn_26 rfl (fun h_26_3 => ?_) (fun h_26_3 => ?_)
              · refine V_iinc (v := 4) dX2_nextTurn_31 rfl (by decide) rfl rfl ?_
                dsimp only [List.set_cons_zero, List.set_cons_succ]
                refine V_goto (tgt := 2) dX2_nextTurn_34 rfl ?_
                refine V_iload_n (i := 1) dX2_nextTurn_2 rfl rfl ?_
                refine V_iconst (v := 3) dX2_nextTurn_3 rfl ?_
                refine V_icmp_gt (tgt := 37) (by omega) (by omega) dX2_nextTurn_4 rfl (fun h_4_4 => ?_) (fun h_4_4 => ?_)
                · refine V_bipush (v := 4294967287) dX2_nextTurn_37 (by decide) ?_
                  refine V_iret hR dX2_nextTurn_39 hkc hks ?_
                  refine ⟨?_, rfl⟩
                  unfold nT
                  rw [e0]
                  simp only [Nat.reduceAdd, Nat.reduceMod]
                  first | (rw [if_pos h_26]; done) | (simp_all; done)
                · exfalso; omega
              · refine V_iload_n (i := 2) dX2_nextTurn_29 rfl rfl ?_
                refine V_iret hR dX2_nextTurn_30 hkc hks ?_
                refine ⟨?_, rfl⟩
                unfold nT
                rw [e0]
                simp only [Nat.reduceAdd, Nat.reduceMod]
                first | (rw [if_pos h_26]; done) | (simp_all; done)
          · refine V_iload_n (i := 2) dX2_nextTurn_29 rfl rfl ?_
            refine V_iret hR dX2_nextTurn_30 hkc hks ?_
            refine ⟨?_, rfl⟩
            unfold nT
            rw [e0]
            simp only [Nat.reduceAdd, Nat.reduceMod]
            first | (rw [if_pos h_26]; done) | (simp_all; done)
      · refine V_iload_n (i := 2) dX2_nextTurn_29 rfl rfl ?_
        refine V_iret hR dX2_nextTurn_30 hkc hks ?_
        refine ⟨?_, rfl⟩
        unfold nT
        rw [e0]
        simp only [Nat.reduceAdd, Nat.reduceMod]
        first | (rw [if_pos h_26]; done) | (simp_all; done)

end ENG
