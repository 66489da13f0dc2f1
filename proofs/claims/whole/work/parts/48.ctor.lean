section CTOR
theorem dfX0 : ∀ j, j < 3 → defaultValue (tyX0 j) = vp_V [.null, .int (nI 0), .int (nI 0)] j := by
  intro j hj
  match j, hj with
  | 0, _ => rfl
  | 1, _ => rfl
  | 2, _ => rfl
  | _ + 3, h => exact absurd h (by omega)
theorem dfX1 : ∀ j, j < 13 → defaultValue (tyX1 j) = vp_V [.int (nI 0), .int (nI 0), .int (nI 0), .int (nI 0), .int (nI 0), .int (nI 0), .int (nI 0), .int (nI 0), .int (nI 0), .int (nI 0), .int (nI 0), .int (nI 0), .int (nI 0)] j := by
  intro j hj
  match j, hj with
  | 0, _ => rfl
  | 1, _ => rfl
  | 2, _ => rfl
  | 3, _ => rfl
  | 4, _ => rfl
  | 5, _ => rfl
  | 6, _ => rfl
  | 7, _ => rfl
  | 8, _ => rfl
  | 9, _ => rfl
  | 10, _ => rfl
  | 11, _ => rfl
  | 12, _ => rfl
  | _ + 13, h => exact absurd h (by omega)
theorem dfX2 : ∀ j, j < 11 → defaultValue (tyX2 j) = vp_V [.null, .null, .null, .null, .null, .int (nI 0), .int (nI 0), .int (nI 0), .int (nI 0), .null, .int (nI 0)] j := by
  intro j hj
  match j, hj with
  | 0, _ => rfl
  | 1, _ => rfl
  | 2, _ => rfl
  | 3, _ => rfl
  | 4, _ => rfl
  | 5, _ => rfl
  | 6, _ => rfl
  | 7, _ => rfl
  | 8, _ => rfl
  | 9, _ => rfl
  | 10, _ => rfl
  | _ + 11, h => exact absurd h (by omega)
theorem dfX3 : ∀ j, j < 3 → defaultValue (tyX3 j) = vp_V [.null, .int (nI 0), .int (nI 0)] j := by
  intro j hj
  match j, hj with
  | 0, _ => rfl
  | 1, _ => rfl
  | 2, _ => rfl
  | _ + 3, h => exact absurd h (by omega)
theorem dfX5 : ∀ j, j < 5 → defaultValue (tyX5 j) = vp_V [.int (nI 0), .int (nI 0), .int (nI 0), .int (nI 0), .int (nI 0)] j := by
  intro j hj
  match j, hj with
  | 0, _ => rfl
  | 1, _ => rfl
  | 2, _ => rfl
  | 3, _ => rfl
  | 4, _ => rfl
  | _ + 5, h => exact absurd h (by omega)
theorem dfX6 : ∀ j, j < 9 → defaultValue (tyX6 j) = vp_V [.null, .int (nI 0), .null, .null, .null, .null, .null, .null, .null] j := by
  intro j hj
  match j, hj with
  | 0, _ => rfl
  | 1, _ => rfl
  | 2, _ => rfl
  | 3, _ => rfl
  | 4, _ => rfl
  | 5, _ => rfl
  | 6, _ => rfl
  | 7, _ => rfl
  | 8, _ => rfl
  | _ + 9, h => exact absurd h (by omega)
theorem dfX7 : ∀ j, j < 17 → defaultValue (tyX7 j) = vp_V [.int (nI 0), .null, .int (nI 0), .int (nI 0), .null, .null, .null, .null, .int (nI 0), .null, .null, .null, .int (nI 0), .int (nI 0), .int (nI 0), .int (nI 0), .null] j := by
  intro j hj
  match j, hj with
  | 0, _ => rfl
  | 1, _ => rfl
  | 2, _ => rfl
  | 3, _ => rfl
  | 4, _ => rfl
  | 5, _ => rfl
  | 6, _ => rfl
  | 7, _ => rfl
  | 8, _ => rfl
  | 9, _ => rfl
  | 10, _ => rfl
  | 11, _ => rfl
  | 12, _ => rfl
  | 13, _ => rfl
  | 14, _ => rfl
  | 15, _ => rfl
  | 16, _ => rfl
  | _ + 17, h => exact absurd h (by omega)
def chN : Nat → Nat := fun k => if k = 2 ∨ k = 5 then 4294967287 else 0
/-- a new engine -/
def eN : vE := (fun _ => 0, fun _ => 0, fun _ => 0, fun k => if k < 96 then 4294967287 else 0, fun _ => 0, fun k => if k = 0 then 2 else if k = 4 then 4294967287 else 0, fun _ => chN)

abbrev rX1_init : Room := { frames := 1, cells := 0, slots := 0, locals := 24 }
theorem vy_X1_init : vY yX1_init wsX1_init cX1_init 1 none 0 := ⟨⟨_, rfl⟩, by decide +kernel, by decide +kernel, by decide +kernel⟩
theorem ol_X1_init_3 : Cond.methodLink RX1 3 objectInit ∈ wsX1_init := List.mem_of_getElem? (i := 1) rfl
theorem oi_X1_init : Cond.instanceMethod objectInit ∈ wsX1_init := List.mem_of_getElem? (i := 2) rfl
theorem oc_X1_init : Cond.code objectInit ⟨#[0xb1]⟩ 1 none ∈ wsX1_init := List.mem_of_getElem? (i := 3) rfl
theorem fl_X1_init_9 : Cond.fieldLink RX1 9 "OrderChains$Channel" "condition" "I" ∈ wsX1_init := List.mem_of_getElem? (i := 4) rfl
theorem il_X1_init_X1 : ∀ w ∈ wsX10, w ∈ wsX1_init := fun _ h => List.mem_cons_of_mem _ (List.mem_append_right _ h)
theorem fl_X1_init_15 : Cond.fieldLink RX1 15 "OrderChains$Channel" "head" "I" ∈ wsX1_init := List.mem_of_getElem? (i := 5) rfl
theorem fl_X1_init_18 : Cond.fieldLink RX1 18 "OrderChains$Channel" "cause" "I" ∈ wsX1_init := List.mem_of_getElem? (i := 6) rfl
theorem fl_X1_init_21 : Cond.fieldLink RX1 21 "OrderChains$Channel" "ordersRead" "I" ∈ wsX1_init := List.mem_of_getElem? (i := 7) rfl
theorem fl_X1_init_24 : Cond.fieldLink RX1 24 "OrderChains$Channel" "cellsWritten" "I" ∈ wsX1_init := List.mem_of_getElem? (i := 8) rfl
theorem fl_X1_init_27 : Cond.fieldLink RX1 27 "OrderChains$Channel" "place" "I" ∈ wsX1_init := List.mem_of_getElem? (i := 9) rfl
theorem fl_X1_init_30 : Cond.fieldLink RX1 30 "OrderChains$Channel" "units" "I" ∈ wsX1_init := List.mem_of_getElem? (i := 10) rfl
theorem fl_X1_init_33 : Cond.fieldLink RX1 33 "OrderChains$Channel" "kind" "I" ∈ wsX1_init := List.mem_of_getElem? (i := 11) rfl
theorem fl_X1_init_36 : Cond.fieldLink RX1 36 "OrderChains$Channel" "from" "I" ∈ wsX1_init := List.mem_of_getElem? (i := 12) rfl
theorem fl_X1_init_39 : Cond.fieldLink RX1 39 "OrderChains$Channel" "to" "I" ∈ wsX1_init := List.mem_of_getElem? (i := 13) rfl
theorem fl_X1_init_42 : Cond.fieldLink RX1 42 "OrderChains$Channel" "count" "I" ∈ wsX1_init := List.mem_of_getElem? (i := 14) rfl
theorem fl_X1_init_45 : Cond.fieldLink RX1 45 "OrderChains$Channel" "stride" "I" ∈ wsX1_init := List.mem_of_getElem? (i := 15) rfl
theorem fl_X1_init_48 : Cond.fieldLink RX1 48 "OrderChains$Channel" "next" "I" ∈ wsX1_init := List.mem_of_getElem? (i := 16) rfl
set_option maxHeartbeats 4000000 in
set_option maxRecDepth 100000 in
/-- Channel() -/
theorem c_X1_init (l : Launch) (G : vG) (b : Nat) : Kc l G yX1_init wsX1_init rX1_init [.ref b] [[(b, .inr (1, [.int (nI 0), .int (nI 0), .int (nI 0), .int (nI 0), .int (nI 0), .int (nI 0), .int (nI 0), .int (nI 0), .int (nI 0), .int (nI 0), .int (nI 0), .int (nI 0), .int (nI 0)]))]] (fun v Y => v = none ∧ Y = [cX b chN]) 0 0 := by
  refine V_enter (own := RX1) [some (.ref b)] (by decide +kernel) rfl rfl (Nat.le_of_ble_eq_true rfl) rfl (fun Γ hR hin => ?_)
  have hkc : 0 ≤ 0 := Nat.le_refl 0
  have hks : 0 ≤ 0 := Nat.le_refl 0
  have hI := hin rfl
  refine V_aload_n (i := 0) dX1_init_0 rfl rfl ?_
  refine V_objInit ol_X1_init_3 oi_X1_init oc_X1_init ⟨rfl, rfl⟩ dX1_init_1 ?_
  refine V_aload_n (i := 0) dX1_init_4 rfl rfl ?_
  refine V_iconst (v := 0) dX1_init_5 rfl ?_
  refine V_put (C := RX1) (T := TX1) (N := 13) (ci := 1) (q := 0) (ref := "OrderChains$Channel") (ty := .int) (ty0 := tyX1) 0 rfl il_X1_init_X1 tyX1_ok nmX1 rfl rfl fl_X1_init_9 rfl rfl rfl rfl rfl rfl dX1_init_6 ?_
  dsimp only [List.set_cons_zero, List.set_cons_succ]
  refine V_aload_n (i := 0) dX1_init_9 rfl rfl ?_
  refine V_iconst (v := 0) dX1_init_10 rfl ?_
  refine V_put (C := RX1) (T := TX1) (N := 13) (ci := 1) (q := 0) (ref := "OrderChains$Channel") (ty := .int) (ty0 := tyX1) 1 rfl il_X1_init_X1 tyX1_ok nmX1 rfl rfl fl_X1_init_15 rfl rfl rfl rfl rfl rfl dX1_init_11 ?_
  dsimp only [List.set_cons_zero, List.set_cons_succ]
  refine V_aload_n (i := 0) dX1_init_14 rfl rfl ?_
  refine V_bipush (v := 4294967287) dX1_init_15 (by decide) ?_
  refine V_put (C := RX1) (T := TX1) (N := 13) (ci := 1) (q := 0) (ref := "OrderChains$Channel") (ty := .int) (ty0 := tyX1) 2 rfl il_X1_init_X1 tyX1_ok nmX1 rfl rfl fl_X1_init_18 rfl rfl rfl rfl rfl rfl dX1_init_17 ?_
  dsimp only [List.set_cons_zero, List.set_cons_succ]
  refine V_aload_n (i := 0) dX1_init_20 rfl rfl ?_
  refine V_iconst (v := 0) dX1_init_21 rfl ?_
  refine V_put (C := RX1) (T := TX1) (N := 13) (ci := 1) (q := 0) (ref := "OrderChains$Channel") (ty := .int) (ty0 := tyX1) 3 rfl il_X1_init_X1 tyX1_ok nmX1 rfl rfl fl_X1_init_21 rfl rfl rfl rfl rfl rfl dX1_init_22 ?_
  dsimp only [List.set_cons_zero, List.set_cons_succ]
  refine V_aload_n (i := 0) dX1_init_25 rfl rfl ?_
  refine V_iconst (v := 0) dX1_init_26 rfl ?_
  refine V_put (C := RX1) (T := TX1) (N := 13) (ci := 1) (q := 0) (ref := "OrderChains$Channel") (ty := .int) (ty0 := tyX1) 4 rfl il_X1_init_X1 tyX1_ok nmX1 rfl rfl fl_X1_init_24 rfl rfl rfl rfl rfl rfl dX1_init_27 ?_
  dsimp only [List.set_cons_zero, List.set_cons_succ]
  refine V_aload_n (i := 0) dX1_init_30 rfl rfl ?_
  refine V_bipush (v := 4294967287) dX1_init_31 (by decide) ?_
  refine V_put (C := RX1) (T := TX1) (N := 13) (ci := 1) (q := 0) (ref := "OrderChains$Channel") (ty := .int) (ty0 := tyX1) 5 rfl il_X1_init_X1 tyX1_ok nmX1 rfl rfl fl_X1_init_27 rfl rfl rfl rfl rfl rfl dX1_init_33 ?_
  dsimp only [List.set_cons_zero, List.set_cons_succ]
  refine V_aload_n (i := 0) dX1_init_36 rfl rfl ?_
  refine V_iconst (v := 0) dX1_init_37 rfl ?_
  refine V_put (C := RX1) (T := TX1) (N := 13) (ci := 1) (q := 0) (ref := "OrderChains$Channel") (ty := .int) (ty0 := tyX1) 6 rfl il_X1_init_X1 tyX1_ok nmX1 rfl rfl fl_X1_init_30 rfl rfl rfl rfl rfl rfl dX1_init_38 ?_
  dsimp only [List.set_cons_zero, List.set_cons_succ]
  refine V_aload_n (i := 0) dX1_init_41 rfl rfl ?_
  refine V_iconst (v := 0) dX1_init_42 rfl ?_
  refine V_put (C := RX1) (T := TX1) (N := 13) (ci := 1) (q := 0) (ref := "OrderChains$Channel") (ty := .int) (ty0 := tyX1) 7 rfl il_X1_init_X1 tyX1_ok nmX1 rfl rfl fl_X1_init_33 rfl rfl rfl rfl rfl rfl dX1_init_43 ?_
  dsimp only [List.set_cons_zero, List.set_cons_succ]
  refine V_aload_n (i := 0) dX1_init_46 rfl rfl ?_
  refine V_iconst (v := 0) dX1_init_47 rfl ?_
  refine V_put (C := RX1) (T := TX1) (N := 13) (ci := 1) (q := 0) (ref := "OrderChains$Channel") (ty := .int) (ty0 := tyX1) 8 rfl il_X1_init_X1 tyX1_ok nmX1 rfl rfl fl_X1_init_36 rfl rfl rfl rfl rfl rfl dX1_init_48 ?_
  dsimp only [List.set_cons_zero, List.set_cons_succ]
  refine V_aload_n (i := 0) dX1_init_51 rfl rfl ?_
  refine V_iconst (v := 0) dX1_init_52 rfl ?_
  refine V_put (C := RX1) (T := TX1) (N := 13) (ci := 1) (q := 0) (ref := "OrderChains$Channel") (ty := .int) (ty0 := tyX1) 9 rfl il_X1_init_X1 tyX1_ok nmX1 rfl rfl fl_X1_init_39 rfl rfl rfl rfl rfl rfl dX1_init_53 ?_
  dsimp only [List.set_cons_zero, List.set_cons_succ]
  refine V_aload_n (i := 0) dX1_init_56 rfl rfl ?_
  refine V_iconst (v := 0) dX1_init_57 rfl ?_
  refine V_put (C := RX1) (T := TX1) (N := 13) (ci := 1) (q := 0) (ref := "OrderChains$Channel") (ty := .int) (ty0 := tyX1) 10 rfl il_X1_init_X1 tyX1_ok nmX1 rfl rfl fl_X1_init_42 rfl rfl rfl rfl rfl rfl dX1_init_58 ?_
  dsimp only [List.set_cons_zero, List.set_cons_succ]
  refine V_aload_n (i := 0) dX1_init_61 rfl rfl ?_
  refine V_iconst (v := 0) dX1_init_62 rfl ?_
  refine V_put (C := RX1) (T := TX1) (N := 13) (ci := 1) (q := 0) (ref := "OrderChains$Channel") (ty := .int) (ty0 := tyX1) 11 rfl il_X1_init_X1 tyX1_ok nmX1 rfl rfl fl_X1_init_45 rfl rfl rfl rfl rfl rfl dX1_init_63 ?_
  dsimp only [List.set_cons_zero, List.set_cons_succ]
  refine V_aload_n (i := 0) dX1_init_66 rfl rfl ?_
  refine V_iconst (v := 0) dX1_init_67 rfl ?_
  refine V_put (C := RX1) (T := TX1) (N := 13) (ci := 1) (q := 0) (ref := "OrderChains$Channel") (ty := .int) (ty0 := tyX1) 12 rfl il_X1_init_X1 tyX1_ok nmX1 rfl rfl fl_X1_init_48 rfl rfl rfl rfl rfl rfl dX1_init_68 ?_
  dsimp only [List.set_cons_zero, List.set_cons_succ]
  refine V_vret hR dX1_init_71 (Nat.le_of_ble_eq_true rfl) (Nat.le_of_ble_eq_true rfl) ?_
  exact ⟨rfl, rfl⟩

abbrev rX5_init : Room := { frames := 1, cells := 0, slots := 0, locals := 24 }
theorem vy_X5_init : vY yX5_init wsX5_init cX5_init 1 none 0 := ⟨⟨_, rfl⟩, by decide +kernel, by decide +kernel, by decide +kernel⟩
theorem ol_X5_init_3 : Cond.methodLink RX5 3 objectInit ∈ wsX5_init := List.mem_of_getElem? (i := 1) rfl
theorem oi_X5_init : Cond.instanceMethod objectInit ∈ wsX5_init := List.mem_of_getElem? (i := 2) rfl
theorem oc_X5_init : Cond.code objectInit ⟨#[0xb1]⟩ 1 none ∈ wsX5_init := List.mem_of_getElem? (i := 3) rfl
theorem fl_X5_init_11 : Cond.fieldLink RX5 11 "OrderChains$TextReader" "expected" "I" ∈ wsX5_init := List.mem_of_getElem? (i := 4) rfl
theorem il_X5_init_X5 : ∀ w ∈ wsX50, w ∈ wsX5_init := fun _ h => List.mem_cons_of_mem _ (List.mem_append_right _ h)
theorem fl_X5_init_15 : Cond.fieldLink RX5 15 "OrderChains$TextReader" "tens" "I" ∈ wsX5_init := List.mem_of_getElem? (i := 5) rfl
theorem fl_X5_init_18 : Cond.fieldLink RX5 18 "OrderChains$TextReader" "nextCell" "I" ∈ wsX5_init := List.mem_of_getElem? (i := 6) rfl
theorem fl_X5_init_21 : Cond.fieldLink RX5 21 "OrderChains$TextReader" "owner" "I" ∈ wsX5_init := List.mem_of_getElem? (i := 7) rfl
theorem fl_X5_init_24 : Cond.fieldLink RX5 24 "OrderChains$TextReader" "channelToStart" "I" ∈ wsX5_init := List.mem_of_getElem? (i := 8) rfl
set_option maxHeartbeats 4000000 in
set_option maxRecDepth 100000 in
/-- TextReader() -/
theorem c_X5_init (l : Launch) (G : vG) (b : Nat) : Kc l G yX5_init wsX5_init rX5_init [.ref b] [[(b, .inr (4, [.int (nI 0), .int (nI 0), .int (nI 0), .int (nI 0), .int (nI 0)]))]] (fun v Y => v = none ∧ Y = [tR b (fun _ => 0)]) 0 0 := by
  refine V_enter (own := RX5) [some (.ref b)] (by decide +kernel) rfl rfl (Nat.le_of_ble_eq_true rfl) rfl (fun Γ hR hin => ?_)
  have hkc : 0 ≤ 0 := Nat.le_refl 0
  have hks : 0 ≤ 0 := Nat.le_refl 0
  have hI := hin rfl
  refine V_aload_n (i := 0) dX5_init_0 rfl rfl ?_
  refine V_objInit ol_X5_init_3 oi_X5_init oc_X5_init ⟨rfl, rfl⟩ dX5_init_1 ?_
  refine V_aload_n (i := 0) dX5_init_4 rfl rfl ?_
  refine V_iconst (v := 0) dX5_init_5 rfl ?_
  refine V_put (C := RX5) (T := TX5) (N := 5) (ci := 4) (q := 0) (ref := "OrderChains$TextReader") (ty := .int) (ty0 := tyX5) 0 rfl il_X5_init_X5 tyX5_ok nmX5 rfl rfl fl_X5_init_11 rfl rfl rfl rfl rfl rfl dX5_init_6 ?_
  dsimp only [List.set_cons_zero, List.set_cons_succ]
  refine V_aload_n (i := 0) dX5_init_9 rfl rfl ?_
  refine V_iconst (v := 0) dX5_init_10 rfl ?_
  refine V_put (C := RX5) (T := TX5) (N := 5) (ci := 4) (q := 0) (ref := "OrderChains$TextReader") (ty := .int) (ty0 := tyX5) 1 rfl il_X5_init_X5 tyX5_ok nmX5 rfl rfl fl_X5_init_15 rfl rfl rfl rfl rfl rfl dX5_init_11 ?_
  dsimp only [List.set_cons_zero, List.set_cons_succ]
  refine V_aload_n (i := 0) dX5_init_14 rfl rfl ?_
  refine V_iconst (v := 0) dX5_init_15 rfl ?_
  refine V_put (C := RX5) (T := TX5) (N := 5) (ci := 4) (q := 0) (ref := "OrderChains$TextReader") (ty := .int) (ty0 := tyX5) 2 rfl il_X5_init_X5 tyX5_ok nmX5 rfl rfl fl_X5_init_18 rfl rfl rfl rfl rfl rfl dX5_init_16 ?_
  dsimp only [List.set_cons_zero, List.set_cons_succ]
  refine V_aload_n (i := 0) dX5_init_19 rfl rfl ?_
  refine V_iconst (v := 0) dX5_init_20 rfl ?_
  refine V_put (C := RX5) (T := TX5) (N := 5) (ci := 4) (q := 0) (ref := "OrderChains$TextReader") (ty := .int) (ty0 := tyX5) 3 rfl il_X5_init_X5 tyX5_ok nmX5 rfl rfl fl_X5_init_21 rfl rfl rfl rfl rfl rfl dX5_init_21 ?_
  dsimp only [List.set_cons_zero, List.set_cons_succ]
  refine V_aload_n (i := 0) dX5_init_24 rfl rfl ?_
  refine V_iconst (v := 0) dX5_init_25 rfl ?_
  refine V_put (C := RX5) (T := TX5) (N := 5) (ci := 4) (q := 0) (ref := "OrderChains$TextReader") (ty := .int) (ty0 := tyX5) 4 rfl il_X5_init_X5 tyX5_ok nmX5 rfl rfl fl_X5_init_24 rfl rfl rfl rfl rfl rfl dX5_init_26 ?_
  dsimp only [List.set_cons_zero, List.set_cons_succ]
  refine V_vret hR dX5_init_29 (Nat.le_of_ble_eq_true rfl) (Nat.le_of_ble_eq_true rfl) ?_
  exact ⟨rfl, rfl⟩

abbrev rX0_init : Room := { frames := 1, cells := 1, slots := 96, locals := 24 }
theorem vy_X0_init : vY yX0_init wsX0_init cX0_init 1 none 0 := ⟨⟨_, rfl⟩, by decide +kernel, by decide +kernel, by decide +kernel⟩
theorem ol_X0_init_3 : Cond.methodLink RX0 3 objectInit ∈ wsX0_init := List.mem_of_getElem? (i := 1) rfl
theorem oi_X0_init : Cond.instanceMethod objectInit ∈ wsX0_init := List.mem_of_getElem? (i := 2) rfl
theorem oc_X0_init : Cond.code objectInit ⟨#[0xb1]⟩ 1 none ∈ wsX0_init := List.mem_of_getElem? (i := 3) rfl
theorem ka_X0_init_int : Cond.arrayClass .int ∈ wsX0_init := List.mem_of_getElem? (i := 4) rfl
theorem fl_X0_init_9 : Cond.fieldLink RX0 9 "OrderChains$ChainWalk" "seen" "[I" ∈ wsX0_init := List.mem_of_getElem? (i := 5) rfl
theorem il_X0_init_X0 : ∀ w ∈ wsX00, w ∈ wsX0_init := fun _ h => List.mem_cons_of_mem _ (List.mem_append_right _ h)
theorem fl_X0_init_15 : Cond.fieldLink RX0 15 "OrderChains$ChainWalk" "orders" "I" ∈ wsX0_init := List.mem_of_getElem? (i := 6) rfl
theorem fl_X0_init_19 : Cond.fieldLink RX0 19 "OrderChains$ChainWalk" "ending" "I" ∈ wsX0_init := List.mem_of_getElem? (i := 7) rfl
set_option maxHeartbeats 4000000 in
set_option maxRecDepth 100000 in
/-- ChainWalk() -/
theorem c_X0_init (l : Launch) (G : vG) (b : Nat) : Kc l G yX0_init wsX0_init rX0_init [.ref b] [[(b, .inr (0, [.null, .int (nI 0), .int (nI 0)]))]] (fun v Y => v = none ∧ ∃ sa : Nat, Y = [wO b sa (fun _ => 0) ++ iA G sa 96 (fun _ => 0)]) 1 96 := by
  refine V_enter (own := RX0) [some (.ref b)] (by decide +kernel) rfl rfl (Nat.le_of_ble_eq_true rfl) rfl (fun Γ hR hin => ?_)
  have hI := hin rfl
  refine V_aload_n (i := 0) dX0_init_0 rfl rfl ?_
  refine V_objInit ol_X0_init_3 oi_X0_init oc_X0_init ⟨rfl, rfl⟩ dX0_init_1 ?_
  refine V_aload_n (i := 0) dX0_init_4 rfl rfl ?_
  refine V_bipush (v := 96) dX0_init_5 (by decide) ?_
  refine V_newI (N := 96) ka_X0_init_int rfl rfl rfl dX0_init_7 (fun q1 => ?_)
  dsimp only [List.cons_append, List.nil_append]
  refine V_putF hI (C := RX0) (T := TX0) (N := 3) (ci := 0) (q := 0) (ref := "OrderChains$ChainWalk") (ty := .array .int) (ty0 := tyX0) 0 rfl il_X0_init_X0 tyX0_ok nmX0 rfl rfl fl_X0_init_9 rfl rfl rfl rfl rfl rfl dX0_init_9 ?_
  dsimp only [List.set_cons_zero, List.set_cons_succ]
  refine V_aload_n (i := 0) dX0_init_12 rfl rfl ?_
  refine V_iconst (v := 0) dX0_init_13 rfl ?_
  refine V_put (C := RX0) (T := TX0) (N := 3) (ci := 0) (q := 0) (ref := "OrderChains$ChainWalk") (ty := .int) (ty0 := tyX0) 1 rfl il_X0_init_X0 tyX0_ok nmX0 rfl rfl fl_X0_init_15 rfl rfl rfl rfl rfl rfl dX0_init_14 ?_
  dsimp only [List.set_cons_zero, List.set_cons_succ]
  refine V_aload_n (i := 0) dX0_init_17 rfl rfl ?_
  refine V_iconst (v := 0) dX0_init_18 rfl ?_
  refine V_put (C := RX0) (T := TX0) (N := 3) (ci := 0) (q := 0) (ref := "OrderChains$ChainWalk") (ty := .int) (ty0 := tyX0) 2 rfl il_X0_init_X0 tyX0_ok nmX0 rfl rfl fl_X0_init_19 rfl rfl rfl rfl rfl rfl dX0_init_19 ?_
  dsimp only [List.set_cons_zero, List.set_cons_succ]
  refine V_same (X' := [wO b q1 (fun _ => 0) ++ iA G q1 96 (fun _ => 0)]) (by rfl) ?_
  refine V_vret hR dX0_init_22 (Nat.le_of_ble_eq_true rfl) (Nat.le_of_ble_eq_true rfl) ?_
  exact ⟨rfl, q1, rfl⟩

abbrev rX2_init : Room := { frames := 2, cells := 9, slots := 522, locals := 44 }
theorem vy_X2_init : vY yX2_init wsX2_init cX2_init 2 none 0 := ⟨⟨_, rfl⟩, by decide +kernel, by decide +kernel, by decide +kernel⟩
theorem ol_X2_init_3 : Cond.methodLink RX2 3 objectInit ∈ wsX2_init := List.mem_of_getElem? (i := 1) rfl
theorem oi_X2_init : Cond.instanceMethod objectInit ∈ wsX2_init := List.mem_of_getElem? (i := 2) rfl
theorem oc_X2_init : Cond.code objectInit ⟨#[0xb1]⟩ 1 none ∈ wsX2_init := List.mem_of_getElem? (i := 3) rfl
theorem ka_X2_init_int : Cond.arrayClass .int ∈ wsX2_init := List.mem_of_getElem? (i := 4) rfl
theorem fl_X2_init_9 : Cond.fieldLink RX2 9 "OrderChains$Engine" "values" "[I" ∈ wsX2_init := List.mem_of_getElem? (i := 5) rfl
theorem il_X2_init_X2 : ∀ w ∈ wsX20, w ∈ wsX2_init := fun _ h => List.mem_cons_of_mem _ (List.mem_append_left _ (List.mem_append_right _ h))
theorem fl_X2_init_15 : Cond.fieldLink RX2 15 "OrderChains$Engine" "owners" "[I" ∈ wsX2_init := List.mem_of_getElem? (i := 6) rfl
theorem fl_X2_init_18 : Cond.fieldLink RX2 18 "OrderChains$Engine" "marks" "[I" ∈ wsX2_init := List.mem_of_getElem? (i := 7) rfl
theorem fl_X2_init_21 : Cond.fieldLink RX2 21 "OrderChains$Engine" "lastWriters" "[I" ∈ wsX2_init := List.mem_of_getElem? (i := 8) rfl
theorem kl_X2_init_24 : Cond.classLink RX2 24 RX1 ∈ wsX2_init := List.mem_of_getElem? (i := 9) rfl
theorem fl_X2_init_26 : Cond.fieldLink RX2 26 "OrderChains$Engine" "channels" "[LOrderChains$Channel;" ∈ wsX2_init := List.mem_of_getElem? (i := 10) rfl
theorem fl_X2_init_30 : Cond.fieldLink RX2 30 "OrderChains$Engine" "lastTurn" "I" ∈ wsX2_init := List.mem_of_getElem? (i := 11) rfl
theorem fl_X2_init_34 : Cond.fieldLink RX2 34 "OrderChains$Engine" "ticks" "I" ∈ wsX2_init := List.mem_of_getElem? (i := 12) rfl
theorem fl_X2_init_37 : Cond.fieldLink RX2 37 "OrderChains$Engine" "edits" "I" ∈ wsX2_init := List.mem_of_getElem? (i := 13) rfl
theorem fl_X2_init_40 : Cond.fieldLink RX2 40 "OrderChains$Engine" "writes" "I" ∈ wsX2_init := List.mem_of_getElem? (i := 14) rfl
theorem fl_X2_init_43 : Cond.fieldLink RX2 43 "OrderChains$Engine" "writerBits" "[I" ∈ wsX2_init := List.mem_of_getElem? (i := 15) rfl
theorem fl_X2_init_46 : Cond.fieldLink RX2 46 "OrderChains$Engine" "earliestEdit" "I" ∈ wsX2_init := List.mem_of_getElem? (i := 16) rfl
theorem kn_X2_init_X1 : Cond.instantiable RX1 13 ∈ wsX2_init := List.mem_of_getElem? (i := 17) rfl
theorem in_X2_init_X1 : Cond.initialized RX1 ∈ wsX2_init := List.mem_of_getElem? (i := 18) rfl
theorem il_X2_init_X1 : ∀ w ∈ wsX10, w ∈ wsX2_init := fun _ h => List.mem_cons_of_mem _ (List.mem_append_right _ h)
theorem im_X2_init_X1_init : Cond.instanceMethod yX1_init ∈ wsX2_init := List.mem_of_getElem? (i := 19) rfl
set_option maxHeartbeats 4000000 in
set_option maxRecDepth 100000 in
/-- Engine() -/
theorem c_X2_init (l : Launch) (G : vG) (b : Nat) : Kc l G yX2_init wsX2_init rX2_init [.ref b] [[(b, .inr (2, [.null, .null, .null, .null, .null, .int (nI 0), .int (nI 0), .int (nI 0), .int (nI 0), .null, .int (nI 0)]))]] (fun v Y => v = none ∧ ∃ a : Nat → Nat, a 0 = b ∧ Y = [eK G a eN]) 9 522 := by
  refine V_enter (own := RX2) [some (.ref b), none] (by decide +kernel) rfl rfl (Nat.le_of_ble_eq_true rfl) rfl (fun Γ hR hin => ?_)
  have hI := hin rfl
  refine V_aload_n (i := 0) dX2_init_0 rfl rfl ?_
  refine V_objInit ol_X2_init_3 oi_X2_init oc_X2_init ⟨rfl, rfl⟩ dX2_init_1 ?_
  refine V_aload_n (i := 0) dX2_init_4 rfl rfl ?_
  refine V_bipush (v := 96) dX2_init_5 (by decide) ?_
  refine V_newI (N := 96) ka_X2_init_int rfl rfl rfl dX2_init_7 (fun q1 => ?_)
  dsimp only [List.cons_append, List.nil_append]
  refine V_putF hI (C := RX2) (T := TX2) (N := 11) (ci := 2) (q := 0) (ref := "OrderChains$Engine") (ty := .array .int) (ty0 := tyX2) 0 rfl il_X2_init_X2 tyX2_ok nmX2 rfl rfl fl_X2_init_9 rfl rfl rfl rfl rfl rfl dX2_init_9 ?_
  dsimp only [List.set_cons_zero, List.set_cons_succ]
  refine V_aload_n (i := 0) dX2_init_12 rfl rfl ?_
  refine V_bipush (v := 96) dX2_init_13 (by decide) ?_
  refine V_newI (N := 96) ka_X2_init_int rfl rfl rfl dX2_init_15 (fun q2 => ?_)
  dsimp only [List.cons_append, List.nil_append]
  refine V_putF hI (C := RX2) (T := TX2) (N := 11) (ci := 2) (q := 0) (ref := "OrderChains$Engine") (ty := .array .int) (ty0 := tyX2) 1 rfl il_X2_init_X2 tyX2_ok nmX2 rfl rfl fl_X2_init_15 rfl rfl rfl rfl rfl rfl dX2_init_17 ?_
  dsimp only [List.set_cons_zero, List.set_cons_succ]
  refine V_aload_n (i := 0) dX2_init_20 rfl rfl ?_
  refine V_bipush (v := 96) dX2_init_21 (by decide) ?_
  refine V_newI (N := 96) ka_X2_init_int rfl rfl rfl dX2_init_23 (fun q3 => ?_)
  dsimp only [List.cons_append, List.nil_append]
  refine V_putF hI (C := RX2) (T := TX2) (N := 11) (ci := 2) (q := 0) (ref := "OrderChains$Engine") (ty := .array .int) (ty0 := tyX2) 2 rfl il_X2_init_X2 tyX2_ok nmX2 rfl rfl fl_X2_init_18 rfl rfl rfl rfl rfl rfl dX2_init_25 ?_
  dsimp only [List.set_cons_zero, List.set_cons_succ]
  refine V_aload_n (i := 0) dX2_init_28 rfl rfl ?_
  refine V_bipush (v := 96) dX2_init_29 (by decide) ?_
  refine V_newI (N := 96) ka_X2_init_int rfl rfl rfl dX2_init_31 (fun q4 => ?_)
  dsimp only [List.cons_append, List.nil_append]
  refine V_putF hI (C := RX2) (T := TX2) (N := 11) (ci := 2) (q := 0) (ref := "OrderChains$Engine") (ty := .array .int) (ty0 := tyX2) 3 rfl il_X2_init_X2 tyX2_ok nmX2 rfl rfl fl_X2_init_21 rfl rfl rfl rfl rfl rfl dX2_init_33 ?_
  dsimp only [List.set_cons_zero, List.set_cons_succ]
  refine V_aload_n (i := 0) dX2_init_36 rfl rfl ?_
  refine V_iconst (v := 3) dX2_init_37 rfl ?_
  refine V_anew (N := 3) (t := 2) (C := RX1) kl_X2_init_24 (fun _ h => h.2.2.2.2.2.2.2.1) rfl rfl rfl rfl dX2_init_38 (fun q5 => ?_)
  dsimp only [List.cons_append, List.nil_append]
  refine V_putF hI (C := RX2) (T := TX2) (N := 11) (ci := 2) (q := 0) (ref := "OrderChains$Engine") (ty := .array (.object "OrderChains$Channel")) (ty0 := tyX2) 4 rfl il_X2_init_X2 tyX2_ok nmX2 rfl rfl fl_X2_init_26 rfl rfl rfl rfl rfl rfl dX2_init_41 ?_
  dsimp only [List.set_cons_zero, List.set_cons_succ]
  refine V_aload_n (i := 0) dX2_init_44 rfl rfl ?_
  refine V_iconst (v := 2) dX2_init_45 rfl ?_
  refine V_put (C := RX2) (T := TX2) (N := 11) (ci := 2) (q := 0) (ref := "OrderChains$Engine") (ty := .int) (ty0 := tyX2) 5 rfl il_X2_init_X2 tyX2_ok nmX2 rfl rfl fl_X2_init_30 rfl rfl rfl rfl rfl rfl dX2_init_46 ?_
  dsimp only [List.set_cons_zero, List.set_cons_succ]
  refine V_aload_n (i := 0) dX2_init_49 rfl rfl ?_
  refine V_iconst (v := 0) dX2_init_50 rfl ?_
  refine V_put (C := RX2) (T := TX2) (N := 11) (ci := 2) (q := 0) (ref := "OrderChains$Engine") (ty := .int) (ty0 := tyX2) 6 rfl il_X2_init_X2 tyX2_ok nmX2 rfl rfl fl_X2_init_34 rfl rfl rfl rfl rfl rfl dX2_init_51 ?_
  dsimp only [List.set_cons_zero, List.set_cons_succ]
  refine V_aload_n (i := 0) dX2_init_54 rfl rfl ?_
  refine V_iconst (v := 0) dX2_init_55 rfl ?_
  refine V_put (C := RX2) (T := TX2) (N := 11) (ci := 2) (q := 0) (ref := "OrderChains$Engine") (ty := .int) (ty0 := tyX2) 7 rfl il_X2_init_X2 tyX2_ok nmX2 rfl rfl fl_X2_init_37 rfl rfl rfl rfl rfl rfl dX2_init_56 ?_
  dsimp only [List.set_cons_zero, List.set_cons_succ]
  refine V_aload_n (i := 0) dX2_init_59 rfl rfl ?_
  refine V_iconst (v := 0) dX2_init_60 rfl ?_
  refine V_put (C := RX2) (T := TX2) (N := 11) (ci := 2) (q := 0) (ref := "OrderChains$Engine") (ty := .int) (ty0 := tyX2) 8 rfl il_X2_init_X2 tyX2_ok nmX2 rfl rfl fl_X2_init_40 rfl rfl rfl rfl rfl rfl dX2_init_61 ?_
  dsimp only [List.set_cons_zero, List.set_cons_succ]
  refine V_aload_n (i := 0) dX2_init_64 rfl rfl ?_
  refine V_bipush (v := 96) dX2_init_65 (by decide) ?_
  refine V_newI (N := 96) ka_X2_init_int rfl rfl rfl dX2_init_67 (fun q6 => ?_)
  dsimp only [List.cons_append, List.nil_append]
  refine V_putF hI (C := RX2) (T := TX2) (N := 11) (ci := 2) (q := 0) (ref := "OrderChains$Engine") (ty := .array .int) (ty0 := tyX2) 9 rfl il_X2_init_X2 tyX2_ok nmX2 rfl rfl fl_X2_init_43 rfl rfl rfl rfl rfl rfl dX2_init_69 ?_
  dsimp only [List.set_cons_zero, List.set_cons_succ]
  refine V_aload_n (i := 0) dX2_init_72 rfl rfl ?_
  refine V_bipush (v := 4294967287) dX2_init_73 (by decide) ?_
  refine V_put (C := RX2) (T := TX2) (N := 11) (ci := 2) (q := 0) (ref := "OrderChains$Engine") (ty := .int) (ty0 := tyX2) 10 rfl il_X2_init_X2 tyX2_ok nmX2 rfl rfl fl_X2_init_46 rfl rfl rfl rfl rfl rfl dX2_init_75 ?_
  dsimp only [List.set_cons_zero, List.set_cons_succ]
  refine V_iconst (v := 0) dX2_init_78 rfl ?_
  refine V_istore_n (i := 1) dX2_init_79 rfl rfl rfl ?_
  dsimp only [List.set_cons_zero, List.set_cons_succ]
  refine V_iload_n (i := 1) dX2_init_80 rfl rfl ?_
  refine V_iconst (v := 3) dX2_init_81 rfl ?_
  refine V_icmp_ge (tgt := 104) (by omega) (by omega) dX2_init_82 rfl (fun h_82 => ?_) (fun h_82 => ?_)
  · exfalso; omega
  · refine V_aload_n (i := 0) dX2_init_85 rfl rfl ?_
    refine V_get (C := RX2) (T := TX2) (N := 11) (ci := 2) (q := 0) (ref := "OrderChains$Engine") 4 rfl il_X2_init_X2 rfl rfl fl_X2_init_26 rfl rfl dX2_init_86 ?_
    refine V_iload_n (i := 1) dX2_init_89 rfl rfl ?_
    refine V_new (C := RX1) (T := TX1) (N := 13) (ci := 1) tyX1 kl_X2_init_24 kn_X2_init_X1 in_X2_init_X1 il_X2_init_X1 tyX1_ok rfl dfX1 rfl rfl dX2_init_90 (fun q7 => ?_)
    dsimp only [List.cons_append, List.nil_append]
    refine V_dup dX2_init_93 rfl ?_
    refine V_callIN (host := RX6) [7] (c_X1_init l G q7) vy_X1_init gX2_init_X1_init_n49 (fun _ h => h.2.2.1) in_X2_init_X1 im_X2_init_X1_init rfl rfl rfl rfl ⟨rfl, rfl⟩ ⟨rfl, rfl⟩ ⟨rfl, rfl⟩ rfl dX2_init_94 (fun v Y hE => ?_)
    obtain ⟨rfl, rfl⟩ := hE
    refine ⟨rfl, ?_⟩
    dsimp only [vfill, List.set_cons_zero, List.set_cons_succ, Option.toList, List.cons_append, List.nil_append, Nat.add_zero]
    refine V_aast (q := 5) (qk := 7) (ci := 1) (t := 2) (C := RX1) (T := TX1) (NF := 13) rfl rfl rfl rfl (by omega) rfl dX2_init_97 ?_
    dsimp only [List.set_cons_zero, List.set_cons_succ]
    refine V_iinc (v := 1) dX2_init_98 rfl (by decide) rfl rfl ?_
    dsimp only [List.set_cons_zero, List.set_cons_succ]
    refine V_goto (tgt := 80) dX2_init_101 rfl ?_
    refine V_iload_n (i := 1) dX2_init_80 rfl rfl ?_
    refine V_iconst (v := 3) dX2_init_81 rfl ?_
    refine V_icmp_ge (tgt := 104) (by omega) (by omega) dX2_init_82 rfl (fun h_82_2 => ?_) (fun h_82_2 => ?_)
    · exfalso; omega
    · refine V_aload_n (i := 0) dX2_init_85 rfl rfl ?_
      refine V_get (C := RX2) (T := TX2) (N := 11) (ci := 2) (q := 0) (ref := "OrderChains$Engine") 4 rfl il_X2_init_X2 rfl rfl fl_X2_init_26 rfl rfl dX2_init_86 ?_
      refine V_iload_n (i := 1) dX2_init_89 rfl rfl ?_
      refine V_new (C := RX1) (T := TX1) (N := 13) (ci := 1) tyX1 kl_X2_init_24 kn_X2_init_X1 in_X2_init_X1 il_X2_init_X1 tyX1_ok rfl dfX1 rfl rfl dX2_init_90 (fun q8 => ?_)
      dsimp only [List.cons_append, List.nil_append]
      refine V_dup dX2_init_93 rfl ?_
      refine V_callIN (host := RX6) [8] (c_X1_init l G q8) vy_X1_init gX2_init_X1_init_n49 (fun _ h => h.2.2.1) in_X2_init_X1 im_X2_init_X1_init rfl rfl rfl rfl ⟨rfl, rfl⟩ ⟨rfl, rfl⟩ ⟨rfl, rfl⟩ rfl dX2_init_94 (fun v Y hE => ?_)
      obtain ⟨rfl, rfl⟩ := hE
      refine ⟨rfl, ?_⟩
      dsimp only [vfill, List.set_cons_zero, List.set_cons_succ, Option.toList, List.cons_append, List.nil_append, Nat.add_zero]
      refine V_aast (q := 5) (qk := 8) (ci := 1) (t := 2) (C := RX1) (T := TX1) (NF := 13) rfl rfl rfl rfl (by omega) rfl dX2_init_97 ?_
      dsimp only [List.set_cons_zero, List.set_cons_succ]
      refine V_iinc (v := 2) dX2_init_98 rfl (by decide) rfl rfl ?_
      dsimp only [List.set_cons_zero, List.set_cons_succ]
      refine V_goto (tgt := 80) dX2_init_101 rfl ?_
      refine V_iload_n (i := 1) dX2_init_80 rfl rfl ?_
      refine V_iconst (v := 3) dX2_init_81 rfl ?_
      refine V_icmp_ge (tgt := 104) (by omega) (by omega) dX2_init_82 rfl (fun h_82_3 => ?_) (fun h_82_3 => ?_)
      · exfalso; omega
      · refine V_aload_n (i := 0) dX2_init_85 rfl rfl ?_
        refine V_get (C := RX2) (T := TX2) (N := 11) (ci := 2) (q := 0) (ref := "OrderChains$Engine") 4 rfl il_X2_init_X2 rfl rfl fl_X2_init_26 rfl rfl dX2_init_86 ?_
        refine V_iload_n (i := 1) dX2_init_89 rfl rfl ?_
        refine V_new (C := RX1) (T := TX1) (N := 13) (ci := 1) tyX1 kl_X2_init_24 kn_X2_init_X1 in_X2_init_X1 il_X2_init_X1 tyX1_ok rfl dfX1 rfl rfl dX2_init_90 (fun q9 => ?_)
        dsimp only [List.cons_append, List.nil_append]
        refine V_dup dX2_init_93 rfl ?_
        refine V_callIN (host := RX6) [9] (c_X1_init l G q9) vy_X1_init gX2_init_X1_init_n49 (fun _ h => h.2.2.1) in_X2_init_X1 im_X2_init_X1_init rfl rfl rfl rfl ⟨rfl, rfl⟩ ⟨rfl, rfl⟩ ⟨rfl, rfl⟩ rfl dX2_init_94 (fun v Y hE => ?_)
        obtain ⟨rfl, rfl⟩ := hE
        refine ⟨rfl, ?_⟩
        dsimp only [vfill, List.set_cons_zero, List.set_cons_succ, Option.toList, List.cons_append, List.nil_append, Nat.add_zero]
        refine V_aast (q := 5) (qk := 9) (ci := 1) (t := 2) (C := RX1) (T := TX1) (NF := 13) rfl rfl rfl rfl (by omega) rfl dX2_init_97 ?_
        dsimp only [List.set_cons_zero, List.set_cons_succ]
        refine V_iinc (v := 3) dX2_init_98 rfl (by decide) rfl rfl ?_
        dsimp only [List.set_cons_zero, List.set_cons_succ]
        refine V_goto (tgt := 80) dX2_init_101 rfl ?_
        refine V_iload_n (i := 1) dX2_init_80 rfl rfl ?_
        refine V_iconst (v := 3) dX2_init_81 rfl ?_
        refine V_icmp_ge (tgt := 104) (by omega) (by omega) dX2_init_82 rfl (fun h_82_4 => ?_) (fun h_82_4 => ?_)
        · refine V_aload_n (i := 0) dX2_init_104 rfl rfl ?_
          refine V_get (C := RX2) (T := TX2) (N := 11) (ci := 2) (q := 0) (ref := "OrderChains$Engine") 3 rfl il_X2_init_X2 rfl rfl fl_X2_init_21 rfl rfl dX2_init_105 ?_
          refine V_bipush (v := 4294967287) dX2_init_108 (by decide) ?_
          refine V_callS (As := _) (rest := []) [4] (c_J7_fill_53178 l G q4 96 4294967287 (fun _ => 0) rfl) vy_J7_fill_53178 gX2_init_J7_fill_53178 rfl rfl rfl rfl ⟨rfl, rfl⟩ ⟨rfl, rfl⟩ ⟨Nat.zero_le _, Nat.zero_le _⟩ rfl dX2_init_110 (fun v Y hE => ?_)
          obtain ⟨rfl, rfl⟩ := hE
          refine ⟨rfl, ?_⟩
          dsimp only [vfill, List.set_cons_zero, List.set_cons_succ, Option.toList, List.cons_append, List.nil_append, Nat.add_zero]
          refine V_arr (q := 5) (rA (fun h => (fun k => ([b, q1, q2, q3, q4, q5, q7, q8, q9, q6] : List Nat).getD k 0) (6 + h))) rfl (fun j hj => by
              match j, hj with
              | 0, _ => rfl
              | 1, _ => rfl
              | 2, _ => rfl
              | _ + 3, h => exact absurd h (by omega)) ?_
          refine V_toEnd 6 rfl ?_
          refine V_same (X' := [eK G (fun k => ([b, q1, q2, q3, q4, q5, q7, q8, q9, q6] : List Nat).getD k 0) eN]) (by rfl) ?_
          refine V_vret hR dX2_init_113 (Nat.le_of_ble_eq_true rfl) (Nat.le_of_ble_eq_true rfl) ?_
          exact ⟨rfl, _, rfl, rfl⟩
        · exfalso; omega

end CTOR
