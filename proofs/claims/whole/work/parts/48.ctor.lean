section CTOR
theorem dfX0 : ∀ j, j < 3 → defaultValue (tyX0 j) = vp_V [.null, .int (nI 0), .int (nI 0)] j := by
  intro j hj
  match j, hj with
  | 0, _ => rfl
  | 1, _ => rfl
  | 2, _ => rfl
  | _ + 3, h => exact absurd h (by omega)
theorem dfX1 : ∀ j, j < 13 → defaultValue (tyX1 j) = vp_V [.int (nI 0), .int (nI 0), .int (nI 0), .int (nI 0), .int (nI 0), .int (nI 0), .int (nI 0), .int (nI 0), .int (nI 0), .int (nI 0), .int (nI 0), .int (nI 0), .int (nI 0)] j := by
  intro j hj
  match j, hj with
  | 0, _ => rfl
  | 1, _ => rfl
  | 2, _ => rfl
  | 3, _ => rfl
  | 4, _ => rfl
  | 5, _ => rfl
  | 6, _ => rfl
  | 7, _ => rfl
  | 8, _ => rfl
  | 9, _ => rfl
  | 10, _ => rfl
  | 11, _ => rfl
  | 12, _ => rfl
  | _ + 13, h => exact absurd h (by omega)
theorem dfX2 : ∀ j, j < 11 → defaultValue (tyX2 j) = vp_V [.null, .null, .null, .null, .null, .int (nI 0), .int (nI 0), .int (nI 0), .int (nI 0), .null, .int (nI 0)] j := by
  intro j hj
  match j, hj with
  | 0, _ => rfl
  | 1, _ => rfl
  | 2, _ => rfl
  | 3, _ => rfl
  | 4, _ => rfl
  | 5, _ => rfl
  | 6, _ => rfl
  | 7, _ => rfl
  | 8, _ => rfl
  | 9, _ => rfl
  | 10, _ => rfl
  | _ + 11, h => exact absurd h (by omega)
theorem dfX3 : ∀ j, j < 3 → defaultValue (tyX3 j) = vp_V [.null, .int (nI 0), .int (nI 0)] j := by
  intro j hj
  match j, hj with
  | 0, _ => rfl
  | 1, _ => rfl
  | 2, _ => rfl
  | _ + 3, h => exact absurd h (by omega)
theorem dfX5 : ∀ j, j < 5 → defaultValue (tyX5 j) = vp_V [.int (nI 0), .int (nI 0), .int (nI 0), .int (nI 0), .int (nI 0)] j := by
  intro j hj
  match j, hj with
  | 0, _ => rfl
  | 1, _ => rfl
  | 2, _ => rfl
  | 3, _ => rfl
  | 4, _ => rfl
  | _ + 5, h => exact absurd h (by omega)
theorem dfX6 : ∀ j, j < 9 → defaultValue (tyX6 j) = vp_V [.null, .int (nI 0), .null, .null, .null, .null, .null, .null, .null] j := by
  intro j hj
  match j, hj with
  | 0, _ => rfl
  | 1, _ => rfl
  | 2, _ => rfl
  | 3, _ => rfl
  | 4, _ => rfl
  | 5, _ => rfl
  | 6, _ => rfl
  | 7, _ => rfl
  | 8, _ => rfl
  | _ + 9, h => exact absurd h (by omega)
theorem dfX7 : ∀ j, j < 17 → defaultValue (tyX7 j) = vp_V [.int (nI 0), .null, .int (nI 0), .int (nI 0), .null, .null, .null, .null, .int (nI 0), .null, .null, .null, .int (nI 0), .int (nI 0), .int (nI 0), .int (nI 0), .null] j := by
  intro j hj
  match j, hj with
  | 0, _ => rfl
  | 1, _ => rfl
  | 2, _ => rfl
  | 3, _ => rfl
  | 4, _ => rfl
  | 5, _ => rfl
  | 6, _ => rfl
  | 7, _ => rfl
  | 8, _ => rfl
  | 9, _ => rfl
  | 10, _ => rfl
  | 11, _ => rfl
  | 12, _ => rfl
  | 13, _ => rfl
  | 14, _ => rfl
  | 15, _ => rfl
  | 16, _ => rfl
  | _ + 17, h => exact absurd h (by omega)
def chN : Nat → Nat := fun k => if k = 2 ∨ k = 5 then 4294967287 else 0
/-- a new engine -/
def eN : vE := (fun _ => 0, fun _ => 0, fun _ => 0, fun k => if k < 96 then 4294967287 else 0, fun _ => 0, fun k => if k = 0 then 2 else if k = 4 then 4294967287 else 0, fun _ => chN)

abbrev rX1_init : Room := { frames := 1, cells := 0, slots := 0, locals := 24 }
theorem vy_X1_init : vY yX1_init wsX1_init cX1_init 1 none 0 := ⟨⟨_, rfl⟩, by decide +kernel, by decide +kernel, by decide +kernel⟩
theorem ol_X1_init_3 : Cond.methodLink RX1 3 objectInit ∈ wsX1_init := List.mem_of_getElem? (i := 1) rfl
theorem oi_X1_init : Cond.instanceMethod objectInit ∈ wsX1_init := List.mem_of_getElem? (i := 2) rfl
theorem oc_X1_init : Cond.code objectInit ⟨#[0xb1]⟩ 1 none ∈ wsX1_init := List.mem_of_getElem? (i := 3) rfl
theorem fl_X1_init_9 : Cond.fieldLink RX1 9 "OrderChains$Channel" "condition" "I" ∈ wsX1_init := List.mem_of_getElem? (i := 4) rfl
theorem il_X1_init_X1 : ∀ w ∈ wsX10, w ∈ wsX1_init := fun _ h => List.mem_cons_of_mem _ (List.mem_append_right _ h)
theorem fl_X1_init_15 : Cond.fieldLink RX1 15 "OrderChains$Channel" "head" "I" ∈ wsX1_init := List.mem_of_getElem? (i := 5) rfl
theorem fl_X1_init_18 : Cond.fieldLink RX1 18 "OrderChains$Channel" "cause" "I" ∈ wsX1_init := List.mem_of_getElem? (i := 6) rfl
theorem fl_X1_init_21 : Cond.fieldLink RX1 21 "OrderChains$Channel" "ordersRead" "I" ∈ wsX1_init := List.mem_of_getElem? (i := 7) rfl
theorem fl_X1_init_24 : Cond.fieldLink RX1 24 "OrderChains$Channel" "cellsWritten" "I" ∈ wsX1_init := List.mem_of_getElem? (i := 8) rfl
theorem fl_X1_init_27 : Cond.fieldLink RX1 27 "OrderChains$Channel" "place" "I" ∈ wsX1_init := List.mem_of_getElem? (i := 9) rfl
theorem fl_X1_init_30 : Cond.fieldLink RX1 30 "OrderChains$Channel" "units" "I" ∈ wsX1_init := List.mem_of_getElem? (i := 10) rfl
theorem fl_X1_init_33 : Cond.fieldLink RX1 33 "OrderChains$Channel" "kind" "I" ∈ wsX1_init := List.mem_of_getElem? (i := 11) rfl
theorem fl_X1_init_36 : Cond.fieldLink RX1 36 "OrderChains$Channel" "from" "I" ∈ wsX1_init := List.mem_of_getElem? (i := 12) rfl
theorem fl_X1_init_39 : Cond.fieldLink RX1 39 "OrderChains$Channel" "to" "I" ∈ wsX1_init := List.mem_of_getElem? (i := 13) rfl
theorem fl_X1_init_42 : Cond.fieldLink RX1 42 "OrderChains$Channel" "count" "I" ∈ wsX1_init := List.mem_of_getElem? (i := 14) rfl
theorem fl_X1_init_45 : Cond.fieldLink RX1 45 "OrderChains$Channel" "stride" "I" ∈ wsX1_init := List.mem_of_getElem? (i := 15) rfl
theorem fl_X1_init_48 : Cond.fieldLink RX1 48 "OrderChains$Channel" "next" "I" ∈ wsX1_init := List.mem_of_getElem? (i := 16) rfl
set_option maxHeartbeats 4000000 in
set_option maxRecDepth 100000 in
/-- Channel() -/
theorem c_X1_init (l : Launch) (G : vG) (b : Nat) : Kc l G yX1_init wsX1_init rX1_init [.ref b] [[(b, .inr (1, [.int (nI 0), .int (nI 0), .int (nI 0), .int (nI 0), .int (nI 0), .int (nI 0), .int (nI 0), .int (nI 0), .int (nI 0), .int (nI 0), .int (nI 0), .int (nI 0), .int (nI 0)]))]] (fun v Y => v = none ∧ Y = [cX b chN]) 0 0 := by
  refine V_enter (own := RX1) [some (.ref b)] (by decide +kernel) rfl rfl (Nat.le_of_ble_eq_true rfl) rfl (fun Γ hR hin => ?_)
  have hkc : 0 ≤ 0 := Nat.le_refl 0
  have hks : 0 ≤ 0 := Nat.le_refl 0
  have hI := hin rfl
  refine V_aload_n (i := 0) dX1_init_0 rfl rfl ?_
  refine V_objInit ol_X1_init_3 oi_X1_init oc_X1_init ⟨rfl, rfl⟩ dX1_init_1 ?_
  refine V_aload_n (i := 0) dX1_init_4 rfl rfl ?_
  refine V_iconst (v := 0) dX1_init_5 rfl ?_
  refine V_put (C := RX1) (T := TX1) (N := 13) (ci := 1) (q := 0) (ref := "OrderChains$Channel") (ty := .int) (ty0 := tyX1) 0 rfl il_X1_init_X1 tyX1_ok nmX1 rfl rfl fl_X1_init_9 rfl rfl rfl rfl rfl rfl dX1_init_6 ?_
  dsimp only [List.set_cons_zero, List.set_cons_succ]
  refine V_aload_n (i := 0) dX1_init_9 rfl rfl ?_
  refine V_iconst (v := 0) dX1_init_10 rfl ?_
  refine V_put (C := RX1) (T := TX1) (N := 13) (ci := 1) (q := 0) (ref := "OrderChains$Channel") (ty := .int) (ty0 := tyX1) 1 rfl il_X1_init_X1 tyX1_ok nmX1 rfl rfl fl_X1_init_15 rfl rfl rfl rfl rfl rfl dX1_init_11 ?_
  dsimp only [List.set_cons_zero, List.set_cons_succ]
  refine V_aload_n (i := 0) dX1_init_14 rfl rfl ?_
  refine V_bipush (v := 4294967287) dX1_init_15 (by decide) ?_
  refine V_put (C := RX1) (T := TX1) (N := 13) (ci := 1) (q := 0) (ref := "OrderChains$Channel") (ty := .int) (ty0 := tyX1) 2 rfl il_X1_init_X1 tyX1_ok nmX1 rfl rfl fl_X1_init_18 rfl rfl rfl rfl rfl rfl dX1_init_17 ?_
  dsimp only [List.set_cons_zero, List.set_cons_succ]
  refine V_aload_n (i := 0) dX1_init_20 rfl rfl ?_
  refine V_iconst (v := 0) dX1_init_21 rfl ?_
  refine V_put (C := RX1) (T := TX1) (N := 13) (ci := 1) (q := 0) (ref := "OrderChains$Channel") (ty := .int) (ty0 := tyX1) 3 rfl il_X1_init_X1 tyX1_ok nmX1 rfl rfl fl_X1_init_21 rfl rfl rfl rfl rfl rfl dX1_init_22 ?_
  dsimp only [List.set_cons_zero, List.set_cons_succ]
  refine V_aload_n (i := 0) dX1_init_25 rfl rfl ?_
  refine V_iconst (v := 0) dX1_init_26 rfl ?_
  refine V_put (C := RX1) (T := TX1) (N := 13) (ci := 1) (q := 0) (ref := "OrderChains$Channel") (ty := .int) (ty0 := tyX1) 4 rfl il_X1_init_X1 tyX1_ok nmX1 rfl rfl fl_X1_init_24 rfl rfl rfl rfl rfl rfl dX1_init_27 ?_
  dsimp only [List.set_cons_zero, List.set_cons_succ]
  refine V_aload_n (i := 0) dX1_init_30 rfl rfl ?_
  refine V_bipush (v := 4294967287) dX1_init_31 (by decide) ?_
  refine V_put (C := RX1) (T := TX1) (N := 13) (ci := 1) (q := 0) (ref := "OrderChains$Channel") (ty := .int) (ty0 := tyX1) 5 rfl il_X1_init_X1 tyX1_ok nmX1 rfl rfl fl_X1_init_27 rfl rfl rfl rfl rfl rfl dX1_init_33 ?_
  dsimp only [List.set_cons_zero, List.set_cons_succ]
  refine V_aload_n (i := 0) dX1_init_36 rfl rfl ?_
  refine V_iconst (v := 0) dX1_init_37 rfl ?_
  refine V_put (C := RX1) (T := TX1) (N := 13) (ci := 1) (q := 0) (ref := "OrderChains$Channel") (ty := .int) (ty0 := tyX1) 6 rfl il_X1_init_X1 tyX1_ok nmX1 rfl rfl fl_X1_init_30 rfl rfl rfl rfl rfl rfl dX1_init_38 ?_
  dsimp only [List.set_cons_zero, List.set_cons_succ]
  refine V_aload_n (i := 0) dX1_init_41 rfl rfl ?_
  refine V_iconst (v := 0) dX1_init_42 rfl ?_
  refine V_put (C := RX1) (T := TX1) (N := 13) (ci := 1) (q := 0) (ref := "OrderChains$Channel") (ty := .int) (ty0 := tyX1) 7 rfl il_X1_init_X1 tyX1_ok nmX1 rfl rfl fl_X1_init_33 rfl rfl rfl rfl rfl rfl dX1_init_43 ?_
  dsimp only [List.set_cons_zero, List.set_cons_succ]
  refine V_aload_n (i := 0) dX1_init_46 rfl rfl ?_
  refine V_iconst (v := 0) dX1_init_47 rfl ?_
  refine V_put (C := RX1) (T := TX1) (N := 13) (ci := 1) (q := 0) (ref := "OrderChains$Channel") (ty := .int) (ty0 := tyX1) 8 rfl il_X1_init_X1 tyX1_ok nmX1 rfl rfl fl_X1_init_36 rfl rfl rfl rfl rfl rfl dX1_init_48 ?_
  dsimp only [List.set_cons_zero, List.set_cons_succ]
  refine V_aload_n (i := 0) dX1_init_51 rfl rfl ?_
  refine V_iconst (v := 0) dX1_init_52 rfl ?_
  refine V_put (C := RX1) (T := TX1) (N := 13) (ci := 1) (q := 0) (ref := "OrderChains$Channel") (ty := .int) (ty0 := tyX1) 9 rfl il_X1_init_X1 tyX1_ok nmX1 rfl rfl fl_X1_init_39 rfl rfl rfl rfl rfl rfl dX1_init_53 ?_
  dsimp only [List.set_cons_zero, List.set_cons_succ]
  refine V_aload_n (i := 0) dX1_init_56 rfl rfl ?_
  refine V_iconst (v := 0) dX1_init_57 rfl ?_
  refine V_put (C := RX1) (T := TX1) (N := 13) (ci := 1) (q := 0) (ref := "OrderChains$Channel") (ty := .int) (ty0 := tyX1) 10 rfl il_X1_init_X1 tyX1_ok nmX1 rfl rfl fl_X1_init_42 rfl rfl rfl rfl rfl rfl dX1_init_58 ?_
  dsimp only [List.set_cons_zero, List.set_cons_succ]
  refine V_aload_n (i := 0) dX1_init_61 rfl rfl ?_
  refine V_iconst (v := 0) dX1_init_62 rfl ?_
  refine V_put (C := RX1) (T := TX1) (N := 13) (ci := 1) (q := 0) (ref := "OrderChains$Channel") (ty := .int) (ty0 := tyX1) 11 rfl il_X1_init_X1 tyX1_ok nmX1 rfl rfl fl_X1_init_45 rfl rfl rfl rfl rfl rfl dX1_init_63 ?_
  dsimp only [List.set_cons_zero, List.set_cons_succ]
  refine V_aload_n (i := 0) dX1_init_66 rfl rfl ?_
  refine V_iconst (v := 0) dX1_init_67 rfl ?_
  refine V_put (C := RX1) (T := TX1) (N := 13) (ci := 1) (q := 0) (ref := "OrderChains$Channel") (ty := .int) (ty0 := tyX1) 12 rfl il_X1_init_X1 tyX1_ok nmX1 rfl rfl fl_X1_init_48 rfl rfl rfl rfl rfl rfl dX1_init_68 ?_
  dsimp only [List.set_cons_zero, List.set_cons_succ]
  refine V_vret hR dX1_init_71 (Nat.le_of_ble_eq_true rfl) (Nat.le_of_ble_eq_true rfl) ?_
  exact ⟨rfl, rfl⟩

abbrev rX5_init : Room := { frames := 1, cells := 0, slots := 0, locals := 24 }
theorem vy_X5_init : vY yX5_init wsX5_init cX5_init 1 none 0 := ⟨⟨_, rfl⟩, by decide +kernel, by decide +kernel, by decide +kernel⟩
theorem ol_X5_init_3 : Cond.methodLink RX5 3 objectInit ∈ wsX5_init := List.mem_of_getElem? (i := 1) rfl
theorem oi_X5_init : Cond.instanceMethod objectInit ∈ wsX5_init := List.mem_of_getElem? (i := 2) rfl
theorem oc_X5_init : Cond.code objectInit ⟨#[0xb1]⟩ 1 none ∈ wsX5_init := List.mem_of_getElem? (i := 3) rfl
theorem fl_X5_init_11 : Cond.fieldLink RX5 11 "OrderChains$TextReader" "expected" "I" ∈ wsX5_init := List.mem_of_getElem? (i := 4) rfl
theorem il_X5_init_X5 : ∀ w ∈ wsX50, w ∈ wsX5_init := fun _ h => List.mem_cons_of_mem _ (List.mem_append_right _ h)
theorem fl_X5_init_15 : Cond.fieldLink RX5 15 "OrderChains$TextReader" "tens" "I" ∈ wsX5_init := List.mem_of_getElem? (i := 5) rfl
theorem fl_X5_init_18 : Cond.fieldLink RX5 18 "OrderChains$TextReader" "nextCell" "I" ∈ wsX5_init := List.mem_of_getElem? (i := 6) rfl
theorem fl_X5_init_21 : Cond.fieldLink RX5 21 "OrderChains$TextReader" "owner" "I" ∈ wsX5_init := List.mem_of_getElem? (i := 7) rfl
theorem fl_X5_init_24 : Cond.fieldLink RX5 24 "OrderChains$TextReader" "channelToStart" "I" ∈ wsX5_init := List.mem_of_getElem? (i := 8) rfl
set_option maxHeartbeats 4000000 in
set_option maxRecDepth 100000 in
/-- TextReader() -/
theorem c_X5_init (l : Launch) (G : vG) (b : Nat) : Kc l G yX5_init wsX5_init rX5_init [.ref b] [[(b, .inr (4, [.int (nI 0), .int (nI 0), .int (nI 0), .int (nI 0), .int (nI 0)]))]] (fun v Y => v = none ∧ Y = [tR b (fun _ => 0)]) 0 0 := by
  refine V_enter (own := RX5) [some (.ref b)] (by decide +kernel) rfl rfl (Nat.le_of_ble_eq_true rfl) rfl (fun Γ hR hin => ?_)
  have hkc : 0 ≤ 0 := Nat.le_refl 0
  have hks : 0 ≤ 0 := Nat.le_refl 0
  have hI := hin rfl
  refine V_aload_n (i := 0) dX5_init_0 rfl rfl ?_
  refine V_objInit ol_X5_init_3 oi_X5_init oc_X5_init ⟨rfl, rfl⟩ dX5_init_1 ?_
  refine V_aload_n (i := 0) dX5_init_4 rfl rfl ?_
  refine V_iconst (v := 0) dX5_init_5 rfl ?_
  refine V_put (C := RX5) (T := TX5) (N := 5) (ci := 4) (q := 0) (ref := "OrderChains$TextReader") (ty := .int) (ty0 := tyX5) 0 rfl il_X5_init_X5 tyX5_ok nmX5 rfl rfl fl_X5_init_11 rfl rfl rfl rfl rfl rfl dX5_init_6 ?_
  dsimp only [List.set_cons_zero, List.set_cons_succ]
  refine V_aload_n (i := 0) dX5_init_9 rfl rfl ?_
  refine V_iconst (v := 0) dX5_init_10 rfl ?_
  refine V_put (C := RX5) (T := TX5) (N := 5) (ci := 4) (q := 0) (ref := "OrderChains$TextReader") (ty := .int) (ty0 := tyX5) 1 rfl il_X5_init_X5 tyX5_ok nmX5 rfl rfl fl_X5_init_15 rfl rfl rfl rfl rfl rfl dX5_init_11 ?_
  dsimp only [List.set_cons_zero, List.set_cons_succ]
  refine V_aload_n (i := 0) dX5_init_14 rfl rfl ?_
  refine V_iconst (v := 0) dX5_init_15 rfl ?_
  refine V_put (C := RX5) (T := TX5) (N := 5) (ci := 4) (q := 0) (ref := "OrderChains$TextReader") (ty := .int) (ty0 := tyX5) 2 rfl il_X5_init_X5 tyX5_ok nmX5 rfl rfl fl_X5_init_18 rfl rfl rfl rfl rfl rfl dX5_init_16 ?_
  dsimp only [List.set_cons_zero, List.set_cons_succ]
  refine V_aload_n (i := 0) dX5_init_19 rfl rfl ?_
  refine V_iconst (v := 0) dX5_init_20 rfl ?_
  refine V_put (C := RX5) (T := TX5) (N := 5) (ci := 4) (q := 0) (ref := "OrderChains$TextReader") (ty := .int) (ty0 := tyX5) 3 rfl il_X5_init_X5 tyX5_ok nmX5 rfl rfl fl_X5_init_21 rfl rfl rfl rfl rfl rfl dX5_init_21 ?_
  dsimp only [List.set_cons_zero, List.set_cons_succ]
  refine V_aload_n (i := 0) dX5_init_24 rfl rfl ?_
  refine V_iconst (v := 0) dX5_init_25 rfl ?_
  refine V_put (C := RX5) (T := TX5) (N := 5) (ci := 4) (q := 0) (ref := "OrderChains$TextReader") (ty := .int) (ty0 := tyX5) 4 rfl il_X5_init_X5 tyX5_ok nmX5 rfl rfl fl_X5_init_24 rfl rfl rfl rfl rfl rfl dX5_init_26 ?_
  dsimp only [List.set_cons_zero, List.set_cons_succ]
  refine V_vret hR dX5_init_29 (Nat.le_of_ble_eq_true rfl) (Nat.le_of_ble_eq_true rfl) ?_
  exact ⟨rfl, rfl⟩

abbrev rX0_init : Room := { frames := 1, cells := 1, slots := 96, locals := 24 }
theorem vy_X0_init : vY yX0_init wsX0_init cX0_init 1 none 0 := ⟨⟨_, rfl⟩, by decide +kernel, by decide +kernel, by decide +kernel⟩
theorem ol_X0_init_3 : Cond.methodLink RX0 3 objectInit ∈ wsX0_init := List.mem_of_getElem? (i := 1) rfl
theorem oi_X0_init : Cond.instanceMethod objectInit ∈ wsX0_init := List.mem_of_getElem? (i := 2) rfl
theorem oc_X0_init : Cond.code objectInit ⟨#[0xb1]⟩ 1 none ∈ wsX0_init := List.mem_of_getElem? (i := 3) rfl
theorem ka_X0_init_int : Cond.arrayClass .int ∈ wsX0_init := List.mem_of_getElem? (i := 4) rfl
theorem fl_X0_init_9 : Cond.fieldLink RX0 9 "OrderChains$ChainWalk" "seen" "[I" ∈ wsX0_init := List.mem_of_getElem? (i := 5) rfl
theorem il_X0_init_X0 : ∀ w ∈ wsX00, w ∈ wsX0_init := fun _ h => List.mem_cons_of_mem _ (List.mem_append_right _ h)
theorem fl_X0_init_15 : Cond.fieldLink RX0 15 "OrderChains$ChainWalk" "orders" "I" ∈ wsX0_init := List.mem_of_getElem? (i := 6) rfl
theorem fl_X0_init_19 : Cond.fieldLink RX0 19 "OrderChains$ChainWalk" "ending" "I" ∈ wsX0_init := List.mem_of_getElem? (i := 7) rfl
set_option maxHeartbeats 4000000 in
set_option maxRecDepth 100000 in
/-- ChainWalk() -/
theorem c_X0_init (l : Launch) (G : vG) (b : Nat) : Kc l G yX0_init wsX0_init rX0_init [.ref b] [[(b, .inr (0, [.null, .int (nI 0), .int (nI 0)]))]] (fun v Y => v = none ∧ ∃ sa : Nat, Y = [wO b sa (fun _ => 0) ++ iA G sa 96 (fun _ => 0)]) 1 96 := by
  refine V_enter (own := RX0) [some (.ref b)] (by decide +kernel) rfl rfl (Nat.le_of_ble_eq_true rfl) rfl (fun Γ hR hin => ?_)
  have hI := hin rfl
  refine V_aload_n (i := 0) dX0_init_0 rfl rfl ?_
  refine V_objInit ol_X0_init_3 oi_X0_init oc_X0_init ⟨rfl, rfl⟩ dX0_init_1 ?_
  refine V_aload_n (i := 0) dX0_init_4 rfl rfl ?_
  refine V_bipush (v := 96) dX0_init_5 (by decide) ?_
  refine V_newI (N := 96) ka_X0_init_int rfl rfl rfl dX0_init_7 (fun q1 => ?_)
  dsimp only [List.cons_append, List.nil_append]
  refine V_putF hI (C := RX0) (T := TX0) (N := 3) (ci := 0) (q := 0) (ref := "OrderChains$ChainWalk") (ty := .array .int) (ty0 := tyX0) 0 rfl il_X0_init_X0 tyX0_ok nmX0 rfl rfl fl_X0_init_9 rfl rfl rfl rfl rfl rfl rfl dX0_init_9 ?_
  dsimp only [List.set_cons_zero, List.set_cons_succ]
  refine V_aload_n (i := 0) dX0_init_12 rfl rfl ?_
  refine V_iconst (v := 0) dX0_init_13 rfl ?_
  refine V_put (C := RX0) (T := TX0) (N := 3) (ci := 0) (q := 0) (ref := "OrderChains$ChainWalk") (ty := .int) (ty0 := tyX0) 1 rfl il_X0_init_X0 tyX0_ok nmX0 rfl rfl fl_X0_init_15 rfl rfl rfl rfl rfl rfl dX0_init_14 ?_
  dsimp only [List.set_cons_zero, List.set_cons_succ]
  refine V_aload_n (i := 0) dX0_init_17 rfl rfl ?_
  refine V_iconst (v := 0) dX0_init_18 rfl ?_
  refine V_put (C := RX0) (T := TX0) (N := 3) (ci := 0) (q := 0) (ref := "OrderChains$ChainWalk") (ty := .int) (ty0 := tyX0) 2 rfl il_X0_init_X0 tyX0_ok nmX0 rfl rfl fl_X0_init_19 rfl rfl rfl rfl rfl rfl dX0_init_19 ?_
  dsimp only [List.set_cons_zero, List.set_cons_succ]
  refine V_same (X' := [wO b q1 (fun _ => 0) ++ iA G q1 96 (fun _ => 0)]) (by rfl) ?_
  refine V_vret hR dX0_init_22 (Nat.le_of_ble_eq_true rfl) (Nat.le_of_ble_eq_true rfl) ?_
  exact ⟨rfl, q1, rfl⟩

abbrev rX2_init : Room := { frames := 2, cells := 9, slots := 522, locals := 44 }
theorem vy_X2_init : vY yX2_init wsX2_init cX2_init 2 none 0 := ⟨⟨_, rfl⟩, by decide +kernel, by decide +kernel, by decide +kernel⟩
theorem ol_X2_init_3 : Cond.methodLink RX2 3 objectInit ∈ wsX2_init := List.mem_of_getElem? (i := 1) rfl
theorem oi_X2_init : Cond.instanceMethod objectInit ∈ wsX2_init := List.mem_of_getElem? (i := 2) rfl
theorem oc_X2_init : Cond.code objectInit ⟨#[0xb1]⟩ 1 none ∈ wsX2_init := List.mem_of_getElem? (i := 3) rfl
theorem ka_X2_init_int : Cond.arrayClass .int ∈ wsX2_init := List.mem_of_getElem? (i := 4) rfl
theorem fl_X2_init_9 : Cond.fieldLink RX2 9 "OrderChains$Engine" "values" "[I" ∈ wsX2_init := List.mem_of_getElem? (i := 5) rfl
theorem il_X2_init_X2 : ∀ w ∈ wsX20, w ∈ wsX2_init := fun _ h => List.mem_cons_of_mem _ (List.mem_append_left _ (List.mem_append_right _ h))
theorem fl_X2_init_15 : Cond.fieldLink RX2 15 "OrderChains$Engine" "owners" "[I" ∈ wsX2_init := List.mem_of_getElem? (i := 6) rfl
theorem fl_X2_init_18 : Cond.fieldLink RX2 18 "OrderChains$Engine" "marks" "[I" ∈ wsX2_init := List.mem_of_getElem? (i := 7) rfl
theorem fl_X2_init_21 : Cond.fieldLink RX2 21 "OrderChains$Engine" "lastWriters" "[I" ∈ wsX2_init := List.mem_of_getElem? (i := 8) rfl
theorem kl_X2_init_24 : Cond.classLink RX2 24 RX1 ∈ wsX2_init := List.mem_of_getElem? (i := 9) rfl
theorem fl_X2_init_26 : Cond.fieldLink RX2 26 "OrderChains$Engine" "channels" "[LOrderChains$Channel;" ∈ wsX2_init := List.mem_of_getElem? (i := 10) rfl
theorem fl_X2_init_30 : Cond.fieldLink RX2 30 "OrderChains$Engine" "lastTurn" "I" ∈ wsX2_init := List.mem_of_getElem? (i := 11) rfl
theorem fl_X2_init_34 : Cond.fieldLink RX2 34 "OrderChains$Engine" "ticks" "I" ∈ wsX2_init := List.mem_of_getElem? (i := 12) rfl
theorem fl_X2_init_37 : Cond.fieldLink RX2 37 "OrderChains$Engine" "edits" "I" ∈ wsX2_init := List.mem_of_getElem? (i := 13) rfl
theorem fl_X2_init_40 : Cond.fieldLink RX2 40 "OrderChains$Engine" "writes" "I" ∈ wsX2_init := List.mem_of_getElem? (i := 14) rfl
theorem fl_X2_init_43 : Cond.fieldLink RX2 43 "OrderChains$Engine" "writerBits" "[I" ∈ wsX2_init := List.mem_of_getElem? (i := 15) rfl
theorem fl_X2_init_46 : Cond.fieldLink RX2 46 "OrderChains$Engine" "earliestEdit" "I" ∈ wsX2_init := List.mem_of_getElem? (i := 16) rfl
theorem kn_X2_init_X1 : Cond.instantiable RX1 13 ∈ wsX2_init := List.mem_of_getElem? (i := 17) rfl
theorem in_X2_init_X1 : Cond.initialized RX1 ∈ wsX2_init := List.mem_of_getElem? (i := 18) rfl
theorem il_X2_init_X1 : ∀ w ∈ wsX10, w ∈ wsX2_init := fun _ h => List.mem_cons_of_mem _ (List.mem_append_right _ h)
theorem im_X2_init_X1_init : Cond.instanceMethod yX1_init ∈ wsX2_init := List.mem_of_getElem? (i := 19) rfl
set_option maxHeartbeats 4000000 in
set_option maxRecDepth 100000 in
/-- Engine() -/
theorem c_X2_init (l : Launch) (G : vG) (b : Nat) : Kc l G yX2_init wsX2_init rX2_init [.ref b] [[(b, .inr (2, [.null, .null, .null, .null, .null, .int (nI 0), .int (nI 0), .int (nI 0), .int (nI 0), .null, .int (nI 0)]))]] (fun v Y => v = none ∧ ∃ a : Nat → Nat, a 0 = b ∧ Y = [eK G a eN]) 9 522 := by
  refine V_enter (own := RX2) [some (.ref b), none] (by decide +kernel) rfl rfl (Nat.le_of_ble_eq_true rfl) rfl (fun Γ hR hin => ?_)
  have hI := hin rfl
  refine V_aload_n (i := 0) dX2_init_0 rfl rfl ?_
  refine V_objInit ol_X2_init_3 oi_X2_init oc_X2_init ⟨rfl, rfl⟩ dX2_init_1 ?_
  refine V_aload_n (i := 0) dX2_init_4 rfl rfl ?_
  refine V_bipush (v := 96) dX2_init_5 (by decide) ?_
  refine V_newI (N := 96) ka_X2_init_int rfl rfl rfl dX2_init_7 (fun q1 => ?_)
  dsimp only [List.cons_append, List.nil_append]
  refine V_putF hI (C := RX2) (T := TX2) (N := 11) (ci := 2) (q := 0) (ref := "OrderChains$Engine") (ty := .array .int) (ty0 := tyX2) 0 rfl il_X2_init_X2 tyX2_ok nmX2 rfl rfl fl_X2_init_9 rfl rfl rfl rfl rfl rfl rfl dX2_init_9 ?_
  dsimp only [List.set_cons_zero, List.set_cons_succ]
  refine V_aload_n (i := 0) dX2_init_12 rfl rfl ?_
  refine V_bipush (v := 96) dX2_init_13 (by decide) ?_
  refine V_newI (N := 96) ka_X2_init_int rfl rfl rfl dX2_init_15 (fun q2 => ?_)
  dsimp only [List.cons_append, List.nil_append]
  refine V_putF hI (C := RX2) (T := TX2) (N := 11) (ci := 2) (q := 0) (ref := "OrderChains$Engine") (ty := .array .int) (ty0 := tyX2) 1 rfl il_X2_init_X2 tyX2_ok nmX2 rfl rfl fl_X2_init_15 rfl rfl rfl rfl rfl rfl rfl dX2_init_17 ?_
  dsimp only [List.set_cons_zero, List.set_cons_succ]
  refine V_aload_n (i := 0) dX2_init_20 rfl rfl ?_
  refine V_bipush (v := 96) dX2_init_21 (by decide) ?_
  refine V_newI (N := 96) ka_X2_init_int rfl rfl rfl dX2_init_23 (fun q3 => ?_)
  dsimp only [List.cons_append, List.nil_append]
  refine V_putF hI (C := RX2) (T := TX2) (N := 11) (ci := 2) (q := 0) (ref := "OrderChains$Engine") (ty := .array .int) (ty0 := tyX2) 2 rfl il_X2_init_X2 tyX2_ok nmX2 rfl rfl fl_X2_init_18 rfl rfl rfl rfl rfl rfl rfl dX2_init_25 ?_
  dsimp only [List.set_cons_zero, List.set_cons_succ]
  refine V_aload_n (i := 0) dX2_init_28 rfl rfl ?_
  refine V_bipush (v := 96) dX2_init_29 (by decide) ?_
  refine V_newI (N := 96) ka_X2_init_int rfl rfl rfl dX2_init_31 (fun q4 => ?_)
  dsimp only [List.cons_append, List.nil_append]
  refine V_putF hI (C := RX2) (T := TX2) (N := 11) (ci := 2) (q := 0) (ref := "OrderChains$Engine") (ty := .array .int) (ty0 := tyX2) 3 rfl il_X2_init_X2 tyX2_ok nmX2 rfl rfl fl_X2_init_21 rfl rfl rfl rfl rfl rfl rfl dX2_init_33 ?_
  dsimp only [List.set_cons_zero, List.set_cons_succ]
  refine V_aload_n (i := 0) dX2_init_36 rfl rfl ?_
  refine V_iconst (v := 3) dX2_init_37 rfl ?_
  refine V_anew (N := 3) (t := 2) (C := RX1) kl_X2_init_24 (fun _ h => h.2.2.2.2.2.2.2.1) rfl rfl rfl rfl dX2_init_38 (fun q5 => ?_)
  dsimp only [List.cons_append, List.nil_append]
  refine V_putF hI (C := RX2) (T := TX2) (N := 11) (ci := 2) (q := 0) (ref := "OrderChains$Engine") (ty := .array (.object "OrderChains$Channel")) (ty0 := tyX2) 4 rfl il_X2_init_X2 tyX2_ok nmX2 rfl rfl fl_X2_init_26 rfl rfl rfl rfl rfl rfl rfl dX2_init_41 ?_
  dsimp only [List.set_cons_zero, List.set_cons_succ]
  refine V_aload_n (i := 0) dX2_init_44 rfl rfl ?_
  refine V_iconst (v := 2) dX2_init_45 rfl ?_
  refine V_put (C := RX2) (T := TX2) (N := 11) (ci := 2) (q := 0) (ref := "OrderChains$Engine") (ty := .int) (ty0 := tyX2) 5 rfl il_X2_init_X2 tyX2_ok nmX2 rfl rfl fl_X2_init_30 rfl rfl rfl rfl rfl rfl dX2_init_46 ?_
  dsimp only [List.set_cons_zero, List.set_cons_succ]
  refine V_aload_n (i := 0) dX2_init_49 rfl rfl ?_
  refine V_iconst (v := 0) dX2_init_50 rfl ?_
  refine V_put (C := RX2) (T := TX2) (N := 11) (ci := 2) (q := 0) (ref := "OrderChains$Engine") (ty := .int) (ty0 := tyX2) 6 rfl il_X2_init_X2 tyX2_ok nmX2 rfl rfl fl_X2_init_34 rfl rfl rfl rfl rfl rfl dX2_init_51 ?_
  dsimp only [List.set_cons_zero, List.set_cons_succ]
  refine V_aload_n (i := 0) dX2_init_54 rfl rfl ?_
  refine V_iconst (v := 0) dX2_init_55 rfl ?_
  refine V_put (C := RX2) (T := TX2) (N := 11) (ci := 2) (q := 0) (ref := "OrderChains$Engine") (ty := .int) (ty0 := tyX2) 7 rfl il_X2_init_X2 tyX2_ok nmX2 rfl rfl fl_X2_init_37 rfl rfl rfl rfl rfl rfl dX2_init_56 ?_
  dsimp only [List.set_cons_zero, List.set_cons_succ]
  refine V_aload_n (i := 0) dX2_init_59 rfl rfl ?_
  refine V_iconst (v := 0) dX2_init_60 rfl ?_
  refine V_put (C := RX2) (T := TX2) (N := 11) (ci := 2) (q := 0) (ref := "OrderChains$Engine") (ty := .int) (ty0 := tyX2) 8 rfl il_X2_init_X2 tyX2_ok nmX2 rfl rfl fl_X2_init_40 rfl rfl rfl rfl rfl rfl dX2_init_61 ?_
  dsimp only [List.set_cons_zero, List.set_cons_succ]
  refine V_aload_n (i := 0) dX2_init_64 rfl rfl ?_
  refine V_bipush (v := 96) dX2_init_65 (by decide) ?_
  refine V_newI (N := 96) ka_X2_init_int rfl rfl rfl dX2_init_67 (fun q6 => ?_)
  dsimp only [List.cons_append, List.nil_append]
  refine V_putF hI (C := RX2) (T := TX2) (N := 11) (ci := 2) (q := 0) (ref := "OrderChains$Engine") (ty := .array .int) (ty0 := tyX2) 9 rfl il_X2_init_X2 tyX2_ok nmX2 rfl rfl fl_X2_init_43 rfl rfl rfl rfl rfl rfl rfl dX2_init_69 ?_
  dsimp only [List.set_cons_zero, List.set_cons_succ]
  refine V_aload_n (i := 0) dX2_init_72 rfl rfl ?_
  refine V_bipush (v := 4294967287) dX2_init_73 (by decide) ?_
  refine V_put (C := RX2) (T := TX2) (N := 11) (ci := 2) (q := 0) (ref := "OrderChains$Engine") (ty := .int) (ty0 := tyX2) 10 rfl il_X2_init_X2 tyX2_ok nmX2 rfl rfl fl_X2_init_46 rfl rfl rfl rfl rfl rfl dX2_init_75 ?_
  dsimp only [List.set_cons_zero, List.set_cons_succ]
  refine V_iconst (v := 0) dX2_init_78 rfl ?_
  refine V_istore_n (i := 1) dX2_init_79 rfl rfl rfl ?_
  dsimp only [List.set_cons_zero, List.set_cons_succ]
  refine V_iload_n (i := 1) dX2_init_80 rfl rfl ?_
  refine V_iconst (v := 3) dX2_init_81 rfl ?_
  refine V_icmp_ge (tgt := 104) (by omega) (by omega) dX2_init_82 rfl (fun h_82 => ?_) (fun h_82 => ?_)
  · exfalso; omega
  · refine V_aload_n (i := 0) dX2_init_85 rfl rfl ?_
    refine V_get (C := RX2) (T := TX2) (N := 11) (ci := 2) (q := 0) (ref := "OrderChains$Engine") 4 rfl il_X2_init_X2 rfl rfl fl_X2_init_26 rfl rfl dX2_init_86 ?_
    refine V_iload_n (i := 1) dX2_init_89 rfl rfl ?_
    refine V_new (C := RX1) (T := TX1) (N := 13) (ci := 1) tyX1 kl_X2_init_24 kn_X2_init_X1 in_X2_init_X1 il_X2_init_X1 tyX1_ok rfl dfX1 rfl rfl dX2_init_90 (fun q7 => ?_)
    dsimp only [List.cons_append, List.nil_append]
    refine V_dup dX2_init_93 rfl ?_
    refine V_callIN (host := RX6) [7] (c_X1_init l G q7) vy_X1_init gX2_init_X1_init_n49 (fun _ h => h.2.2.1) in_X2_init_X1 im_X2_init_X1_init rfl rfl rfl ⟨rfl, rfl⟩ ⟨rfl, rfl⟩ ⟨rfl, rfl⟩ rfl dX2_init_94 (fun v Y hE => ?_)
    obtain ⟨rfl, rfl⟩ := hE
    refine ⟨rfl, ?_⟩
    dsimp only [vfill, List.set_cons_zero, List.set_cons_succ, Option.toList, List.cons_append, List.nil_append, Nat.add_zero]
    refine V_aast (q := 5) (qk := 7) (ci := 1) (t := 2) (C := RX1) (T := TX1) (NF := 13) rfl rfl rfl rfl (by omega) rfl dX2_init_97 ?_
    dsimp only [List.set_cons_zero, List.set_cons_succ]
    refine V_iinc (v := 1) dX2_init_98 rfl (by decide) rfl rfl ?_
    dsimp only [List.set_cons_zero, List.set_cons_succ]
    refine V_goto (tgt := 80) dX2_init_101 rfl ?_
    refine V_iload_n (i := 1) dX2_init_80 rfl rfl ?_
    refine V_iconst (v := 3) dX2_init_81 rfl ?_
    refine V_icmp_ge (tgt := 104) (by omega) (by omega) dX2_init_82 rfl (fun h_82_2 => ?_) (fun h_82_2 => ?_)
    · exfalso; omega
    · refine V_aload_n (i := 0) dX2_init_85 rfl rfl ?_
      refine V_get (C := RX2) (T := TX2) (N := 11) (ci := 2) (q := 0) (ref := "OrderChains$Engine") 4 rfl il_X2_init_X2 rfl rfl fl_X2_init_26 rfl rfl dX2_init_86 ?_
      refine V_iload_n (i := 1) dX2_init_89 rfl rfl ?_
      refine V_new (C := RX1) (T := TX1) (N := 13) (ci := 1) tyX1 kl_X2_init_24 kn_X2_init_X1 in_X2_init_X1 il_X2_init_X1 tyX1_ok rfl dfX1 rfl rfl dX2_init_90 (fun q8 => ?_)
      dsimp only [List.cons_append, List.nil_append]
      refine V_dup dX2_init_93 rfl ?_
      refine V_callIN (host := RX6) [8] (c_X1_init l G q8) vy_X1_init gX2_init_X1_init_n49 (fun _ h => h.2.2.1) in_X2_init_X1 im_X2_init_X1_init rfl rfl rfl ⟨rfl, rfl⟩ ⟨rfl, rfl⟩ ⟨rfl, rfl⟩ rfl dX2_init_94 (fun v Y hE => ?_)
      obtain ⟨rfl, rfl⟩ := hE
      refine ⟨rfl, ?_⟩
      dsimp only [vfill, List.set_cons_zero, List.set_cons_succ, Option.toList, List.cons_append, List.nil_append, Nat.add_zero]
      refine V_aast (q := 5) (qk := 8) (ci := 1) (t := 2) (C := RX1) (T := TX1) (NF := 13) rfl rfl rfl rfl (by omega) rfl dX2_init_97 ?_
      dsimp only [List.set_cons_zero, List.set_cons_succ]
      refine V_iinc (v := 2) dX2_init_98 rfl (by decide) rfl rfl ?_
      dsimp only [List.set_cons_zero, List.set_cons_succ]
      refine V_goto (tgt := 80) dX2_init_101 rfl ?_
      refine V_iload_n (i := 1) dX2_init_80 rfl rfl ?_
      refine V_iconst (v := 3) dX2_init_81 rfl ?_
      refine V_icmp_ge (tgt := 104) (by omega) (by omega) dX2_init_82 rfl (fun h_82_3 => ?_) (fun h_82_3 => ?_)
      · exfalso; omega
      · refine V_aload_n (i := 0) dX2_init_85 rfl rfl ?_
        refine V_get (C := RX2) (T := TX2) (N := 11) (ci := 2) (q := 0) (ref := "OrderChains$Engine") 4 rfl il_X2_init_X2 rfl rfl fl_X2_init_26 rfl rfl dX2_init_86 ?_
        refine V_iload_n (i := 1) dX2_init_89 rfl rfl ?_
        refine V_new (C := RX1) (T := TX1) (N := 13) (ci := 1) tyX1 kl_X2_init_24 kn_X2_init_X1 in_X2_init_X1 il_X2_init_X1 tyX1_ok rfl dfX1 rfl rfl dX2_init_90 (fun q9 => ?_)
        dsimp only [List.cons_append, List.nil_append]
        refine V_dup dX2_init_93 rfl ?_
        refine V_callIN (host := RX6) [9] (c_X1_init l G q9) vy_X1_init gX2_init_X1_init_n49 (fun _ h => h.2.2.1) in_X2_init_X1 im_X2_init_X1_init rfl rfl rfl ⟨rfl, rfl⟩ ⟨rfl, rfl⟩ ⟨rfl, rfl⟩ rfl dX2_init_94 (fun v Y hE => ?_)
        obtain ⟨rfl, rfl⟩ := hE
        refine ⟨rfl, ?_⟩
        dsimp only [vfill, List.set_cons_zero, List.set_cons_succ, Option.toList, List.cons_append, List.nil_append, Nat.add_zero]
        refine V_aast (q := 5) (qk := 9) (ci := 1) (t := 2) (C := RX1) (T := TX1) (NF := 13) rfl rfl rfl rfl (by omega) rfl dX2_init_97 ?_
        dsimp only [List.set_cons_zero, List.set_cons_succ]
        refine V_iinc (v := 3) dX2_init_98 rfl (by decide) rfl rfl ?_
        dsimp only [List.set_cons_zero, List.set_cons_succ]
        refine V_goto (tgt := 80) dX2_init_101 rfl ?_
        refine V_iload_n (i := 1) dX2_init_80 rfl rfl ?_
        refine V_iconst (v := 3) dX2_init_81 rfl ?_
        refine V_icmp_ge (tgt := 104) (by omega) (by omega) dX2_init_82 rfl (fun h_82_4 => ?_) (fun h_82_4 => ?_)
        · refine V_aload_n (i := 0) dX2_init_104 rfl rfl ?_
          refine V_get (C := RX2) (T := TX2) (N := 11) (ci := 2) (q := 0) (ref := "OrderChains$Engine") 3 rfl il_X2_init_X2 rfl rfl fl_X2_init_21 rfl rfl dX2_init_105 ?_
          refine V_bipush (v := 4294967287) dX2_init_108 (by decide) ?_
          refine V_callS (As := _) (rest := []) [4] (c_J7_fill_53178 l G q4 96 4294967287 (fun _ => 0) rfl) vy_J7_fill_53178 gX2_init_J7_fill_53178 rfl rfl rfl rfl ⟨rfl, rfl⟩ ⟨rfl, rfl⟩ ⟨Nat.le_of_ble_eq_true rfl, Nat.le_of_ble_eq_true rfl⟩ rfl dX2_init_110 (fun v Y hE => ?_)
          obtain ⟨rfl, rfl⟩ := hE
          refine ⟨rfl, ?_⟩
          dsimp only [vfill, List.set_cons_zero, List.set_cons_succ, Option.toList, List.cons_append, List.nil_append, Nat.add_zero]
          refine V_arr (q := 5) (rA (fun h => (fun k => ([b, q1, q2, q3, q4, q5, q7, q8, q9, q6] : List Nat).getD k 0) (6 + h))) rfl (fun j hj => by
              match j, hj with
              | 0, _ => rfl
              | 1, _ => rfl
              | 2, _ => rfl
              | _ + 3, h => exact absurd h (by omega)) ?_
          refine V_toEnd 6 rfl ?_
          refine V_same (X' := [eK G (fun k => ([b, q1, q2, q3, q4, q5, q7, q8, q9, q6] : List Nat).getD k 0) eN]) (by rfl) ?_
          refine V_vret hR dX2_init_113 (Nat.le_of_ble_eq_true rfl) (Nat.le_of_ble_eq_true rfl) ?_
          exact ⟨rfl, _, rfl, rfl⟩
        · exfalso; omega

abbrev rX3_init : Room := { frames := 3, cells := 141, slots := 7476, locals := 65 }
theorem vy_X3_init : vY yX3_init wsX3_init cX3_init 2 none 0 := ⟨⟨_, rfl⟩, by decide +kernel, by decide +kernel, by decide +kernel⟩
theorem ol_X3_init_3 : Cond.methodLink RX3 3 objectInit ∈ wsX3_init := List.mem_of_getElem? (i := 1) rfl
theorem oi_X3_init : Cond.instanceMethod objectInit ∈ wsX3_init := List.mem_of_getElem? (i := 2) rfl
theorem oc_X3_init : Cond.code objectInit ⟨#[0xb1]⟩ 1 none ∈ wsX3_init := List.mem_of_getElem? (i := 3) rfl
theorem kl_X3_init_9 : Cond.classLink RX3 9 RX2 ∈ wsX3_init := List.mem_of_getElem? (i := 4) rfl
theorem fl_X3_init_11 : Cond.fieldLink RX3 11 "OrderChains$History" "states" "[LOrderChains$Engine;" ∈ wsX3_init := List.mem_of_getElem? (i := 5) rfl
theorem il_X3_init_X3 : ∀ w ∈ wsX30, w ∈ wsX3_init := fun _ h => List.mem_cons_of_mem _ (List.mem_append_left _ (List.mem_append_left _ (List.mem_append_right _ h)))
theorem fl_X3_init_17 : Cond.fieldLink RX3 17 "OrderChains$History" "oldest" "I" ∈ wsX3_init := List.mem_of_getElem? (i := 6) rfl
theorem fl_X3_init_21 : Cond.fieldLink RX3 21 "OrderChains$History" "size" "I" ∈ wsX3_init := List.mem_of_getElem? (i := 7) rfl
theorem kn_X3_init_X2 : Cond.instantiable RX2 11 ∈ wsX3_init := List.mem_of_getElem? (i := 8) rfl
theorem in_X3_init_X2 : Cond.initialized RX2 ∈ wsX3_init := List.mem_of_getElem? (i := 9) rfl
theorem il_X3_init_X2 : ∀ w ∈ wsX20, w ∈ wsX3_init := fun _ h => List.mem_cons_of_mem _ (List.mem_append_left _ (List.mem_append_right _ h))
theorem im_X3_init_X2_init : Cond.instanceMethod yX2_init ∈ wsX3_init := List.mem_of_getElem? (i := 11) rfl
theorem ml_X3_init_24 : Cond.methodLink RX3 24 yX2_init ∈ wsX3_init := List.mem_of_getElem? (i := 10) rfl
set_option maxHeartbeats 4000000 in
set_option maxRecDepth 100000 in
/-- History() -/
theorem c_X3_init (l : Launch) (G : vG) (b : Nat) : Kc l G yX3_init wsX3_init rX3_init [.ref b] [[(b, .inr (3, [.null, .int (nI 0), .int (nI 0)]))]] (fun v Y => v = none ∧ ∃ (sa : Nat) (ea : Nat → Nat → Nat), Y = [hO b sa (fun _ => 0) ++ (hA G sa ea ++ hK G ea (fun _ => eN))]) 141 7476 := by
  refine V_enter (own := RX3) [some (.ref b), none] (by decide +kernel) rfl rfl (Nat.le_of_ble_eq_true rfl) rfl (fun Γ hR hin => ?_)
  have hI := hin rfl
  refine V_aload_n (i := 0) dX3_init_0 rfl rfl ?_
  refine V_objInit ol_X3_init_3 oi_X3_init oc_X3_init ⟨rfl, rfl⟩ dX3_init_1 ?_
  refine V_aload_n (i := 0) dX3_init_4 rfl rfl ?_
  refine V_bipush (v := 14) dX3_init_5 (by decide) ?_
  refine V_anew (N := 14) (t := 3) (C := RX2) kl_X3_init_9 (fun _ h => h.2.2.2.2.2.2.2.2) rfl rfl rfl rfl dX3_init_7 (fun sa => ?_)
  dsimp only [List.cons_append, List.nil_append]
  refine V_putF hI (C := RX3) (T := TX3) (N := 3) (ci := 3) (q := 0) (ref := "OrderChains$History") (ty := .array (.object "OrderChains$Engine")) (ty0 := tyX3) 0 rfl il_X3_init_X3 tyX3_ok nmX3 rfl rfl fl_X3_init_11 rfl rfl rfl rfl rfl rfl rfl dX3_init_10 ?_
  dsimp only [List.set_cons_zero, List.set_cons_succ]
  refine V_aload_n (i := 0) dX3_init_13 rfl rfl ?_
  refine V_iconst (v := 0) dX3_init_14 rfl ?_
  refine V_put (C := RX3) (T := TX3) (N := 3) (ci := 3) (q := 0) (ref := "OrderChains$History") (ty := .int) (ty0 := tyX3) 1 rfl il_X3_init_X3 tyX3_ok nmX3 rfl rfl fl_X3_init_17 rfl rfl rfl rfl rfl rfl dX3_init_15 ?_
  dsimp only [List.set_cons_zero, List.set_cons_succ]
  refine V_aload_n (i := 0) dX3_init_18 rfl rfl ?_
  refine V_iconst (v := 0) dX3_init_19 rfl ?_
  refine V_put (C := RX3) (T := TX3) (N := 3) (ci := 3) (q := 0) (ref := "OrderChains$History") (ty := .int) (ty0 := tyX3) 2 rfl il_X3_init_X3 tyX3_ok nmX3 rfl rfl fl_X3_init_21 rfl rfl rfl rfl rfl rfl dX3_init_20 ?_
  dsimp only [List.set_cons_zero, List.set_cons_succ]
  refine V_iconst (v := 0) dX3_init_23 rfl ?_
  refine V_istore_n (i := 1) dX3_init_24 rfl rfl rfl ?_
  dsimp only [List.set_cons_zero, List.set_cons_succ]
  refine V_iload_n (i := 1) dX3_init_25 rfl rfl ?_
  refine V_bipush (v := 14) dX3_init_26 (by decide) ?_
  refine V_icmp_ge (tgt := 50) (by omega) (by omega) dX3_init_28 rfl (fun h_28 => ?_) (fun h_28 => ?_)
  · exfalso; omega
  · refine V_aload_n (i := 0) dX3_init_31 rfl rfl ?_
    refine V_get (C := RX3) (T := TX3) (N := 3) (ci := 3) (q := 0) (ref := "OrderChains$History") 0 rfl il_X3_init_X3 rfl rfl fl_X3_init_11 rfl rfl dX3_init_32 ?_
    refine V_iload_n (i := 1) dX3_init_35 rfl rfl ?_
    refine V_new (C := RX2) (T := TX2) (N := 11) (ci := 2) tyX2 kl_X3_init_9 kn_X3_init_X2 in_X3_init_X2 il_X3_init_X2 tyX2_ok rfl dfX2 rfl rfl dX3_init_36 (fun o0 => ?_)
    dsimp only [List.cons_append, List.nil_append]
    refine V_dup dX3_init_39 rfl ?_
    refine V_callI [2] (c_X2_init l G o0) vy_X2_init gX3_init_X2_init in_X3_init_X2 ml_X3_init_24 im_X3_init_X2_init rfl rfl rfl ⟨rfl, rfl⟩ ⟨rfl, rfl⟩ ⟨rfl, rfl⟩ rfl dX3_init_40 (fun v Y hE => ?_)
    obtain ⟨rfl, a0, h0, rfl⟩ := hE
    refine ⟨rfl, ?_⟩
    dsimp only [vfill, List.set_cons_zero, List.set_cons_succ, Option.toList, List.cons_append, List.nil_append, Nat.add_zero]
    subst h0
    refine V_aast (q := 1) (qk := 2) (ci := 2) (t := 3) (C := RX2) (T := TX2) (NF := 11) rfl rfl rfl rfl (by omega) rfl dX3_init_43 ?_
    dsimp only [List.set_cons_zero, List.set_cons_succ]
    refine V_iinc (v := 1) dX3_init_44 rfl (by decide) rfl rfl ?_
    dsimp only [List.set_cons_zero, List.set_cons_succ]
    refine V_goto (tgt := 25) dX3_init_47 rfl ?_
    refine V_iload_n (i := 1) dX3_init_25 rfl rfl ?_
    refine V_bipush (v := 14) dX3_init_26 (by decide) ?_
    refine V_icmp_ge (tgt := 50) (by omega) (by omega) dX3_init_28 rfl (fun h_28_2 => ?_) (fun h_28_2 => ?_)
    · exfalso; omega
    · refine V_aload_n (i := 0) dX3_init_31 rfl rfl ?_
      refine V_get (C := RX3) (T := TX3) (N := 3) (ci := 3) (q := 0) (ref := "OrderChains$History") 0 rfl il_X3_init_X3 rfl rfl fl_X3_init_11 rfl rfl dX3_init_32 ?_
      refine V_iload_n (i := 1) dX3_init_35 rfl rfl ?_
      refine V_new (C := RX2) (T := TX2) (N := 11) (ci := 2) tyX2 kl_X3_init_9 kn_X3_init_X2 in_X3_init_X2 il_X3_init_X2 tyX2_ok rfl dfX2 rfl rfl dX3_init_36 (fun o1 => ?_)
      dsimp only [List.cons_append, List.nil_append]
      refine V_dup dX3_init_39 rfl ?_
      refine V_callI [3] (c_X2_init l G o1) vy_X2_init gX3_init_X2_init in_X3_init_X2 ml_X3_init_24 im_X3_init_X2_init rfl rfl rfl ⟨rfl, rfl⟩ ⟨rfl, rfl⟩ ⟨rfl, rfl⟩ rfl dX3_init_40 (fun v Y hE => ?_)
      obtain ⟨rfl, a1, h1, rfl⟩ := hE
      refine ⟨rfl, ?_⟩
      dsimp only [vfill, List.set_cons_zero, List.set_cons_succ, Option.toList, List.cons_append, List.nil_append, Nat.add_zero]
      subst h1
      refine V_aast (q := 1) (qk := 12) (ci := 2) (t := 3) (C := RX2) (T := TX2) (NF := 11) rfl rfl rfl rfl (by omega) rfl dX3_init_43 ?_
      dsimp only [List.set_cons_zero, List.set_cons_succ]
      refine V_iinc (v := 2) dX3_init_44 rfl (by decide) rfl rfl ?_
      dsimp only [List.set_cons_zero, List.set_cons_succ]
      refine V_goto (tgt := 25) dX3_init_47 rfl ?_
      refine V_iload_n (i := 1) dX3_init_25 rfl rfl ?_
      refine V_bipush (v := 14) dX3_init_26 (by decide) ?_
      refine V_icmp_ge (tgt := 50) (by omega) (by omega) dX3_init_28 rfl (fun h_28_3 => ?_) (fun h_28_3 => ?_)
      · exfalso; omega
      · refine V_aload_n (i := 0) dX3_init_31 rfl rfl ?_
        refine V_get (C := RX3) (T := TX3) (N := 3) (ci := 3) (q := 0) (ref := "OrderChains$History") 0 rfl il_X3_init_X3 rfl rfl fl_X3_init_11 rfl rfl dX3_init_32 ?_
        refine V_iload_n (i := 1) dX3_init_35 rfl rfl ?_
        refine V_new (C := RX2) (T := TX2) (N := 11) (ci := 2) tyX2 kl_X3_init_9 kn_X3_init_X2 in_X3_init_X2 il_X3_init_X2 tyX2_ok rfl dfX2 rfl rfl dX3_init_36 (fun o2 => ?_)
        dsimp only [List.cons_append, List.nil_append]
        refine V_dup dX3_init_39 rfl ?_
        refine V_callI [4] (c_X2_init l G o2) vy_X2_init gX3_init_X2_init in_X3_init_X2 ml_X3_init_24 im_X3_init_X2_init rfl rfl rfl ⟨rfl, rfl⟩ ⟨rfl, rfl⟩ ⟨rfl, rfl⟩ rfl dX3_init_40 (fun v Y hE => ?_)
        obtain ⟨rfl, a2, h2, rfl⟩ := hE
        refine ⟨rfl, ?_⟩
        dsimp only [vfill, List.set_cons_zero, List.set_cons_succ, Option.toList, List.cons_append, List.nil_append, Nat.add_zero]
        subst h2
        refine V_aast (q := 1) (qk := 22) (ci := 2) (t := 3) (C := RX2) (T := TX2) (NF := 11) rfl rfl rfl rfl (by omega) rfl dX3_init_43 ?_
        dsimp only [List.set_cons_zero, List.set_cons_succ]
        refine V_iinc (v := 3) dX3_init_44 rfl (by decide) rfl rfl ?_
        dsimp only [List.set_cons_zero, List.set_cons_succ]
        refine V_goto (tgt := 25) dX3_init_47 rfl ?_
        refine V_iload_n (i := 1) dX3_init_25 rfl rfl ?_
        refine V_bipush (v := 14) dX3_init_26 (by decide) ?_
        refine V_icmp_ge (tgt := 50) (by omega) (by omega) dX3_init_28 rfl (fun h_28_4 => ?_) (fun h_28_4 => ?_)
        · exfalso; omega
        · refine V_aload_n (i := 0) dX3_init_31 rfl rfl ?_
          refine V_get (C := RX3) (T := TX3) (N := 3) (ci := 3) (q := 0) (ref := "OrderChains$History") 0 rfl il_X3_init_X3 rfl rfl fl_X3_init_11 rfl rfl dX3_init_32 ?_
          refine V_iload_n (i := 1) dX3_init_35 rfl rfl ?_
          refine V_new (C := RX2) (T := TX2) (N := 11) (ci := 2) tyX2 kl_X3_init_9 kn_X3_init_X2 in_X3_init_X2 il_X3_init_X2 tyX2_ok rfl dfX2 rfl rfl dX3_init_36 (fun o3 => ?_)
          dsimp only [List.cons_append, List.nil_append]
          refine V_dup dX3_init_39 rfl ?_
          refine V_callI [5] (c_X2_init l G o3) vy_X2_init gX3_init_X2_init in_X3_init_X2 ml_X3_init_24 im_X3_init_X2_init rfl rfl rfl ⟨rfl, rfl⟩ ⟨rfl, rfl⟩ ⟨rfl, rfl⟩ rfl dX3_init_40 (fun v Y hE => ?_)
          obtain ⟨rfl, a3, h3, rfl⟩ := hE
          refine ⟨rfl, ?_⟩
          dsimp only [vfill, List.set_cons_zero, List.set_cons_succ, Option.toList, List.cons_append, List.nil_append, Nat.add_zero]
          subst h3
          refine V_aast (q := 1) (qk := 32) (ci := 2) (t := 3) (C := RX2) (T := TX2) (NF := 11) rfl rfl rfl rfl (by omega) rfl dX3_init_43 ?_
          dsimp only [List.set_cons_zero, List.set_cons_succ]
          refine V_iinc (v := 4) dX3_init_44 rfl (by decide) rfl rfl ?_
          dsimp only [List.set_cons_zero, List.set_cons_succ]
          refine V_goto (tgt := 25) dX3_init_47 rfl ?_
          refine V_iload_n (i := 1) dX3_init_25 rfl rfl ?_
          refine V_bipush (v := 14) dX3_init_26 (by decide) ?_
          refine V_icmp_ge (tgt := 50) (by omega) (by omega) dX3_init_28 rfl (fun h_28_5 => ?_) (fun h_28_5 => ?_)
          · exfalso; omega
          · refine V_aload_n (i := 0) dX3_init_31 rfl rfl ?_
            refine V_get (C := RX3) (T := TX3) (N := 3) (ci := 3) (q := 0) (ref := "OrderChains$History") 0 rfl il_X3_init_X3 rfl rfl fl_X3_init_11 rfl rfl dX3_init_32 ?_
            refine V_iload_n (i := 1) dX3_init_35 rfl rfl ?_
            refine V_new (C := RX2) (T := TX2) (N := 11) (ci := 2) tyX2 kl_X3_init_9 kn_X3_init_X2 in_X3_init_X2 il_X3_init_X2 tyX2_ok rfl dfX2 rfl rfl dX3_init_36 (fun o4 => ?_)
            dsimp only [List.cons_append, List.nil_append]
            refine V_dup dX3_init_39 rfl ?_
            refine V_callI [6] (c_X2_init l G o4) vy_X2_init gX3_init_X2_init in_X3_init_X2 ml_X3_init_24 im_X3_init_X2_init rfl rfl rfl ⟨rfl, rfl⟩ ⟨rfl, rfl⟩ ⟨rfl, rfl⟩ rfl dX3_init_40 (fun v Y hE => ?_)
            obtain ⟨rfl, a4, h4, rfl⟩ := hE
            refine ⟨rfl, ?_⟩
            dsimp only [vfill, List.set_cons_zero, List.set_cons_succ, Option.toList, List.cons_append, List.nil_append, Nat.add_zero]
            subst h4
            refine V_aast (q := 1) (qk := 42) (ci := 2) (t := 3) (C := RX2) (T := TX2) (NF := 11) rfl rfl rfl rfl (by omega) rfl dX3_init_43 ?_
            dsimp only [List.set_cons_zero, List.set_cons_succ]
            refine V_iinc (v := 5) dX3_init_44 rfl (by decide) rfl rfl ?_
            dsimp only [List.set_cons_zero, List.set_cons_succ]
            refine V_goto (tgt := 25) dX3_init_47 rfl ?_
            refine V_iload_n (i := 1) dX3_init_25 rfl rfl ?_
            refine V_bipush (v := 14) dX3_init_26 (by decide) ?_
            refine V_icmp_ge (tgt := 50) (by omega) (by omega) dX3_init_28 rfl (fun h_28_6 => ?_) (fun h_28_6 => ?_)
            · exfalso; omega
            · refine V_aload_n (i := 0) dX3_init_31 rfl rfl ?_
              refine V_get (C := RX3) (T := TX3) (N := 3) (ci := 3) (q := 0) (ref := "OrderChains$History") 0 rfl il_X3_init_X3 rfl rfl fl_X3_init_11 rfl rfl dX3_init_32 ?_
              refine V_iload_n (i := 1) dX3_init_35 rfl rfl ?_
              refine V_new (C := RX2) (T := TX2) (N := 11) (ci := 2) tyX2 kl_X3_init_9 kn_X3_init_X2 in_X3_init_X2 il_X3_init_X2 tyX2_ok rfl dfX2 rfl rfl dX3_init_36 (fun o5 => ?_)
              dsimp only [List.cons_append, List.nil_append]
              refine V_dup dX3_init_39 rfl ?_
              refine V_callI [7] (c_X2_init l G o5) vy_X2_init gX3_init_X2_init in_X3_init_X2 ml_X3_init_24 im_X3_init_X2_init rfl rfl rfl ⟨rfl, rfl⟩ ⟨rfl, rfl⟩ ⟨rfl, rfl⟩ rfl dX3_init_40 (fun v Y hE => ?_)
              obtain ⟨rfl, a5, h5, rfl⟩ := hE
              refine ⟨rfl, ?_⟩
              dsimp only [vfill, List.set_cons_zero, List.set_cons_succ, Option.toList, List.cons_append, List.nil_append, Nat.add_zero]
              subst h5
              refine V_aast (q := 1) (qk := 52) (ci := 2) (t := 3) (C := RX2) (T := TX2) (NF := 11) rfl rfl rfl rfl (by omega) rfl dX3_init_43 ?_
              dsimp only [List.set_cons_zero, List.set_cons_succ]
              refine V_iinc (v := 6) dX3_init_44 rfl (by decide) rfl rfl ?_
              dsimp only [List.set_cons_zero, List.set_cons_succ]
              refine V_goto (tgt := 25) dX3_init_47 rfl ?_
              refine V_iload_n (i := 1) dX3_init_25 rfl rfl ?_
              refine V_bipush (v := 14) dX3_init_26 (by decide) ?_
              refine V_icmp_ge (tgt := 50) (by omega) (by omega) dX3_init_28 rfl (fun h_28_7 => ?_) (fun h_28_7 => ?_)
              · exfalso; omega
              · refine V_aload_n (i := 0) dX3_init_31 rfl rfl ?_
                refine V_get (C := RX3) (T := TX3) (N := 3) (ci := 3) (q := 0) (ref := "OrderChains$History") 0 rfl il_X3_init_X3 rfl rfl fl_X3_init_11 rfl rfl dX3_init_32 ?_
                refine V_iload_n (i := 1) dX3_init_35 rfl rfl ?_
                refine V_new (C := RX2) (T := TX2) (N := 11) (ci := 2) tyX2 kl_X3_init_9 kn_X3_init_X2 in_X3_init_X2 il_X3_init_X2 tyX2_ok rfl dfX2 rfl rfl dX3_init_36 (fun o6 => ?_)
                dsimp only [List.cons_append, List.nil_append]
                refine V_dup dX3_init_39 rfl ?_
                refine V_callI [8] (c_X2_init l G o6) vy_X2_init gX3_init_X2_init in_X3_init_X2 ml_X3_init_24 im_X3_init_X2_init rfl rfl rfl ⟨rfl, rfl⟩ ⟨rfl, rfl⟩ ⟨rfl, rfl⟩ rfl dX3_init_40 (fun v Y hE => ?_)
                obtain ⟨rfl, a6, h6, rfl⟩ := hE
                refine ⟨rfl, ?_⟩
                dsimp only [vfill, List.set_cons_zero, List.set_cons_succ, Option.toList, List.cons_append, List.nil_append, Nat.add_zero]
                subst h6
                refine V_aast (q := 1) (qk := 62) (ci := 2) (t := 3) (C := RX2) (T := TX2) (NF := 11) rfl rfl rfl rfl (by omega) rfl dX3_init_43 ?_
                dsimp only [List.set_cons_zero, List.set_cons_succ]
                refine V_iinc (v := 7) dX3_init_44 rfl (by decide) rfl rfl ?_
                dsimp only [List.set_cons_zero, List.set_cons_succ]
                refine V_goto (tgt := 25) dX3_init_47 rfl ?_
                refine V_iload_n (i := 1) dX3_init_25 rfl rfl ?_
                refine V_bipush (v := 14) dX3_init_26 (by decide) ?_
                refine V_icmp_ge (tgt := 50) (by omega) (by omega) dX3_init_28 rfl (fun h_28_8 => ?_) (fun h_28_8 => ?_)
                · exfalso; omega
                · refine V_aload_n (i := 0) dX3_init_31 rfl rfl ?_
                  refine V_get (C := RX3) (T := TX3) (N := 3) (ci := 3) (q := 0) (ref := "OrderChains$History") 0 rfl il_X3_init_X3 rfl rfl fl_X3_init_11 rfl rfl dX3_init_32 ?_
                  refine V_iload_n (i := 1) dX3_init_35 rfl rfl ?_
                  refine V_new (C := RX2) (T := TX2) (N := 11) (ci := 2) tyX2 kl_X3_init_9 kn_X3_init_X2 in_X3_init_X2 il_X3_init_X2 tyX2_ok rfl dfX2 rfl rfl dX3_init_36 (fun o7 => ?_)
                  dsimp only [List.cons_append, List.nil_append]
                  refine V_dup dX3_init_39 rfl ?_
                  refine V_callI [9] (c_X2_init l G o7) vy_X2_init gX3_init_X2_init in_X3_init_X2 ml_X3_init_24 im_X3_init_X2_init rfl rfl rfl ⟨rfl, rfl⟩ ⟨rfl, rfl⟩ ⟨rfl, rfl⟩ rfl dX3_init_40 (fun v Y hE => ?_)
                  obtain ⟨rfl, a7, h7, rfl⟩ := hE
                  refine ⟨rfl, ?_⟩
                  dsimp only [vfill, List.set_cons_zero, List.set_cons_succ, Option.toList, List.cons_append, List.nil_append, Nat.add_zero]
                  subst h7
                  refine V_aast (q := 1) (qk := 72) (ci := 2) (t := 3) (C := RX2) (T := TX2) (NF := 11) rfl rfl rfl rfl (by omega) rfl dX3_init_43 ?_
                  dsimp only [List.set_cons_zero, List.set_cons_succ]
                  refine V_iinc (v := 8) dX3_init_44 rfl (by decide) rfl rfl ?_
                  dsimp only [List.set_cons_zero, List.set_cons_succ]
                  refine V_goto (tgt := 25) dX3_init_47 rfl ?_
                  refine V_iload_n (i := 1) dX3_init_25 rfl rfl ?_
                  refine V_bipush (v := 14) dX3_init_26 (by decide) ?_
                  refine V_icmp_ge (tgt := 50) (by omega) (by omega) dX3_init_28 rfl (fun h_28_9 => ?_) (fun h_28_9 => ?_)
                  · exfalso; omega
                  · refine V_aload_n (i := 0) dX3_init_31 rfl rfl ?_
                    refine V_get (C := RX3) (T := TX3) (N := 3) (ci := 3) (q := 0) (ref := "OrderChains$History") 0 rfl il_X3_init_X3 rfl rfl fl_X3_init_11 rfl rfl dX3_init_32 ?_
                    refine V_iload_n (i := 1) dX3_init_35 rfl rfl ?_
                    refine V_new (C := RX2) (T := TX2) (N := 11) (ci := 2) tyX2 kl_X3_init_9 kn_X3_init_X2 in_X3_init_X2 il_X3_init_X2 tyX2_ok rfl dfX2 rfl rfl dX3_init_36 (fun o8 => ?_)
                    dsimp only [List.cons_append, List.nil_append]
                    refine V_dup dX3_init_39 rfl ?_
                    refine V_callI [10] (c_X2_init l G o8) vy_X2_init gX3_init_X2_init in_X3_init_X2 ml_X3_init_24 im_X3_init_X2_init rfl rfl rfl ⟨rfl, rfl⟩ ⟨rfl, rfl⟩ ⟨rfl, rfl⟩ rfl dX3_init_40 (fun v Y hE => ?_)
                    obtain ⟨rfl, a8, h8, rfl⟩ := hE
                    refine ⟨rfl, ?_⟩
                    dsimp only [vfill, List.set_cons_zero, List.set_cons_succ, Option.toList, List.cons_append, List.nil_append, Nat.add_zero]
                    subst h8
                    refine V_aast (q := 1) (qk := 82) (ci := 2) (t := 3) (C := RX2) (T := TX2) (NF := 11) rfl rfl rfl rfl (by omega) rfl dX3_init_43 ?_
                    dsimp only [List.set_cons_zero, List.set_cons_succ]
                    refine V_iinc (v := 9) dX3_init_44 rfl (by decide) rfl rfl ?_
                    dsimp only [List.set_cons_zero, List.set_cons_succ]
                    refine V_goto (tgt := 25) dX3_init_47 rfl ?_
                    refine V_iload_n (i := 1) dX3_init_25 rfl rfl ?_
                    refine V_bipush (v := 14) dX3_init_26 (by decide) ?_
                    refine V_icmp_ge (tgt := 50) (by omega) (by omega) dX3_init_28 rfl (fun h_28_10 => ?_) (fun h_28_10 => ?_)
                    · exfalso; omega
                    · refine V_aload_n (i := 0) dX3_init_31 rfl rfl ?_
                      refine V_get (C := RX3) (T := TX3) (N := 3) (ci := 3) (q := 0) (ref := "OrderChains$History") 0 rfl il_X3_init_X3 rfl rfl fl_X3_init_11 rfl rfl dX3_init_32 ?_
                      refine V_iload_n (i := 1) dX3_init_35 rfl rfl ?_
                      refine V_new (C := RX2) (T := TX2) (N := 11) (ci := 2) tyX2 kl_X3_init_9 kn_X3_init_X2 in_X3_init_X2 il_X3_init_X2 tyX2_ok rfl dfX2 rfl rfl dX3_init_36 (fun o9 => ?_)
                      dsimp only [List.cons_append, List.nil_append]
                      refine V_dup dX3_init_39 rfl ?_
                      refine V_callI [11] (c_X2_init l G o9) vy_X2_init gX3_init_X2_init in_X3_init_X2 ml_X3_init_24 im_X3_init_X2_init rfl rfl rfl ⟨rfl, rfl⟩ ⟨rfl, rfl⟩ ⟨rfl, rfl⟩ rfl dX3_init_40 (fun v Y hE => ?_)
                      obtain ⟨rfl, a9, h9, rfl⟩ := hE
                      refine ⟨rfl, ?_⟩
                      dsimp only [vfill, List.set_cons_zero, List.set_cons_succ, Option.toList, List.cons_append, List.nil_append, Nat.add_zero]
                      subst h9
                      refine V_aast (q := 1) (qk := 92) (ci := 2) (t := 3) (C := RX2) (T := TX2) (NF := 11) rfl rfl rfl rfl (by omega) rfl dX3_init_43 ?_
                      dsimp only [List.set_cons_zero, List.set_cons_succ]
                      refine V_iinc (v := 10) dX3_init_44 rfl (by decide) rfl rfl ?_
                      dsimp only [List.set_cons_zero, List.set_cons_succ]
                      refine V_goto (tgt := 25) dX3_init_47 rfl ?_
                      refine V_iload_n (i := 1) dX3_init_25 rfl rfl ?_
                      refine V_bipush (v := 14) dX3_init_26 (by decide) ?_
                      refine V_icmp_ge (tgt := 50) (by omega) (by omega) dX3_init_28 rfl (fun h_28_11 => ?_) (fun h_28_11 => ?_)
                      · exfalso; omega
                      · refine V_aload_n (i := 0) dX3_init_31 rfl rfl ?_
                        refine V_get (C := RX3) (T := TX3) (N := 3) (ci := 3) (q := 0) (ref := "OrderChains$History") 0 rfl il_X3_init_X3 rfl rfl fl_X3_init_11 rfl rfl dX3_init_32 ?_
                        refine V_iload_n (i := 1) dX3_init_35 rfl rfl ?_
                        refine V_new (C := RX2) (T := TX2) (N := 11) (ci := 2) tyX2 kl_X3_init_9 kn_X3_init_X2 in_X3_init_X2 il_X3_init_X2 tyX2_ok rfl dfX2 rfl rfl dX3_init_36 (fun o10 => ?_)
                        dsimp only [List.cons_append, List.nil_append]
                        refine V_dup dX3_init_39 rfl ?_
                        refine V_callI [12] (c_X2_init l G o10) vy_X2_init gX3_init_X2_init in_X3_init_X2 ml_X3_init_24 im_X3_init_X2_init rfl rfl rfl ⟨rfl, rfl⟩ ⟨rfl, rfl⟩ ⟨rfl, rfl⟩ rfl dX3_init_40 (fun v Y hE => ?_)
                        obtain ⟨rfl, a10, h10, rfl⟩ := hE
                        refine ⟨rfl, ?_⟩
                        dsimp only [vfill, List.set_cons_zero, List.set_cons_succ, Option.toList, List.cons_append, List.nil_append, Nat.add_zero]
                        subst h10
                        refine V_aast (q := 1) (qk := 102) (ci := 2) (t := 3) (C := RX2) (T := TX2) (NF := 11) rfl rfl rfl rfl (by omega) rfl dX3_init_43 ?_
                        dsimp only [List.set_cons_zero, List.set_cons_succ]
                        refine V_iinc (v := 11) dX3_init_44 rfl (by decide) rfl rfl ?_
                        dsimp only [List.set_cons_zero, List.set_cons_succ]
                        refine V_goto (tgt := 25) dX3_init_47 rfl ?_
                        refine V_iload_n (i := 1) dX3_init_25 rfl rfl ?_
                        refine V_bipush (v := 14) dX3_init_26 (by decide) ?_
                        refine V_icmp_ge (tgt := 50) (by omega) (by omega) dX3_init_28 rfl (fun h_28_12 => ?_) (fun h_28_12 => ?_)
                        · exfalso; omega
                        · refine V_aload_n (i := 0) dX3_init_31 rfl rfl ?_
                          refine V_get (C := RX3) (T := TX3) (N := 3) (ci := 3) (q := 0) (ref := "OrderChains$History") 0 rfl il_X3_init_X3 rfl rfl fl_X3_init_11 rfl rfl dX3_init_32 ?_
                          refine V_iload_n (i := 1) dX3_init_35 rfl rfl ?_
                          refine V_new (C := RX2) (T := TX2) (N := 11) (ci := 2) tyX2 kl_X3_init_9 kn_X3_init_X2 in_X3_init_X2 il_X3_init_X2 tyX2_ok rfl dfX2 rfl rfl dX3_init_36 (fun o11 => ?_)
                          dsimp only [List.cons_append, List.nil_append]
                          refine V_dup dX3_init_39 rfl ?_
                          refine V_callI [13] (c_X2_init l G o11) vy_X2_init gX3_init_X2_init in_X3_init_X2 ml_X3_init_24 im_X3_init_X2_init rfl rfl rfl ⟨rfl, rfl⟩ ⟨rfl, rfl⟩ ⟨rfl, rfl⟩ rfl dX3_init_40 (fun v Y hE => ?_)
                          obtain ⟨rfl, a11, h11, rfl⟩ := hE
                          refine ⟨rfl, ?_⟩
                          dsimp only [vfill, List.set_cons_zero, List.set_cons_succ, Option.toList, List.cons_append, List.nil_append, Nat.add_zero]
                          subst h11
                          refine V_aast (q := 1) (qk := 112) (ci := 2) (t := 3) (C := RX2) (T := TX2) (NF := 11) rfl rfl rfl rfl (by omega) rfl dX3_init_43 ?_
                          dsimp only [List.set_cons_zero, List.set_cons_succ]
                          refine V_iinc (v := 12) dX3_init_44 rfl (by decide) rfl rfl ?_
                          dsimp only [List.set_cons_zero, List.set_cons_succ]
                          refine V_goto (tgt := 25) dX3_init_47 rfl ?_
                          refine V_iload_n (i := 1) dX3_init_25 rfl rfl ?_
                          refine V_bipush (v := 14) dX3_init_26 (by decide) ?_
                          refine V_icmp_ge (tgt := 50) (by omega) (by omega) dX3_init_28 rfl (fun h_28_13 => ?_) (fun h_28_13 => ?_)
                          · exfalso; omega
                          · refine V_aload_n (i := 0) dX3_init_31 rfl rfl ?_
                            refine V_get (C := RX3) (T := TX3) (N := 3) (ci := 3) (q := 0) (ref := "OrderChains$History") 0 rfl il_X3_init_X3 rfl rfl fl_X3_init_11 rfl rfl dX3_init_32 ?_
                            refine V_iload_n (i := 1) dX3_init_35 rfl rfl ?_
                            refine V_new (C := RX2) (T := TX2) (N := 11) (ci := 2) tyX2 kl_X3_init_9 kn_X3_init_X2 in_X3_init_X2 il_X3_init_X2 tyX2_ok rfl dfX2 rfl rfl dX3_init_36 (fun o12 => ?_)
                            dsimp only [List.cons_append, List.nil_append]
                            refine V_dup dX3_init_39 rfl ?_
                            refine V_callI [14] (c_X2_init l G o12) vy_X2_init gX3_init_X2_init in_X3_init_X2 ml_X3_init_24 im_X3_init_X2_init rfl rfl rfl ⟨rfl, rfl⟩ ⟨rfl, rfl⟩ ⟨rfl, rfl⟩ rfl dX3_init_40 (fun v Y hE => ?_)
                            obtain ⟨rfl, a12, h12, rfl⟩ := hE
                            refine ⟨rfl, ?_⟩
                            dsimp only [vfill, List.set_cons_zero, List.set_cons_succ, Option.toList, List.cons_append, List.nil_append, Nat.add_zero]
                            subst h12
                            refine V_aast (q := 1) (qk := 122) (ci := 2) (t := 3) (C := RX2) (T := TX2) (NF := 11) rfl rfl rfl rfl (by omega) rfl dX3_init_43 ?_
                            dsimp only [List.set_cons_zero, List.set_cons_succ]
                            refine V_iinc (v := 13) dX3_init_44 rfl (by decide) rfl rfl ?_
                            dsimp only [List.set_cons_zero, List.set_cons_succ]
                            refine V_goto (tgt := 25) dX3_init_47 rfl ?_
                            refine V_iload_n (i := 1) dX3_init_25 rfl rfl ?_
                            refine V_bipush (v := 14) dX3_init_26 (by decide) ?_
                            refine V_icmp_ge (tgt := 50) (by omega) (by omega) dX3_init_28 rfl (fun h_28_14 => ?_) (fun h_28_14 => ?_)
                            · exfalso; omega
                            · refine V_aload_n (i := 0) dX3_init_31 rfl rfl ?_
                              refine V_get (C := RX3) (T := TX3) (N := 3) (ci := 3) (q := 0) (ref := "OrderChains$History") 0 rfl il_X3_init_X3 rfl rfl fl_X3_init_11 rfl rfl dX3_init_32 ?_
                              refine V_iload_n (i := 1) dX3_init_35 rfl rfl ?_
                              refine V_new (C := RX2) (T := TX2) (N := 11) (ci := 2) tyX2 kl_X3_init_9 kn_X3_init_X2 in_X3_init_X2 il_X3_init_X2 tyX2_ok rfl dfX2 rfl rfl dX3_init_36 (fun o13 => ?_)
                              dsimp only [List.cons_append, List.nil_append]
                              refine V_dup dX3_init_39 rfl ?_
                              refine V_callI [15] (c_X2_init l G o13) vy_X2_init gX3_init_X2_init in_X3_init_X2 ml_X3_init_24 im_X3_init_X2_init rfl rfl rfl ⟨rfl, rfl⟩ ⟨rfl, rfl⟩ ⟨rfl, rfl⟩ rfl dX3_init_40 (fun v Y hE => ?_)
                              obtain ⟨rfl, a13, h13, rfl⟩ := hE
                              refine ⟨rfl, ?_⟩
                              dsimp only [vfill, List.set_cons_zero, List.set_cons_succ, Option.toList, List.cons_append, List.nil_append, Nat.add_zero]
                              subst h13
                              refine V_aast (q := 1) (qk := 132) (ci := 2) (t := 3) (C := RX2) (T := TX2) (NF := 11) rfl rfl rfl rfl (by omega) rfl dX3_init_43 ?_
                              dsimp only [List.set_cons_zero, List.set_cons_succ]
                              refine V_iinc (v := 14) dX3_init_44 rfl (by decide) rfl rfl ?_
                              dsimp only [List.set_cons_zero, List.set_cons_succ]
                              refine V_goto (tgt := 25) dX3_init_47 rfl ?_
                              refine V_iload_n (i := 1) dX3_init_25 rfl rfl ?_
                              refine V_bipush (v := 14) dX3_init_26 (by decide) ?_
                              refine V_icmp_ge (tgt := 50) (by omega) (by omega) dX3_init_28 rfl (fun h_28_15 => ?_) (fun h_28_15 => ?_)
                              · refine V_arr (q := 1) (rA (fun k => (fun k => ([a0, a1, a2, a3, a4, a5, a6, a7, a8, a9, a10, a11, a12, a13] : List (Nat → Nat)).getD k a0) k 0)) rfl (fun j hj => by
                                    match j, hj with
                                    | 0, _ => rfl
                                    | 1, _ => rfl
                                    | 2, _ => rfl
                                    | 3, _ => rfl
                                    | 4, _ => rfl
                                    | 5, _ => rfl
                                    | 6, _ => rfl
                                    | 7, _ => rfl
                                    | 8, _ => rfl
                                    | 9, _ => rfl
                                    | 10, _ => rfl
                                    | 11, _ => rfl
                                    | 12, _ => rfl
                                    | 13, _ => rfl
                                    | _ + 14, h => exact absurd h (by omega)) ?_
                                refine V_same (X' := [hO b sa (fun _ => 0) ++ (hA G sa (fun k => ([a0, a1, a2, a3, a4, a5, a6, a7, a8, a9, a10, a11, a12, a13] : List (Nat → Nat)).getD k a0) ++ hK G (fun k => ([a0, a1, a2, a3, a4, a5, a6, a7, a8, a9, a10, a11, a12, a13] : List (Nat → Nat)).getD k a0) (fun _ => eN))]) (by rfl) ?_
                                refine V_vret hR dX3_init_50 (Nat.le_of_ble_eq_true rfl) (Nat.le_of_ble_eq_true rfl) ?_
                                exact ⟨rfl, sa, _, rfl⟩
                              · exfalso; omega

def oW (G : vG) (A : Nat → Nat) (ea : Nat → Nat → Nat) (n : Nat) (tx r ho : Nat → Nat) (hs : Nat → vE) (zf wo sn : Nat → Nat) (e t s0 s1 : vE) : List va_W := [oO A ea n, iA G (A 1) 140 tx, tR (A 2) r, eK G (ea 14) e, eK G (ea 15) t, hO (A 3) (A 7) ho, hA G (A 7) ea, hK G ea hs, sA G A ea, zA G (A 5) 2 zf, wO (A 6) (A 8) wo, iA G (A 8) 96 sn, eK G (ea 16) s0, eK G (ea 17) s1]
def mW (G : vG) (B z tx r g t d kp ik y mt : Nat → Nat) : List va_W := [mO B z, iA G (B 1) 140 tx, iA G (B 2) 427 r, iA G (B 3) 427 g, iA G (B 4) 427 t, iA G (B 5) 5978 d, iA G (B 6) 854 kp, zA G (B 7) 2 ik, iA G (B 8) 96 y, zA G (B 9) 96 mt]
abbrev rX6_init : Room := { frames := 4, cells := 188, slots := 9859, locals := 86 }
theorem vy_X6_init : vY yX6_init wsX6_init cX6_init 2 none 0 := ⟨⟨_, rfl⟩, by decide +kernel, by decide +kernel, by decide +kernel⟩
theorem ol_X6_init_3 : Cond.methodLink RX6 3 objectInit ∈ wsX6_init := List.mem_of_getElem? (i := 1) rfl
theorem oi_X6_init : Cond.instanceMethod objectInit ∈ wsX6_init := List.mem_of_getElem? (i := 2) rfl
theorem oc_X6_init : Cond.code objectInit ⟨#[0xb1]⟩ 1 none ∈ wsX6_init := List.mem_of_getElem? (i := 3) rfl
theorem ka_X6_init_int : Cond.arrayClass .int ∈ wsX6_init := List.mem_of_getElem? (i := 4) rfl
theorem fl_X6_init_9 : Cond.fieldLink RX6 9 "OrderChains" "text" "[I" ∈ wsX6_init := List.mem_of_getElem? (i := 5) rfl
theorem il_X6_init_X6 : ∀ w ∈ wsX60, w ∈ wsX6_init := fun _ h => List.mem_cons_of_mem _ (List.mem_append_left _ (List.mem_append_left _ (List.mem_append_left _ (List.mem_append_left _ (List.mem_append_left _ (List.mem_append_right _ h))))))
theorem fl_X6_init_13 : Cond.fieldLink RX6 13 "OrderChains" "textLength" "I" ∈ wsX6_init := List.mem_of_getElem? (i := 6) rfl
theorem kl_X6_init_17 : Cond.classLink RX6 17 RX5 ∈ wsX6_init := List.mem_of_getElem? (i := 7) rfl
theorem kn_X6_init_X5 : Cond.instantiable RX5 5 ∈ wsX6_init := List.mem_of_getElem? (i := 8) rfl
theorem in_X6_init_X5 : Cond.initialized RX5 ∈ wsX6_init := List.mem_of_getElem? (i := 9) rfl
theorem il_X6_init_X5 : ∀ w ∈ wsX50, w ∈ wsX6_init := fun _ h => List.mem_cons_of_mem _ (List.mem_append_left _ (List.mem_append_left _ (List.mem_append_left _ (List.mem_append_left _ (List.mem_append_right _ h)))))
theorem im_X6_init_X5_init : Cond.instanceMethod yX5_init ∈ wsX6_init := List.mem_of_getElem? (i := 27) rfl
theorem fl_X6_init_20 : Cond.fieldLink RX6 20 "OrderChains" "reader" "LOrderChains$TextReader;" ∈ wsX6_init := List.mem_of_getElem? (i := 10) rfl
theorem kl_X6_init_24 : Cond.classLink RX6 24 RX2 ∈ wsX6_init := List.mem_of_getElem? (i := 11) rfl
theorem kn_X6_init_X2 : Cond.instantiable RX2 11 ∈ wsX6_init := List.mem_of_getElem? (i := 12) rfl
theorem in_X6_init_X2 : Cond.initialized RX2 ∈ wsX6_init := List.mem_of_getElem? (i := 13) rfl
theorem il_X6_init_X2 : ∀ w ∈ wsX20, w ∈ wsX6_init := fun _ h => List.mem_cons_of_mem _ (List.mem_append_left _ (List.mem_append_left _ (List.mem_append_left _ (List.mem_append_right _ h))))
theorem im_X6_init_X2_init : Cond.instanceMethod yX2_init ∈ wsX6_init := List.mem_of_getElem? (i := 36) rfl
theorem ml_X6_init_26 : Cond.methodLink RX6 26 yX2_init ∈ wsX6_init := List.mem_of_getElem? (i := 35) rfl
theorem fl_X6_init_27 : Cond.fieldLink RX6 27 "OrderChains" "live" "LOrderChains$Engine;" ∈ wsX6_init := List.mem_of_getElem? (i := 14) rfl
theorem fl_X6_init_31 : Cond.fieldLink RX6 31 "OrderChains" "trial" "LOrderChains$Engine;" ∈ wsX6_init := List.mem_of_getElem? (i := 15) rfl
theorem kl_X6_init_34 : Cond.classLink RX6 34 RX3 ∈ wsX6_init := List.mem_of_getElem? (i := 16) rfl
theorem kn_X6_init_X3 : Cond.instantiable RX3 3 ∈ wsX6_init := List.mem_of_getElem? (i := 17) rfl
theorem in_X6_init_X3 : Cond.initialized RX3 ∈ wsX6_init := List.mem_of_getElem? (i := 18) rfl
theorem il_X6_init_X3 : ∀ w ∈ wsX30, w ∈ wsX6_init := fun _ h => List.mem_cons_of_mem _ (List.mem_append_left _ (List.mem_append_left _ (List.mem_append_right _ h)))
theorem im_X6_init_X3_init : Cond.instanceMethod yX3_init ∈ wsX6_init := List.mem_of_getElem? (i := 74) rfl
theorem ml_X6_init_36 : Cond.methodLink RX6 36 yX3_init ∈ wsX6_init := List.mem_of_getElem? (i := 73) rfl
theorem fl_X6_init_37 : Cond.fieldLink RX6 37 "OrderChains" "history" "LOrderChains$History;" ∈ wsX6_init := List.mem_of_getElem? (i := 19) rfl
theorem fl_X6_init_41 : Cond.fieldLink RX6 41 "OrderChains" "slots" "[LOrderChains$Engine;" ∈ wsX6_init := List.mem_of_getElem? (i := 20) rfl
theorem ka_X6_init_boolean : Cond.arrayClass .boolean ∈ wsX6_init := List.mem_of_getElem? (i := 21) rfl
theorem fl_X6_init_45 : Cond.fieldLink RX6 45 "OrderChains" "slotFilled" "[Z" ∈ wsX6_init := List.mem_of_getElem? (i := 22) rfl
theorem kl_X6_init_49 : Cond.classLink RX6 49 RX0 ∈ wsX6_init := List.mem_of_getElem? (i := 23) rfl
theorem kn_X6_init_X0 : Cond.instantiable RX0 3 ∈ wsX6_init := List.mem_of_getElem? (i := 24) rfl
theorem in_X6_init_X0 : Cond.initialized RX0 ∈ wsX6_init := List.mem_of_getElem? (i := 25) rfl
theorem il_X6_init_X0 : ∀ w ∈ wsX00, w ∈ wsX6_init := fun _ h => List.mem_cons_of_mem _ (List.mem_append_left _ (List.mem_append_right _ h))
theorem im_X6_init_X0_init : Cond.instanceMethod yX0_init ∈ wsX6_init := List.mem_of_getElem? (i := 82) rfl
theorem fl_X6_init_52 : Cond.fieldLink RX6 52 "OrderChains" "walk" "LOrderChains$ChainWalk;" ∈ wsX6_init := List.mem_of_getElem? (i := 26) rfl
set_option maxHeartbeats 4000000 in
set_option maxRecDepth 100000 in
/-- OrderChains() -/
theorem c_X6_init (l : Launch) (G : vG) (b : Nat) : Kc l G yX6_init wsX6_init rX6_init [.ref b] [[(b, .inr (5, [.null, .int (nI 0), .null, .null, .null, .null, .null, .null, .null]))]] (fun v Y => v = none ∧ ∃ (A : Nat → Nat) (ea : Nat → Nat → Nat), A 0 = b ∧ Y = [(oW G A ea 0 (fun _ => 0) (fun _ => 0) (fun _ => 0) (fun _ => eN) (fun _ => 0) (fun _ => 0) (fun _ => 0) eN eN eN eN).flatten]) 188 9859 := by
  refine V_enter (own := RX6) [some (.ref b), none] (by decide +kernel) rfl rfl (Nat.le_of_ble_eq_true rfl) rfl (fun Γ hR hin => ?_)
  have hI := hin rfl
  refine V_aload_n (i := 0) dX6_init_0 rfl rfl ?_
  refine V_objInit ol_X6_init_3 oi_X6_init oc_X6_init ⟨rfl, rfl⟩ dX6_init_1 ?_
  refine V_aload_n (i := 0) dX6_init_4 rfl rfl ?_
  refine V_sipush (v := 140) dX6_init_5 (by decide) ?_
  refine V_newI (N := 140) ka_X6_init_int rfl rfl rfl dX6_init_8 (fun q1 => ?_)
  dsimp only [List.cons_append, List.nil_append]
  refine V_putF hI (C := RX6) (T := TX6) (N := 9) (ci := 5) (q := 0) (ref := "OrderChains") (ty := .array .int) (ty0 := tyX6) 0 rfl il_X6_init_X6 tyX6_ok nmX6 rfl rfl fl_X6_init_9 rfl rfl rfl rfl rfl rfl rfl dX6_init_10 ?_
  dsimp only [List.set_cons_zero, List.set_cons_succ]
  refine V_aload_n (i := 0) dX6_init_13 rfl rfl ?_
  refine V_iconst (v := 0) dX6_init_14 rfl ?_
  refine V_put (C := RX6) (T := TX6) (N := 9) (ci := 5) (q := 0) (ref := "OrderChains") (ty := .int) (ty0 := tyX6) 1 rfl il_X6_init_X6 tyX6_ok nmX6 rfl rfl fl_X6_init_13 rfl rfl rfl rfl rfl rfl dX6_init_15 ?_
  dsimp only [List.set_cons_zero, List.set_cons_succ]
  refine V_aload_n (i := 0) dX6_init_18 rfl rfl ?_
  refine V_new (C := RX5) (T := TX5) (N := 5) (ci := 4) tyX5 kl_X6_init_17 kn_X6_init_X5 in_X6_init_X5 il_X6_init_X5 tyX5_ok rfl dfX5 rfl rfl dX6_init_19 (fun q2 => ?_)
  dsimp only [List.cons_append, List.nil_append]
  refine V_dup dX6_init_22 rfl ?_
  refine V_callIN (host := RX6) [2] (c_X5_init l G q2) vy_X5_init gX6_init_X5_init_n19 (fun _ h => h.1) in_X6_init_X5 im_X6_init_X5_init rfl rfl rfl ⟨rfl, rfl⟩ ⟨rfl, rfl⟩ ⟨rfl, rfl⟩ rfl dX6_init_23 (fun v Y hE => ?_)
  obtain ⟨rfl, rfl⟩ := hE
  refine ⟨rfl, ?_⟩
  dsimp only [vfill, List.set_cons_zero, List.set_cons_succ, Option.toList, List.cons_append, List.nil_append, Nat.add_zero]
  refine V_putF hI (C := RX6) (T := TX6) (N := 9) (ci := 5) (q := 0) (ref := "OrderChains") (ty := .object "OrderChains$TextReader") (ty0 := tyX6) 2 rfl il_X6_init_X6 tyX6_ok nmX6 rfl rfl fl_X6_init_20 rfl rfl rfl rfl rfl rfl rfl dX6_init_26 ?_
  dsimp only [List.set_cons_zero, List.set_cons_succ]
  refine V_aload_n (i := 0) dX6_init_29 rfl rfl ?_
  refine V_new (C := RX2) (T := TX2) (N := 11) (ci := 2) tyX2 kl_X6_init_24 kn_X6_init_X2 in_X6_init_X2 il_X6_init_X2 tyX2_ok rfl dfX2 rfl rfl dX6_init_30 (fun q3 => ?_)
  dsimp only [List.cons_append, List.nil_append]
  refine V_dup dX6_init_33 rfl ?_
  refine V_callI [3] (c_X2_init l G q3) vy_X2_init gX6_init_X2_init in_X6_init_X2 ml_X6_init_26 im_X6_init_X2_init rfl rfl rfl ⟨rfl, rfl⟩ ⟨rfl, rfl⟩ ⟨rfl, rfl⟩ rfl dX6_init_34 (fun v Y hE => ?_)
  obtain ⟨rfl, a14, h14, rfl⟩ := hE
  refine ⟨rfl, ?_⟩
  dsimp only [vfill, List.set_cons_zero, List.set_cons_succ, Option.toList, List.cons_append, List.nil_append, Nat.add_zero]
  subst h14
  refine V_putF hI (C := RX6) (T := TX6) (N := 9) (ci := 5) (q := 0) (ref := "OrderChains") (ty := .object "OrderChains$Engine") (ty0 := tyX6) 3 rfl il_X6_init_X6 tyX6_ok nmX6 rfl rfl fl_X6_init_27 rfl rfl rfl rfl rfl rfl rfl dX6_init_37 ?_
  dsimp only [List.set_cons_zero, List.set_cons_succ]
  refine V_aload_n (i := 0) dX6_init_40 rfl rfl ?_
  refine V_new (C := RX2) (T := TX2) (N := 11) (ci := 2) tyX2 kl_X6_init_24 kn_X6_init_X2 in_X6_init_X2 il_X6_init_X2 tyX2_ok rfl dfX2 rfl rfl dX6_init_41 (fun q4 => ?_)
  dsimp only [List.cons_append, List.nil_append]
  refine V_dup dX6_init_44 rfl ?_
  refine V_callI [4] (c_X2_init l G q4) vy_X2_init gX6_init_X2_init in_X6_init_X2 ml_X6_init_26 im_X6_init_X2_init rfl rfl rfl ⟨rfl, rfl⟩ ⟨rfl, rfl⟩ ⟨rfl, rfl⟩ rfl dX6_init_45 (fun v Y hE => ?_)
  obtain ⟨rfl, a15, h15, rfl⟩ := hE
  refine ⟨rfl, ?_⟩
  dsimp only [vfill, List.set_cons_zero, List.set_cons_succ, Option.toList, List.cons_append, List.nil_append, Nat.add_zero]
  subst h15
  refine V_putF hI (C := RX6) (T := TX6) (N := 9) (ci := 5) (q := 0) (ref := "OrderChains") (ty := .object "OrderChains$Engine") (ty0 := tyX6) 4 rfl il_X6_init_X6 tyX6_ok nmX6 rfl rfl fl_X6_init_31 rfl rfl rfl rfl rfl rfl rfl dX6_init_48 ?_
  dsimp only [List.set_cons_zero, List.set_cons_succ]
  refine V_aload_n (i := 0) dX6_init_51 rfl rfl ?_
  refine V_new (C := RX3) (T := TX3) (N := 3) (ci := 3) tyX3 kl_X6_init_34 kn_X6_init_X3 in_X6_init_X3 il_X6_init_X3 tyX3_ok rfl dfX3 rfl rfl dX6_init_52 (fun q5 => ?_)
  dsimp only [List.cons_append, List.nil_append]
  refine V_dup dX6_init_55 rfl ?_
  refine V_callI [5] (c_X3_init l G q5) vy_X3_init gX6_init_X3_init in_X6_init_X3 ml_X6_init_36 im_X6_init_X3_init rfl rfl rfl ⟨rfl, rfl⟩ ⟨rfl, rfl⟩ ⟨rfl, rfl⟩ rfl dX6_init_56 (fun v Y hE => ?_)
  obtain ⟨rfl, sa, eh, rfl⟩ := hE
  refine ⟨rfl, ?_⟩
  dsimp only [vfill, List.set_cons_zero, List.set_cons_succ, Option.toList, List.cons_append, List.nil_append, Nat.add_zero]
  refine V_putF hI (C := RX6) (T := TX6) (N := 9) (ci := 5) (q := 0) (ref := "OrderChains") (ty := .object "OrderChains$History") (ty0 := tyX6) 5 rfl il_X6_init_X6 tyX6_ok nmX6 rfl rfl fl_X6_init_37 rfl rfl rfl rfl rfl rfl rfl dX6_init_59 ?_
  dsimp only [List.set_cons_zero, List.set_cons_succ]
  refine V_aload_n (i := 0) dX6_init_62 rfl rfl ?_
  refine V_iconst (v := 2) dX6_init_63 rfl ?_
  refine V_anew (N := 2) (t := 3) (C := RX2) kl_X6_init_24 (fun _ h => h.2.2.2.2.2.2.2.2) rfl rfl rfl rfl dX6_init_64 (fun q6 => ?_)
  dsimp only [List.cons_append, List.nil_append]
  refine V_putF hI (C := RX6) (T := TX6) (N := 9) (ci := 5) (q := 0) (ref := "OrderChains") (ty := .array (.object "OrderChains$Engine")) (ty0 := tyX6) 6 rfl il_X6_init_X6 tyX6_ok nmX6 rfl rfl fl_X6_init_41 rfl rfl rfl rfl rfl rfl rfl dX6_init_67 ?_
  dsimp only [List.set_cons_zero, List.set_cons_succ]
  refine V_aload_n (i := 0) dX6_init_70 rfl rfl ?_
  refine V_iconst (v := 2) dX6_init_71 rfl ?_
  refine V_newZ (N := 2) ka_X6_init_boolean rfl rfl rfl dX6_init_72 (fun q7 => ?_)
  dsimp only [List.cons_append, List.nil_append]
  refine V_putF hI (C := RX6) (T := TX6) (N := 9) (ci := 5) (q := 0) (ref := "OrderChains") (ty := .array .boolean) (ty0 := tyX6) 7 rfl il_X6_init_X6 tyX6_ok nmX6 rfl rfl fl_X6_init_45 rfl rfl rfl rfl rfl rfl rfl dX6_init_74 ?_
  dsimp only [List.set_cons_zero, List.set_cons_succ]
  refine V_aload_n (i := 0) dX6_init_77 rfl rfl ?_
  refine V_new (C := RX0) (T := TX0) (N := 3) (ci := 0) tyX0 kl_X6_init_49 kn_X6_init_X0 in_X6_init_X0 il_X6_init_X0 tyX0_ok rfl dfX0 rfl rfl dX6_init_78 (fun q8 => ?_)
  dsimp only [List.cons_append, List.nil_append]
  refine V_dup dX6_init_81 rfl ?_
  refine V_callIN (host := RX6) [8] (c_X0_init l G q8) vy_X0_init gX6_init_X0_init_n51 (fun _ h => h.2.1) in_X6_init_X0 im_X6_init_X0_init rfl rfl rfl ⟨rfl, rfl⟩ ⟨rfl, rfl⟩ ⟨rfl, rfl⟩ rfl dX6_init_82 (fun v Y hE => ?_)
  obtain ⟨rfl, sn, rfl⟩ := hE
  refine ⟨rfl, ?_⟩
  dsimp only [vfill, List.set_cons_zero, List.set_cons_succ, Option.toList, List.cons_append, List.nil_append, Nat.add_zero]
  refine V_putF hI (C := RX6) (T := TX6) (N := 9) (ci := 5) (q := 0) (ref := "OrderChains") (ty := .object "OrderChains$ChainWalk") (ty0 := tyX6) 8 rfl il_X6_init_X6 tyX6_ok nmX6 rfl rfl fl_X6_init_52 rfl rfl rfl rfl rfl rfl rfl dX6_init_85 ?_
  dsimp only [List.set_cons_zero, List.set_cons_succ]
  refine V_iconst (v := 0) dX6_init_88 rfl ?_
  refine V_istore_n (i := 1) dX6_init_89 rfl rfl rfl ?_
  dsimp only [List.set_cons_zero, List.set_cons_succ]
  refine V_iload_n (i := 1) dX6_init_90 rfl rfl ?_
  refine V_iconst (v := 2) dX6_init_91 rfl ?_
  refine V_icmp_ge (tgt := 114) (by omega) (by omega) dX6_init_92 rfl (fun h_92 => ?_) (fun h_92 => ?_)
  · exfalso; omega
  · refine V_aload_n (i := 0) dX6_init_95 rfl rfl ?_
    refine V_get (C := RX6) (T := TX6) (N := 9) (ci := 5) (q := 0) (ref := "OrderChains") 6 rfl il_X6_init_X6 rfl rfl fl_X6_init_41 rfl rfl dX6_init_96 ?_
    refine V_iload_n (i := 1) dX6_init_99 rfl rfl ?_
    refine V_new (C := RX2) (T := TX2) (N := 11) (ci := 2) tyX2 kl_X6_init_24 kn_X6_init_X2 in_X6_init_X2 il_X6_init_X2 tyX2_ok rfl dfX2 rfl rfl dX6_init_100 (fun q9 => ?_)
    dsimp only [List.cons_append, List.nil_append]
    refine V_dup dX6_init_103 rfl ?_
    refine V_callI [9] (c_X2_init l G q9) vy_X2_init gX6_init_X2_init in_X6_init_X2 ml_X6_init_26 im_X6_init_X2_init rfl rfl rfl ⟨rfl, rfl⟩ ⟨rfl, rfl⟩ ⟨rfl, rfl⟩ rfl dX6_init_104 (fun v Y hE => ?_)
    obtain ⟨rfl, a16, h16, rfl⟩ := hE
    refine ⟨rfl, ?_⟩
    dsimp only [vfill, List.set_cons_zero, List.set_cons_succ, Option.toList, List.cons_append, List.nil_append, Nat.add_zero]
    subst h16
    refine V_aast (q := 6) (qk := 169) (ci := 2) (t := 3) (C := RX2) (T := TX2) (NF := 11) rfl rfl rfl rfl (by omega) rfl dX6_init_107 ?_
    dsimp only [List.set_cons_zero, List.set_cons_succ]
    refine V_iinc (v := 1) dX6_init_108 rfl (by decide) rfl rfl ?_
    dsimp only [List.set_cons_zero, List.set_cons_succ]
    refine V_goto (tgt := 90) dX6_init_111 rfl ?_
    refine V_iload_n (i := 1) dX6_init_90 rfl rfl ?_
    refine V_iconst (v := 2) dX6_init_91 rfl ?_
    refine V_icmp_ge (tgt := 114) (by omega) (by omega) dX6_init_92 rfl (fun h_92_2 => ?_) (fun h_92_2 => ?_)
    · exfalso; omega
    · refine V_aload_n (i := 0) dX6_init_95 rfl rfl ?_
      refine V_get (C := RX6) (T := TX6) (N := 9) (ci := 5) (q := 0) (ref := "OrderChains") 6 rfl il_X6_init_X6 rfl rfl fl_X6_init_41 rfl rfl dX6_init_96 ?_
      refine V_iload_n (i := 1) dX6_init_99 rfl rfl ?_
      refine V_new (C := RX2) (T := TX2) (N := 11) (ci := 2) tyX2 kl_X6_init_24 kn_X6_init_X2 in_X6_init_X2 il_X6_init_X2 tyX2_ok rfl dfX2 rfl rfl dX6_init_100 (fun q10 => ?_)
      dsimp only [List.cons_append, List.nil_append]
      refine V_dup dX6_init_103 rfl ?_
      refine V_callI [10] (c_X2_init l G q10) vy_X2_init gX6_init_X2_init in_X6_init_X2 ml_X6_init_26 im_X6_init_X2_init rfl rfl rfl ⟨rfl, rfl⟩ ⟨rfl, rfl⟩ ⟨rfl, rfl⟩ rfl dX6_init_104 (fun v Y hE => ?_)
      obtain ⟨rfl, a17, h17, rfl⟩ := hE
      refine ⟨rfl, ?_⟩
      dsimp only [vfill, List.set_cons_zero, List.set_cons_succ, Option.toList, List.cons_append, List.nil_append, Nat.add_zero]
      subst h17
      refine V_aast (q := 6) (qk := 179) (ci := 2) (t := 3) (C := RX2) (T := TX2) (NF := 11) rfl rfl rfl rfl (by omega) rfl dX6_init_107 ?_
      dsimp only [List.set_cons_zero, List.set_cons_succ]
      refine V_iinc (v := 2) dX6_init_108 rfl (by decide) rfl rfl ?_
      dsimp only [List.set_cons_zero, List.set_cons_succ]
      refine V_goto (tgt := 90) dX6_init_111 rfl ?_
      refine V_iload_n (i := 1) dX6_init_90 rfl rfl ?_
      refine V_iconst (v := 2) dX6_init_91 rfl ?_
      refine V_icmp_ge (tgt := 114) (by omega) (by omega) dX6_init_92 rfl (fun h_92_3 => ?_) (fun h_92_3 => ?_)
      · refine V_arr (q := 6) (rA (fun k => (fun k => if k = 14 then a14 else if k = 15 then a15 else if k = 16 then a16 else if k = 17 then a17 else eh k) (16 + k) 0)) rfl (fun j hj => by
            match j, hj with
            | 0, _ => rfl
            | 1, _ => rfl
            | _ + 2, h => exact absurd h (by omega)) ?_
        refine V_same (X' := [oO (fun k => ([b, q1, q2, q5, q6, q7, q8, sa, sn] : List Nat).getD k 0) (fun k => if k = 14 then a14 else if k = 15 then a15 else if k = 16 then a16 else if k = 17 then a17 else eh k) 0, iA G q1 140 (fun _ => 0), tR q2 (fun _ => 0), eK G a14 eN, eK G a15 eN, hO q5 sa (fun _ => 0), hA G sa eh, hK G eh (fun _ => eN), sA G (fun k => ([b, q1, q2, q5, q6, q7, q8, sa, sn] : List Nat).getD k 0) (fun k => if k = 14 then a14 else if k = 15 then a15 else if k = 16 then a16 else if k = 17 then a17 else eh k), zA G q7 2 (fun _ => 0), wO q8 sn (fun _ => 0), iA G sn 96 (fun _ => 0), eK G a16 eN, eK G a17 eN]) (by rfl) ?_
        refine V_arr (q := 6) (rA (fun k => (fun k => if k = 14 then a14 else if k = 15 then a15 else if k = 16 then a16 else if k = 17 then a17 else eh k) k 0)) rfl (fun j hj => by
            show some (eh j 0) = some ((if j = 14 then a14 else if j = 15 then a15 else if j = 16 then a16 else if j = 17 then a17 else eh j) 0)
            rw [if_neg (by omega), if_neg (by omega), if_neg (by omega), if_neg (by omega)]) ?_
        refine V_same (X' := [(oW G (fun k => ([b, q1, q2, q5, q6, q7, q8, sa, sn] : List Nat).getD k 0) (fun k => if k = 14 then a14 else if k = 15 then a15 else if k = 16 then a16 else if k = 17 then a17 else eh k) 0 (fun _ => 0) (fun _ => 0) (fun _ => 0) (fun _ => eN) (fun _ => 0) (fun _ => 0) (fun _ => 0) eN eN eN eN).flatten]) (by rfl) ?_
        refine V_vret hR dX6_init_114 (Nat.le_of_ble_eq_true rfl) (Nat.le_of_ble_eq_true rfl) ?_
        exact ⟨rfl, (fun k => ([b, q1, q2, q5, q6, q7, q8, sa, sn] : List Nat).getD k 0), (fun k => if k = 14 then a14 else if k = 15 then a15 else if k = 16 then a16 else if k = 17 then a17 else eh k), rfl, rfl⟩
      · exfalso; omega

abbrev rX7_init : Room := { frames := 1, cells := 9, slots := 8447, locals := 24 }
theorem vy_X7_init : vY yX7_init wsX7_init cX7_init 1 none 0 := ⟨⟨_, rfl⟩, by decide +kernel, by decide +kernel, by decide +kernel⟩
theorem ol_X7_init_1 : Cond.methodLink RX7 1 objectInit ∈ wsX7_init := List.mem_of_getElem? (i := 1) rfl
theorem oi_X7_init : Cond.instanceMethod objectInit ∈ wsX7_init := List.mem_of_getElem? (i := 2) rfl
theorem oc_X7_init : Cond.code objectInit ⟨#[0xb1]⟩ 1 none ∈ wsX7_init := List.mem_of_getElem? (i := 3) rfl
theorem ka_X7_init_int : Cond.arrayClass .int ∈ wsX7_init := List.mem_of_getElem? (i := 4) rfl
theorem fl_X7_init_7 : Cond.fieldLink RX7 7 "OrderChainsModel" "text" "[I" ∈ wsX7_init := List.mem_of_getElem? (i := 5) rfl
theorem il_X7_init_X7 : ∀ w ∈ wsX70, w ∈ wsX7_init := fun _ h => List.mem_cons_of_mem _ (List.mem_append_right _ h)
theorem fl_X7_init_13 : Cond.fieldLink RX7 13 "OrderChainsModel" "read" "[I" ∈ wsX7_init := List.mem_of_getElem? (i := 6) rfl
theorem fl_X7_init_16 : Cond.fieldLink RX7 16 "OrderChainsModel" "now" "[I" ∈ wsX7_init := List.mem_of_getElem? (i := 7) rfl
theorem fl_X7_init_19 : Cond.fieldLink RX7 19 "OrderChainsModel" "trial" "[I" ∈ wsX7_init := List.mem_of_getElem? (i := 8) rfl
theorem fl_X7_init_22 : Cond.fieldLink RX7 22 "OrderChainsModel" "diary" "[I" ∈ wsX7_init := List.mem_of_getElem? (i := 9) rfl
theorem fl_X7_init_25 : Cond.fieldLink RX7 25 "OrderChainsModel" "kept" "[I" ∈ wsX7_init := List.mem_of_getElem? (i := 10) rfl
theorem ka_X7_init_boolean : Cond.arrayClass .boolean ∈ wsX7_init := List.mem_of_getElem? (i := 11) rfl
theorem fl_X7_init_28 : Cond.fieldLink RX7 28 "OrderChainsModel" "isKept" "[Z" ∈ wsX7_init := List.mem_of_getElem? (i := 12) rfl
theorem fl_X7_init_32 : Cond.fieldLink RX7 32 "OrderChainsModel" "by" "[I" ∈ wsX7_init := List.mem_of_getElem? (i := 13) rfl
theorem fl_X7_init_35 : Cond.fieldLink RX7 35 "OrderChainsModel" "met" "[Z" ∈ wsX7_init := List.mem_of_getElem? (i := 14) rfl
theorem fl_X7_init_38 : Cond.fieldLink RX7 38 "OrderChainsModel" "acts" "I" ∈ wsX7_init := List.mem_of_getElem? (i := 15) rfl
set_option maxHeartbeats 4000000 in
set_option maxRecDepth 100000 in
/-- OrderChainsModel() -/
theorem c_X7_init (l : Launch) (G : vG) (b : Nat) : Kc l G yX7_init wsX7_init rX7_init [.ref b] [[(b, .inr (6, [.int (nI 0), .null, .int (nI 0), .int (nI 0), .null, .null, .null, .null, .int (nI 0), .null, .null, .null, .int (nI 0), .int (nI 0), .int (nI 0), .int (nI 0), .null]))]] (fun v Y => v = none ∧ ∃ B : Nat → Nat, B 0 = b ∧ Y = [(mW G B (fun _ => 0) (fun _ => 0) (fun _ => 0) (fun _ => 0) (fun _ => 0) (fun _ => 0) (fun _ => 0) (fun _ => 0) (fun _ => 0) (fun _ => 0)).flatten]) 9 8447 := by
  refine V_enter (own := RX7) [some (.ref b)] (by decide +kernel) rfl rfl (Nat.le_of_ble_eq_true rfl) rfl (fun Γ hR hin => ?_)
  have hI := hin rfl
  refine V_aload_n (i := 0) dX7_init_0 rfl rfl ?_
  refine V_objInit ol_X7_init_1 oi_X7_init oc_X7_init ⟨rfl, rfl⟩ dX7_init_1 ?_
  refine V_aload_n (i := 0) dX7_init_4 rfl rfl ?_
  refine V_sipush (v := 140) dX7_init_5 (by decide) ?_
  refine V_newI (N := 140) ka_X7_init_int rfl rfl rfl dX7_init_8 (fun q1 => ?_)
  dsimp only [List.cons_append, List.nil_append]
  refine V_putF hI (C := RX7) (T := TX7) (N := 17) (ci := 6) (q := 0) (ref := "OrderChainsModel") (ty := .array .int) (ty0 := tyX7) 1 rfl il_X7_init_X7 tyX7_ok nmX7 rfl rfl fl_X7_init_7 rfl rfl rfl rfl rfl rfl rfl dX7_init_10 ?_
  dsimp only [List.set_cons_zero, List.set_cons_succ]
  refine V_aload_n (i := 0) dX7_init_13 rfl rfl ?_
  refine V_sipush (v := 427) dX7_init_14 (by decide) ?_
  refine V_newI (N := 427) ka_X7_init_int rfl rfl rfl dX7_init_17 (fun q2 => ?_)
  dsimp only [List.cons_append, List.nil_append]
  refine V_putF hI (C := RX7) (T := TX7) (N := 17) (ci := 6) (q := 0) (ref := "OrderChainsModel") (ty := .array .int) (ty0 := tyX7) 4 rfl il_X7_init_X7 tyX7_ok nmX7 rfl rfl fl_X7_init_13 rfl rfl rfl rfl rfl rfl rfl dX7_init_19 ?_
  dsimp only [List.set_cons_zero, List.set_cons_succ]
  refine V_aload_n (i := 0) dX7_init_22 rfl rfl ?_
  refine V_sipush (v := 427) dX7_init_23 (by decide) ?_
  refine V_newI (N := 427) ka_X7_init_int rfl rfl rfl dX7_init_26 (fun q3 => ?_)
  dsimp only [List.cons_append, List.nil_append]
  refine V_putF hI (C := RX7) (T := TX7) (N := 17) (ci := 6) (q := 0) (ref := "OrderChainsModel") (ty := .array .int) (ty0 := tyX7) 5 rfl il_X7_init_X7 tyX7_ok nmX7 rfl rfl fl_X7_init_16 rfl rfl rfl rfl rfl rfl rfl dX7_init_28 ?_
  dsimp only [List.set_cons_zero, List.set_cons_succ]
  refine V_aload_n (i := 0) dX7_init_31 rfl rfl ?_
  refine V_sipush (v := 427) dX7_init_32 (by decide) ?_
  refine V_newI (N := 427) ka_X7_init_int rfl rfl rfl dX7_init_35 (fun q4 => ?_)
  dsimp only [List.cons_append, List.nil_append]
  refine V_putF hI (C := RX7) (T := TX7) (N := 17) (ci := 6) (q := 0) (ref := "OrderChainsModel") (ty := .array .int) (ty0 := tyX7) 6 rfl il_X7_init_X7 tyX7_ok nmX7 rfl rfl fl_X7_init_19 rfl rfl rfl rfl rfl rfl rfl dX7_init_37 ?_
  dsimp only [List.set_cons_zero, List.set_cons_succ]
  refine V_aload_n (i := 0) dX7_init_40 rfl rfl ?_
  refine V_sipush (v := 5978) dX7_init_41 (by decide) ?_
  refine V_newI (N := 5978) ka_X7_init_int rfl rfl rfl dX7_init_44 (fun q5 => ?_)
  dsimp only [List.cons_append, List.nil_append]
  refine V_putF hI (C := RX7) (T := TX7) (N := 17) (ci := 6) (q := 0) (ref := "OrderChainsModel") (ty := .array .int) (ty0 := tyX7) 7 rfl il_X7_init_X7 tyX7_ok nmX7 rfl rfl fl_X7_init_22 rfl rfl rfl rfl rfl rfl rfl dX7_init_46 ?_
  dsimp only [List.set_cons_zero, List.set_cons_succ]
  refine V_aload_n (i := 0) dX7_init_49 rfl rfl ?_
  refine V_sipush (v := 854) dX7_init_50 (by decide) ?_
  refine V_newI (N := 854) ka_X7_init_int rfl rfl rfl dX7_init_53 (fun q6 => ?_)
  dsimp only [List.cons_append, List.nil_append]
  refine V_putF hI (C := RX7) (T := TX7) (N := 17) (ci := 6) (q := 0) (ref := "OrderChainsModel") (ty := .array .int) (ty0 := tyX7) 9 rfl il_X7_init_X7 tyX7_ok nmX7 rfl rfl fl_X7_init_25 rfl rfl rfl rfl rfl rfl rfl dX7_init_55 ?_
  dsimp only [List.set_cons_zero, List.set_cons_succ]
  refine V_aload_n (i := 0) dX7_init_58 rfl rfl ?_
  refine V_iconst (v := 2) dX7_init_59 rfl ?_
  refine V_newZ (N := 2) ka_X7_init_boolean rfl rfl rfl dX7_init_60 (fun q7 => ?_)
  dsimp only [List.cons_append, List.nil_append]
  refine V_putF hI (C := RX7) (T := TX7) (N := 17) (ci := 6) (q := 0) (ref := "OrderChainsModel") (ty := .array .boolean) (ty0 := tyX7) 10 rfl il_X7_init_X7 tyX7_ok nmX7 rfl rfl fl_X7_init_28 rfl rfl rfl rfl rfl rfl rfl dX7_init_62 ?_
  dsimp only [List.set_cons_zero, List.set_cons_succ]
  refine V_aload_n (i := 0) dX7_init_65 rfl rfl ?_
  refine V_bipush (v := 96) dX7_init_66 (by decide) ?_
  refine V_newI (N := 96) ka_X7_init_int rfl rfl rfl dX7_init_68 (fun q8 => ?_)
  dsimp only [List.cons_append, List.nil_append]
  refine V_putF hI (C := RX7) (T := TX7) (N := 17) (ci := 6) (q := 0) (ref := "OrderChainsModel") (ty := .array .int) (ty0 := tyX7) 11 rfl il_X7_init_X7 tyX7_ok nmX7 rfl rfl fl_X7_init_32 rfl rfl rfl rfl rfl rfl rfl dX7_init_70 ?_
  dsimp only [List.set_cons_zero, List.set_cons_succ]
  refine V_aload_n (i := 0) dX7_init_73 rfl rfl ?_
  refine V_bipush (v := 96) dX7_init_74 (by decide) ?_
  refine V_newZ (N := 96) ka_X7_init_boolean rfl rfl rfl dX7_init_76 (fun q9 => ?_)
  dsimp only [List.cons_append, List.nil_append]
  refine V_putF hI (C := RX7) (T := TX7) (N := 17) (ci := 6) (q := 0) (ref := "OrderChainsModel") (ty := .array .boolean) (ty0 := tyX7) 16 rfl il_X7_init_X7 tyX7_ok nmX7 rfl rfl fl_X7_init_35 rfl rfl rfl rfl rfl rfl rfl dX7_init_78 ?_
  dsimp only [List.set_cons_zero, List.set_cons_succ]
  refine V_aload_n (i := 0) dX7_init_81 rfl rfl ?_
  refine V_iconst (v := 0) dX7_init_82 rfl ?_
  refine V_put (C := RX7) (T := TX7) (N := 17) (ci := 6) (q := 0) (ref := "OrderChainsModel") (ty := .int) (ty0 := tyX7) 8 rfl il_X7_init_X7 tyX7_ok nmX7 rfl rfl fl_X7_init_38 rfl rfl rfl rfl rfl rfl dX7_init_83 ?_
  dsimp only [List.set_cons_zero, List.set_cons_succ]
  refine V_same (X' := [(mW G (fun k => ([b, q1, q2, q3, q4, q5, q6, q7, q8, q9] : List Nat).getD k 0) (fun _ => 0) (fun _ => 0) (fun _ => 0) (fun _ => 0) (fun _ => 0) (fun _ => 0) (fun _ => 0) (fun _ => 0) (fun _ => 0) (fun _ => 0)).flatten]) (by rfl) ?_
  refine V_vret hR dX7_init_86 (Nat.le_of_ble_eq_true rfl) (Nat.le_of_ble_eq_true rfl) ?_
  exact ⟨rfl, (fun k => ([b, q1, q2, q3, q4, q5, q6, q7, q8, q9] : List Nat).getD k 0), rfl, rfl⟩

end CTOR
