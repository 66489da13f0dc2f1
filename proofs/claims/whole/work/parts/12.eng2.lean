section ENG2
/-- what a unit changes: values, last writers, writer bits, numbers, the channel -/
abbrev vT5 : Type := (Nat → Nat) × (Nat → Nat) × (Nat → Nat) × (Nat → Nat) × (Nat → Nat)
def eW (G : vG) (a own mark : Nat → Nat) (h : Nat) (t : vT5) : List va_W := [eO a t.2.2.2.1, iA G (a 1) 96 t.1, iA G (a 2) 96 own, iA G (a 3) 96 mark, iA G (a 4) 96 t.2.1, eC G a, cX (a (6 + h)) t.2.2.2.2, iA G (a 9) 96 t.2.2.1]
def wS (mark : Nat → Nat) (h c : Nat) (s : Nat → Nat) : Nat → Nat := va_up (if mark c = 1 then (if s 4 = 4294967287 then va_up (va_up s 2 (s 2 + 1)) 4 (100 * h + c) else va_up s 2 (s 2 + 1)) else s) 3 (s 3 + 1)
/-- a cell is written -/
def wrC (mark : Nat → Nat) (h c v : Nat) (t : vT5) : vT5 := (va_up t.1 c v, va_up t.2.1 c h, va_up t.2.2.1 c (t.2.2.1 c ||| 2 ^ h), wS mark h c t.2.2.2.1, va_up t.2.2.2.2 4 (t.2.2.2.2 4 + 1))
def forn (own : Nat → Nat) (h c : Nat) : Nat := if own c = 0 ∨ own c = h + 1 then 0 else 1
def forb (own : Nat → Nat) (h kind sr tg : Nat) : Nat := if kind = 5 then (if sr = tg then 0 else if forn own h sr = 1 then 1 else forn own h tg) else forn own h tg
theorem forn_01 (own : Nat → Nat) (h c : Nat) : forn own h c = 0 ∨ forn own h c = 1 := by unfold forn; split <;> simp
theorem forb_01 (own : Nat → Nat) (h kind sr tg : Nat) : forb own h kind sr tg = 0 ∨ forb own h kind sr tg = 1 := by
  unfold forb
  split
  · split
    · exact Or.inl rfl
    · split
      · exact Or.inr rfl
      · exact forn_01 _ _ _
  · exact forn_01 _ _ _
/-- the unit's write -/
def wuC (mark : Nat → Nat) (h sr tg : Nat) (t : vT5) : vT5 :=
  if t.2.2.2.2 7 = 3 then wrC mark h tg (t.2.2.2.2 8) t
  else if t.2.2.2.2 7 = 4 then wrC mark h tg ((t.1 tg + t.2.2.2.2 8) % 100) t
  else if t.2.2.2.2 7 = 1 ∨ t.2.2.2.2 7 = 2 then wrC mark h tg (t.1 sr) t
  else if sr = tg then t else wrC mark h tg (t.1 sr) (wrC mark h sr (t.1 tg) t)
def chC (val q : Nat → Nat) : Nat → Nat := if 96 ≤ q 8 then qFail 3 q else qGo (if val (q 8) = q 9 then q 12 else q 5 + 6) q
def dI (q : Nat → Nat) : Nat := if q 7 = 2 then q 10 - 1 - q 6 else q 6
def dTg (q : Nat → Nat) : Nat := q 9 + (if q 7 = 3 ∨ q 7 = 4 then dI q * q 11 else dI q)
def dSr (q : Nat → Nat) : Nat := if q 7 = 3 ∨ q 7 = 4 then dTg q else q 8 + dI q
def sQ (f : (Nat → Nat) → Nat → Nat) (t : vT5) : vT5 := (t.1, t.2.1, t.2.2.1, t.2.2.2.1, f t.2.2.2.2)
def qNext (q : Nat → Nat) : Nat → Nat := if q 6 + 1 < q 10 then va_up q 6 (q 6 + 1) else qGo (q 12) (va_up q 6 (q 6 + 1))
/-- a unit of an order of the kinds 1 to 5 -/
def unC (own mark : Nat → Nat) (h : Nat) (t : vT5) : vT5 :=
  if 96 ≤ dSr t.2.2.2.2 ∨ 96 ≤ dTg t.2.2.2.2 then sQ (qFail 3) t
  else if forb own h (t.2.2.2.2 7) (dSr t.2.2.2.2) (dTg t.2.2.2.2) = 1 then sQ (qFail 4) t
  else sQ qNext (wuC mark h (dSr t.2.2.2.2) (dTg t.2.2.2.2) t)
def duC (own mark : Nat → Nat) (h : Nat) (t : vT5) : vT5 := if t.2.2.2.2 7 = 6 then sQ (chC t.1) t else unC own mark h t

abbrev rX2_write : Room := { frames := 0, cells := 0, slots := 0, locals := 0 }
theorem vy_X2_write : vY yX2_write wsX2_write cX2_write 4 none 3 := ⟨⟨_, rfl⟩, by decide +kernel, by decide +kernel, by decide +kernel⟩
theorem fl_X2_write_18 : Cond.fieldLink RX2 18 "OrderChains$Engine" "marks" "[I" ∈ wsX2_write := List.mem_of_getElem? (i := 1) rfl
theorem il_X2_write_X2 : ∀ w ∈ wsX20, w ∈ wsX2_write := fun _ h => List.mem_cons_of_mem _ (List.mem_append_left _ (List.mem_append_right _ h))
theorem fl_X2_write_9 : Cond.fieldLink RX2 9 "OrderChains$Engine" "values" "[I" ∈ wsX2_write := List.mem_of_getElem? (i := 4) rfl
theorem fl_X2_write_21 : Cond.fieldLink RX2 21 "OrderChains$Engine" "lastWriters" "[I" ∈ wsX2_write := List.mem_of_getElem? (i := 5) rfl
theorem fl_X2_write_43 : Cond.fieldLink RX2 43 "OrderChains$Engine" "writerBits" "[I" ∈ wsX2_write := List.mem_of_getElem? (i := 6) rfl
theorem fl_X2_write_40 : Cond.fieldLink RX2 40 "OrderChains$Engine" "writes" "I" ∈ wsX2_write := List.mem_of_getElem? (i := 7) rfl
theorem fl_X2_write_26 : Cond.fieldLink RX2 26 "OrderChains$Engine" "channels" "[LOrderChains$Channel;" ∈ wsX2_write := List.mem_of_getElem? (i := 8) rfl
theorem fl_X2_write_157 : Cond.fieldLink RX2 157 "OrderChains$Channel" "cellsWritten" "I" ∈ wsX2_write := List.mem_of_getElem? (i := 9) rfl
theorem il_X2_write_X1 : ∀ w ∈ wsX10, w ∈ wsX2_write := fun _ h => List.mem_cons_of_mem _ (List.mem_append_right _ h)
theorem fl_X2_write_37 : Cond.fieldLink RX2 37 "OrderChains$Engine" "edits" "I" ∈ wsX2_write := List.mem_of_getElem? (i := 2) rfl
theorem fl_X2_write_46 : Cond.fieldLink RX2 46 "OrderChains$Engine" "earliestEdit" "I" ∈ wsX2_write := List.mem_of_getElem? (i := 3) rfl
set_option maxHeartbeats 4000000 in
set_option maxRecDepth 100000 in
/-- Engine.write -/
theorem c_X2_write (l : Launch) (G : vG) (a own mark val lw bits s q : Nat → Nat) (h c v : Nat) (hh : h < 3) (hc : c < 96) (hm : mark c < 4294967296) (hs : s 4 < 4294967296) : Kc l G yX2_write wsX2_write rX2_write [.ref (a 0), .int (nI h), .int (nI c), .int (nI v)] [eO a s, iA G (a 1) 96 val, iA G (a 2) 96 own, iA G (a 3) 96 mark, iA G (a 4) 96 lw, eC G a, cX (a (6 + h)) q, iA G (a 9) 96 bits] (fun r Y => r = none ∧ Y = eW G a own mark h (wrC mark h c v (val, lw, bits, s, q))) 0 0 := by
  refine V_enter (own := RX2) [some (.ref (a 0)), some (.int (nI h)), some (.int (nI c)), some (.int (nI v))] (by decide +kernel) rfl rfl (Nat.le_of_ble_eq_true rfl) rfl (fun Γ hR hin => ?_)
  have hkc : 0 ≤ 0 := Nat.le_refl 0
  have hks : 0 ≤ 0 := Nat.le_refl 0
  refine V_aload_n (i := 0) dX2_write_0 rfl rfl ?_
  refine V_get (C := RX2) (T := TX2) (N := 11) (ci := 2) (q := 0) (ref := "OrderChains$Engine") 2 rfl il_X2_write_X2 rfl rfl fl_X2_write_18 rfl rfl dX2_write_1 ?_
  refine V_iload_n (i := 2) dX2_write_4 rfl rfl ?_
  refine V_iald (q := 3) rfl (by omega) rfl dX2_write_5 ?_
  refine V_iconst (v := 1) dX2_write_6 rfl ?_
  refine V_icmp_ne (tgt := 39) hm (by omega) dX2_write_7 rfl (fun h_7 => ?_) (fun h_7 => ?_)
  · refine V_aload_n (i := 0) dX2_write_39 rfl rfl ?_
    refine V_get (C := RX2) (T := TX2) (N := 11) (ci := 2) (q := 0) (ref := "OrderChains$Engine") 0 rfl il_X2_write_X2 rfl rfl fl_X2_write_9 rfl rfl dX2_write_40 ?_
    refine V_iload_n (i := 2) dX2_write_43 rfl rfl ?_
    refine V_iload_n (i := 3) dX2_write_44 rfl rfl ?_
    refine V_iast (q := 1) rfl (by omega) rfl dX2_write_45 ?_
    dsimp only [List.set_cons_zero, List.set_cons_succ]
    refine V_aload_n (i := 0) dX2_write_46 rfl rfl ?_
    refine V_get (C := RX2) (T := TX2) (N := 11) (ci := 2) (q := 0) (ref := "OrderChains$Engine") 3 rfl il_X2_write_X2 rfl rfl fl_X2_write_21 rfl rfl dX2_write_47 ?_
    refine V_iload_n (i := 2) dX2_write_50 rfl rfl ?_
    refine V_iload_n (i := 1) dX2_write_51 rfl rfl ?_
    refine V_iast (q := 4) rfl (by omega) rfl dX2_write_52 ?_
    dsimp only [List.set_cons_zero, List.set_cons_succ]
    refine V_aload_n (i := 0) dX2_write_53 rfl rfl ?_
    refine V_get (C := RX2) (T := TX2) (N := 11) (ci := 2) (q := 0) (ref := "OrderChains$Engine") 9 rfl il_X2_write_X2 rfl rfl fl_X2_write_43 rfl rfl dX2_write_54 ?_
    refine V_iload_n (i := 2) dX2_write_57 rfl rfl ?_
    refine V_dup2 dX2_write_58 rfl rfl ?_
    refine V_iald (q := 7) rfl (by omega) rfl dX2_write_59 ?_
    refine V_iconst (v := 1) dX2_write_60 rfl ?_
    refine V_iload_n (i := 1) dX2_write_61 rfl rfl ?_
    refine V_ishlG dX2_write_62 (nI_sh1 hh) ?_
    refine V_iorG dX2_write_63 (nI_or _ _) ?_
    refine V_iast (q := 7) rfl (by omega) rfl dX2_write_64 ?_
    dsimp only [List.set_cons_zero, List.set_cons_succ]
    refine V_aload_n (i := 0) dX2_write_65 rfl rfl ?_
    refine V_dup dX2_write_66 rfl ?_
    refine V_get (C := RX2) (T := TX2) (N := 11) (ci := 2) (q := 0) (ref := "OrderChains$Engine") 8 rfl il_X2_write_X2 rfl rfl fl_X2_write_40 rfl rfl dX2_write_67 ?_
    refine V_iconst (v := 1) dX2_write_70 rfl ?_
    refine V_iadd dX2_write_71 ?_
    refine V_put (C := RX2) (T := TX2) (N := 11) (ci := 2) (q := 0) (ref := "OrderChains$Engine") (ty := .int) (ty0 := tyX2) 8 rfl il_X2_write_X2 tyX2_ok nmX2 rfl rfl fl_X2_write_40 rfl rfl rfl rfl rfl rfl dX2_write_72 ?_
    dsimp only [List.set_cons_zero, List.set_cons_succ]
    refine V_aload_n (i := 0) dX2_write_75 rfl rfl ?_
    refine V_get (C := RX2) (T := TX2) (N := 11) (ci := 2) (q := 0) (ref := "OrderChains$Engine") 4 rfl il_X2_write_X2 rfl rfl fl_X2_write_26 rfl rfl dX2_write_76 ?_
    refine V_iload_n (i := 1) dX2_write_79 rfl rfl ?_
    refine V_aaldC (q := 5) rfl (by omega) rfl dX2_write_80 ?_
    refine V_dup dX2_write_81 rfl ?_
    refine V_get (C := RX1) (T := TX1) (N := 13) (ci := 1) (q := 6) (ref := "OrderChains$Channel") 4 rfl il_X2_write_X1 rfl rfl fl_X2_write_157 rfl rfl dX2_write_82 ?_
    refine V_iconst (v := 1) dX2_write_85 rfl ?_
    refine V_iadd dX2_write_86 ?_
    refine V_put (C := RX1) (T := TX1) (N := 13) (ci := 1) (q := 6) (ref := "OrderChains$Channel") (ty := .int) (ty0 := tyX1) 4 rfl il_X2_write_X1 tyX1_ok nmX1 rfl rfl fl_X2_write_157 rfl rfl rfl rfl rfl rfl dX2_write_87 ?_
    dsimp only [List.set_cons_zero, List.set_cons_succ]
    refine V_vret hR dX2_write_90 hkc hks ?_
    refine ⟨rfl, ?_⟩
    simp only [eW, wrC, wS]
    first | (rw [if_neg h_7]; rfl) | (rw [if_pos h_7, if_neg h_26]; rfl) | (rw [if_pos h_7, if_pos h_26]; rfl)
  · refine V_aload_n (i := 0) dX2_write_10 rfl rfl ?_
    refine V_dup dX2_write_11 rfl ?_
    refine V_get (C := RX2) (T := TX2) (N := 11) (ci := 2) (q := 0) (ref := "OrderChains$Engine") 7 rfl il_X2_write_X2 rfl rfl fl_X2_write_37 rfl rfl dX2_write_12 ?_
    refine V_iconst (v := 1) dX2_write_15 rfl ?_
    refine V_iadd dX2_write_16 ?_
    refine V_put (C := RX2) (T := TX2) (N := 11) (ci := 2) (q := 0) (ref := "OrderChains$Engine") (ty := .int) (ty0 := tyX2) 7 rfl il_X2_write_X2 tyX2_ok nmX2 rfl rfl fl_X2_write_37 rfl rfl rfl rfl rfl rfl dX2_write_17 ?_
    dsimp only [List.set_cons_zero, List.set_cons_succ]
    refine V_aload_n (i := 0) dX2_write_20 rfl rfl ?_
    refine V_get (C := RX2) (T := TX2) (N := 11) (ci := 2) (q := 0) (ref := "OrderChains$Engine") 10 rfl il_X2_write_X2 rfl rfl fl_X2_write_46 rfl rfl dX2_write_21 ?_
    refine V_bipush (v := 4294967287) dX2_write_24 (by decide) ?_
    refine V_icmp_ne (tgt := 39) hs (by omega) dX2_write_26 rfl (fun h_26 => ?_) (fun h_26 => ?_)
    · refine V_aload_n (i := 0) dX2_write_39 rfl rfl ?_
      refine V_get (C := RX2) (T := TX2) (N := 11) (ci := 2) (q := 0) (ref := "OrderChains$Engine") 0 rfl il_X2_write_X2 rfl rfl fl_X2_write_9 rfl rfl dX2_write_40 ?_
      refine V_iload_n (i := 2) dX2_write_43 rfl rfl ?_
      refine V_iload_n (i := 3) dX2_write_44 rfl rfl ?_
      refine V_iast (q := 1) rfl (by omega) rfl dX2_write_45 ?_
      dsimp only [List.set_cons_zero, List.set_cons_succ]
      refine V_aload_n (i := 0) dX2_write_46 rfl rfl ?_
      refine V_get (C := RX2) (T := TX2) (N := 11) (ci := 2) (q := 0) (ref := "OrderChains$Engine") 3 rfl il_X2_write_X2 rfl rfl fl_X2_write_21 rfl rfl dX2_write_47 ?_
      refine V_iload_n (i := 2) dX2_write_50 rfl rfl ?_
      refine V_iload_n (i := 1) dX2_write_51 rfl rfl ?_
      refine V_iast (q := 4) rfl (by omega) rfl dX2_write_52 ?_
      dsimp only [List.set_cons_zero, List.set_cons_succ]
      refine V_aload_n (i := 0) dX2_write_53 rfl rfl ?_
      refine V_get (C := RX2) (T := TX2) (N := 11) (ci := 2) (q := 0) (ref := "OrderChains$Engine") 9 rfl il_X2_write_X2 rfl rfl fl_X2_write_43 rfl rfl dX2_write_54 ?_
      refine V_iload_n (i := 2) dX2_write_57 rfl rfl ?_
      refine V_dup2 dX2_write_58 rfl rfl ?_
      refine V_iald (q := 7) rfl (by omega) rfl dX2_write_59 ?_
      refine V_iconst (v := 1) dX2_write_60 rfl ?_
      refine V_iload_n (i := 1) dX2_write_61 rfl rfl ?_
      refine V_ishlG dX2_write_62 (nI_sh1 hh) ?_
      refine V_iorG dX2_write_63 (nI_or _ _) ?_
      refine V_iast (q := 7) rfl (by omega) rfl dX2_write_64 ?_
      dsimp only [List.set_cons_zero, List.set_cons_succ]
      refine V_aload_n (i := 0) dX2_write_65 rfl rfl ?_
      refine V_dup dX2_write_66 rfl ?_
      refine V_get (C := RX2) (T := TX2) (N := 11) (ci := 2) (q := 0) (ref := "OrderChains$Engine") 8 rfl il_X2_write_X2 rfl rfl fl_X2_write_40 rfl rfl dX2_write_67 ?_
      refine V_iconst (v := 1) dX2_write_70 rfl ?_
      refine V_iadd dX2_write_71 ?_
      refine V_put (C := RX2) (T := TX2) (N := 11) (ci := 2) (q := 0) (ref := "OrderChains$Engine") (ty := .int) (ty0 := tyX2) 8 rfl il_X2_write_X2 tyX2_ok nmX2 rfl rfl fl_X2_write_40 rfl rfl rfl rfl rfl rfl dX2_write_72 ?_
      dsimp only [List.set_cons_zero, List.set_cons_succ]
      refine V_aload_n (i := 0) dX2_write_75 rfl rfl ?_
      refine V_get (C := RX2) (T := TX2) (N := 11) (ci := 2) (q := 0) (ref := "OrderChains$Engine") 4 rfl il_X2_write_X2 rfl rfl fl_X2_write_26 rfl rfl dX2_write_76 ?_
      refine V_iload_n (i := 1) dX2_write_79 rfl rfl ?_
      refine V_aaldC (q := 5) rfl (by omega) rfl dX2_write_80 ?_
      refine V_dup dX2_write_81 rfl ?_
      refine V_get (C := RX1) (T := TX1) (N := 13) (ci := 1) (q := 6) (ref := "OrderChains$Channel") 4 rfl il_X2_write_X1 rfl rfl fl_X2_write_157 rfl rfl dX2_write_82 ?_
      refine V_iconst (v := 1) dX2_write_85 rfl ?_
      refine V_iadd dX2_write_86 ?_
      refine V_put (C := RX1) (T := TX1) (N := 13) (ci := 1) (q := 6) (ref := "OrderChains$Channel") (ty := .int) (ty0 := tyX1) 4 rfl il_X2_write_X1 tyX1_ok nmX1 rfl rfl fl_X2_write_157 rfl rfl rfl rfl rfl rfl dX2_write_87 ?_
      dsimp only [List.set_cons_zero, List.set_cons_succ]
      refine V_vret hR dX2_write_90 hkc hks ?_
      refine ⟨rfl, ?_⟩
      simp only [eW, wrC, wS]
      first | (rw [if_neg h_7]; rfl) | (rw [if_pos h_7, if_neg h_26]; rfl) | (rw [if_pos h_7, if_pos h_26]; rfl)
    · refine V_aload_n (i := 0) dX2_write_29 rfl rfl ?_
      refine V_bipush (v := 100) dX2_write_30 (by decide) ?_
      refine V_iload_n (i := 1) dX2_write_32 rfl rfl ?_
      refine V_imul dX2_write_33 ?_
      refine V_iload_n (i := 2) dX2_write_34 rfl rfl ?_
      refine V_iadd dX2_write_35 ?_
      refine V_put (C := RX2) (T := TX2) (N := 11) (ci := 2) (q := 0) (ref := "OrderChains$Engine") (ty := .int) (ty0 := tyX2) 10 rfl il_X2_write_X2 tyX2_ok nmX2 rfl rfl fl_X2_write_46 rfl rfl rfl rfl rfl rfl dX2_write_36 ?_
      dsimp only [List.set_cons_zero, List.set_cons_succ]
      refine V_aload_n (i := 0) dX2_write_39 rfl rfl ?_
      refine V_get (C := RX2) (T := TX2) (N := 11) (ci := 2) (q := 0) (ref := "OrderChains$Engine") 0 rfl il_X2_write_X2 rfl rfl fl_X2_write_9 rfl rfl dX2_write_40 ?_
      refine V_iload_n (i := 2) dX2_write_43 rfl rfl ?_
      refine V_iload_n (i := 3) dX2_write_44 rfl rfl ?_
      refine V_iast (q := 1) rfl (by omega) rfl dX2_write_45 ?_
      dsimp only [List.set_cons_zero, List.set_cons_succ]
      refine V_aload_n (i := 0) dX2_write_46 rfl rfl ?_
      refine V_get (C := RX2) (T := TX2) (N := 11) (ci := 2) (q := 0) (ref := "OrderChains$Engine") 3 rfl il_X2_write_X2 rfl rfl fl_X2_write_21 rfl rfl dX2_write_47 ?_
      refine V_iload_n (i := 2) dX2_write_50 rfl rfl ?_
      refine V_iload_n (i := 1) dX2_write_51 rfl rfl ?_
      refine V_iast (q := 4) rfl (by omega) rfl dX2_write_52 ?_
      dsimp only [List.set_cons_zero, List.set_cons_succ]
      refine V_aload_n (i := 0) dX2_write_53 rfl rfl ?_
      refine V_get (C := RX2) (T := TX2) (N := 11) (ci := 2) (q := 0) (ref := "OrderChains$Engine") 9 rfl il_X2_write_X2 rfl rfl fl_X2_write_43 rfl rfl dX2_write_54 ?_
      refine V_iload_n (i := 2) dX2_write_57 rfl rfl ?_
      refine V_dup2 dX2_write_58 rfl rfl ?_
      refine V_iald (q := 7) rfl (by omega) rfl dX2_write_59 ?_
      refine V_iconst (v := 1) dX2_write_60 rfl ?_
      refine V_iload_n (i := 1) dX2_write_61 rfl rfl ?_
      refine V_ishlG dX2_write_62 (nI_sh1 hh) ?_
      refine V_iorG dX2_write_63 (nI_or _ _) ?_
      refine V_iast (q := 7) rfl (by omega) rfl dX2_write_64 ?_
      dsimp only [List.set_cons_zero, List.set_cons_succ]
      refine V_aload_n (i := 0) dX2_write_65 rfl rfl ?_
      refine V_dup dX2_write_66 rfl ?_
      refine V_get (C := RX2) (T := TX2) (N := 11) (ci := 2) (q := 0) (ref := "OrderChains$Engine") 8 rfl il_X2_write_X2 rfl rfl fl_X2_write_40 rfl rfl dX2_write_67 ?_
      refine V_iconst (v := 1) dX2_write_70 rfl ?_
      refine V_iadd dX2_write_71 ?_
      refine V_put (C := RX2) (T := TX2) (N := 11) (ci := 2) (q := 0) (ref := "OrderChains$Engine") (ty := .int) (ty0 := tyX2) 8 rfl il_X2_write_X2 tyX2_ok nmX2 rfl rfl fl_X2_write_40 rfl rfl rfl rfl rfl rfl dX2_write_72 ?_
      dsimp only [List.set_cons_zero, List.set_cons_succ]
      refine V_aload_n (i := 0) dX2_write_75 rfl rfl ?_
      refine V_get (C := RX2) (T := TX2) (N := 11) (ci := 2) (q := 0) (ref := "OrderChains$Engine") 4 rfl il_X2_write_X2 rfl rfl fl_X2_write_26 rfl rfl dX2_write_76 ?_
      refine V_iload_n (i := 1) dX2_write_79 rfl rfl ?_
      refine V_aaldC (q := 5) rfl (by omega) rfl dX2_write_80 ?_
      refine V_dup dX2_write_81 rfl ?_
      refine V_get (C := RX1) (T := TX1) (N := 13) (ci := 1) (q := 6) (ref := "OrderChains$Channel") 4 rfl il_X2_write_X1 rfl rfl fl_X2_write_157 rfl rfl dX2_write_82 ?_
      refine V_iconst (v := 1) dX2_write_85 rfl ?_
      refine V_iadd dX2_write_86 ?_
      refine V_put (C := RX1) (T := TX1) (N := 13) (ci := 1) (q := 6) (ref := "OrderChains$Channel") (ty := .int) (ty0 := tyX1) 4 rfl il_X2_write_X1 tyX1_ok nmX1 rfl rfl fl_X2_write_157 rfl rfl rfl rfl rfl rfl dX2_write_87 ?_
      dsimp only [List.set_cons_zero, List.set_cons_succ]
      refine V_vret hR dX2_write_90 hkc hks ?_
      refine ⟨rfl, ?_⟩
      simp only [eW, wrC, wS]
      first | (rw [if_neg h_7]; rfl) | (rw [if_pos h_7, if_neg h_26]; rfl) | (rw [if_pos h_7, if_pos h_26]; rfl)

abbrev rX2_isForeign : Room := { frames := 0, cells := 0, slots := 0, locals := 0 }
theorem vy_X2_isForeign : vY yX2_isForeign wsX2_isForeign cX2_isForeign 3 (some .boolean) 2 := ⟨⟨_, rfl⟩, by decide +kernel, by decide +kernel, by decide +kernel⟩
theorem fl_X2_isForeign_15 : Cond.fieldLink RX2 15 "OrderChains$Engine" "owners" "[I" ∈ wsX2_isForeign := List.mem_of_getElem? (i := 1) rfl
theorem il_X2_isForeign_X2 : ∀ w ∈ wsX20, w ∈ wsX2_isForeign := fun _ h => List.mem_cons_of_mem _ (List.mem_append_right _ h)
set_option maxHeartbeats 4000000 in
set_option maxRecDepth 100000 in
/-- Engine.isForeign -/
theorem c_X2_isForeign (l : Launch) (G : vG) (a own s : Nat → Nat) (h c : Nat) (hh : h < 3) (hc : c < 96) (ho : own c < 4294967296) : Kc l G yX2_isForeign wsX2_isForeign rX2_isForeign [.ref (a 0), .int (nI h), .int (nI c)] [eO a s, iA G (a 2) 96 own] (fun r Y => r = some (.int (nI (forn own h c))) ∧ Y = [eO a s, iA G (a 2) 96 own]) 0 0 := by
  refine V_enter (own := RX2) [some (.ref (a 0)), some (.int (nI h)), some (.int (nI c))] (by decide +kernel) rfl rfl (Nat.le_of_ble_eq_true rfl) rfl (fun Γ hR hin => ?_)
  have hkc : 0 ≤ 0 := Nat.le_refl 0
  have hks : 0 ≤ 0 := Nat.le_refl 0
  refine V_aload_n (i := 0) dX2_isForeign_0 rfl rfl ?_
  refine V_get (C := RX2) (T := TX2) (N := 11) (ci := 2) (q := 0) (ref := "OrderChains$Engine") 1 rfl il_X2_isForeign_X2 rfl rfl fl_X2_isForeign_15 rfl rfl dX2_isForeign_1 ?_
  refine V_iload_n (i := 2) dX2_isForeign_4 rfl rfl ?_
  refine V_iald (q := 1) rfl (by omega) rfl dX2_isForeign_5 ?_
  refine V_if_eq (tgt := 25) ho dX2_isForeign_6 rfl (fun h_6 => ?_) (fun h_6 => ?_)
  · refine V_iconst (v := 0) dX2_isForeign_25 rfl ?_
    refine V_zret hR dX2_isForeign_26 (by first | exact Or.inl rfl | exact Or.inr rfl | omega) hkc hks ?_
    refine ⟨?_, rfl⟩
    unfold forn
    first | (rw [if_pos (Or.inl h_6)]; done) | (rw [if_pos (Or.inr h_18)]; done) | (rw [if_neg (fun z => z.elim h_6 h_18)]; done)
  · refine V_aload_n (i := 0) dX2_isForeign_9 rfl rfl ?_
    refine V_get (C := RX2) (T := TX2) (N := 11) (ci := 2) (q := 0) (ref := "OrderChains$Engine") 1 rfl il_X2_isForeign_X2 rfl rfl fl_X2_isForeign_15 rfl rfl dX2_isForeign_10 ?_
    refine V_iload_n (i := 2) dX2_isForeign_13 rfl rfl ?_
    refine V_iald (q := 1) rfl (by omega) rfl dX2_isForeign_14 ?_
    refine V_iload_n (i := 1) dX2_isForeign_15 rfl rfl ?_
    refine V_iconst (v := 1) dX2_isForeign_16 rfl ?_
    refine V_iadd dX2_isForeign_17 ?_
    refine V_icmp_eq (tgt := 25) ho (by omega) dX2_isForeign_18 rfl (fun h_18 => ?_) (fun h_18 => ?_)
    · refine V_iconst (v := 0) dX2_isForeign_25 rfl ?_
      refine V_zret hR dX2_isForeign_26 (by first | exact Or.inl rfl | exact Or.inr rfl | omega) hkc hks ?_
      refine ⟨?_, rfl⟩
      unfold forn
      first | (rw [if_pos (Or.inl h_6)]; done) | (rw [if_pos (Or.inr h_18)]; done) | (rw [if_neg (fun z => z.elim h_6 h_18)]; done)
    · refine V_iconst (v := 1) dX2_isForeign_21 rfl ?_
      refine V_goto (tgt := 26) dX2_isForeign_22 rfl ?_
      refine V_zret hR dX2_isForeign_26 (by first | exact Or.inl rfl | exact Or.inr rfl | omega) hkc hks ?_
      refine ⟨?_, rfl⟩
      unfold forn
      first | (rw [if_pos (Or.inl h_6)]; done) | (rw [if_pos (Or.inr h_18)]; done) | (rw [if_neg (fun z => z.elim h_6 h_18)]; done)

abbrev rX2_isForbidden : Room := { frames := 1, cells := 0, slots := 0, locals := 22 }
theorem vy_X2_isForbidden : vY yX2_isForbidden wsX2_isForbidden cX2_isForbidden 4 (some .boolean) 3 := ⟨⟨_, rfl⟩, by decide +kernel, by decide +kernel, by decide +kernel⟩
theorem fl_X2_isForbidden_26 : Cond.fieldLink RX2 26 "OrderChains$Engine" "channels" "[LOrderChains$Channel;" ∈ wsX2_isForbidden := List.mem_of_getElem? (i := 1) rfl
theorem il_X2_isForbidden_X2 : ∀ w ∈ wsX20, w ∈ wsX2_isForbidden := fun _ h => List.mem_cons_of_mem _ (List.mem_append_left _ (List.mem_append_right _ h))
theorem fl_X2_isForbidden_109 : Cond.fieldLink RX2 109 "OrderChains$Channel" "kind" "I" ∈ wsX2_isForbidden := List.mem_of_getElem? (i := 2) rfl
theorem il_X2_isForbidden_X1 : ∀ w ∈ wsX10, w ∈ wsX2_isForbidden := fun _ h => List.mem_cons_of_mem _ (List.mem_append_right _ h)
set_option maxHeartbeats 4000000 in
set_option maxRecDepth 100000 in
/-- Engine.isForbidden -/
theorem c_X2_isForbidden (l : Launch) (G : vG) (a own s q : Nat → Nat) (h sr tg : Nat) (hh : h < 3) (hsr : sr < 96) (htg : tg < 96) (ho : ∀ k, k < 96 → own k < 4294967296) (h7 : q 7 < 4294967296) : Kc l G yX2_isForbidden wsX2_isForbidden rX2_isForbidden [.ref (a 0), .int (nI h), .int (nI sr), .int (nI tg)] [eO a s, iA G (a 2) 96 own, eC G a, cX (a (6 + h)) q] (fun r Y => r = some (.int (nI (forb own h (q 7) sr tg))) ∧ Y = [eO a s, iA G (a 2) 96 own, eC G a, cX (a (6 + h)) q]) 0 0 := by
  refine V_enter (own := RX2) [some (.ref (a 0)), some (.int (nI h)), some (.int (nI sr)), some (.int (nI tg))] (by decide +kernel) rfl rfl (Nat.le_of_ble_eq_true rfl) rfl (fun Γ hR hin => ?_)
  have hkc : 0 ≤ 0 := Nat.le_refl 0
  have hks : 0 ≤ 0 := Nat.le_refl 0
  refine V_aload_n (i := 0) dX2_isForbidden_0 rfl rfl ?_
  refine V_get (C := RX2) (T := TX2) (N := 11) (ci := 2) (q := 0) (ref := "OrderChains$Engine") 4 rfl il_X2_isForbidden_X2 rfl rfl fl_X2_isForbidden_26 rfl rfl dX2_isForbidden_1 ?_
  refine V_iload_n (i := 1) dX2_isForbidden_4 rfl rfl ?_
  refine V_aaldC (q := 2) rfl (by omega) rfl dX2_isForbidden_5 ?_
  refine V_get (C := RX1) (T := TX1) (N := 13) (ci := 1) (q := 3) (ref := "OrderChains$Channel") 7 rfl il_X2_isForbidden_X1 rfl rfl fl_X2_isForbidden_109 rfl rfl dX2_isForbidden_6 ?_
  refine V_iconst (v := 5) dX2_isForbidden_9 rfl ?_
  refine V_icmp_eq (tgt := 20) (by omega) (by omega) dX2_isForbidden_10 rfl (fun h_10 => ?_) (fun h_10 => ?_)
  · refine V_iload_n (i := 2) dX2_isForbidden_20 rfl rfl ?_
    refine V_iload_n (i := 3) dX2_isForbidden_21 rfl rfl ?_
    refine V_icmp_eq (tgt := 47) (by omega) (by omega) dX2_isForbidden_22 rfl (fun h_22 => ?_) (fun h_22 => ?_)
    · refine V_iconst (v := 0) dX2_isForbidden_47 rfl ?_
      refine V_zret hR dX2_isForbidden_48 (by first | exact Or.inl rfl | exact Or.inr rfl | omega) hkc hks ?_
      refine ⟨?_, rfl⟩
      unfold forb
      first | (rw [if_neg h_10]; done) | (rw [if_pos h_10, if_pos h_22]; done) | (rw [if_pos h_10, if_neg h_22, if_pos (by have := forn_01 own h sr; omega)]; done) | (rw [if_pos h_10, if_neg h_22, if_neg (by have := forn_01 own h sr; omega)]; have := forn_01 own h tg; rw [show forn own h tg = 0 by omega]; done) | (rw [if_pos h_10, if_neg h_22, if_neg (by have := forn_01 own h sr; omega)]; have := forn_01 own h tg; rw [show forn own h tg = 1 by omega]; done)
    · refine V_aload_n (i := 0) dX2_isForbidden_25 rfl rfl ?_
      refine V_iload_n (i := 1) dX2_isForbidden_26 rfl rfl ?_
      refine V_iload_n (i := 2) dX2_isForbidden_27 rfl rfl ?_
      refine V_callV (C := RX2) (q := 0) (ci := 2) (As := _) (rest := []) [0, 1] (c_X2_isForeign l G a own s h sr hh (by omega) (ho _ (by omega))) vy_X2_isForeign gX2_isForbidden_X2_isForeign rfl rfl rfl rfl rfl rfl rfl ⟨rfl, rfl⟩ ⟨rfl, rfl⟩ ⟨Nat.zero_le _, Nat.zero_le _⟩ rfl dX2_isForbidden_28 (fun v Y hE => ?_)
      obtain ⟨rfl, rfl⟩ := hE
      refine ⟨rfl, ?_⟩
      dsimp only [vfill, List.set_cons_zero, List.set_cons_succ, Option.toList, List.cons_append, List.nil_append, Nat.add_zero]
      refine V_if_ne (tgt := 43) (by have := forn_01 own h sr; omega) dX2_isForbidden_31 rfl (fun h_31 => ?_) (fun h_31 => ?_)
      · refine V_iconst (v := 1) dX2_isForbidden_43 rfl ?_
        refine V_goto (tgt := 48) dX2_isForbidden_44 rfl ?_
        refine V_zret hR dX2_isForbidden_48 (by first | exact Or.inl rfl | exact Or.inr rfl | omega) hkc hks ?_
        refine ⟨?_, rfl⟩
        unfold forb
        first | (rw [if_neg h_10]; done) | (rw [if_pos h_10, if_pos h_22]; done) | (rw [if_pos h_10, if_neg h_22, if_pos (by have := forn_01 own h sr; omega)]; done) | (rw [if_pos h_10, if_neg h_22, if_neg (by have := forn_01 own h sr; omega)]; have := forn_01 own h tg; rw [show forn own h tg = 0 by omega]; done) | (rw [if_pos h_10, if_neg h_22, if_neg (by have := forn_01 own h sr; omega)]; have := forn_01 own h tg; rw [show forn own h tg = 1 by omega]; done)
      · refine V_aload_n (i := 0) dX2_isForbidden_34 rfl rfl ?_
        refine V_iload_n (i := 1) dX2_isForbidden_35 rfl rfl ?_
        refine V_iload_n (i := 3) dX2_isForbidden_36 rfl rfl ?_
        refine V_callV (C := RX2) (q := 0) (ci := 2) (As := _) (rest := []) [0, 1] (c_X2_isForeign l G a own s h tg hh (by omega) (ho _ (by omega))) vy_X2_isForeign gX2_isForbidden_X2_isForeign rfl rfl rfl rfl rfl rfl rfl ⟨rfl, rfl⟩ ⟨rfl, rfl⟩ ⟨Nat.zero_le _, Nat.zero_le _⟩ rfl dX2_isForbidden_37 (fun v Y hE => ?_)
        obtain ⟨rfl, rfl⟩ := hE
        refine ⟨rfl, ?_⟩
        dsimp only [vfill, List.set_cons_zero, List.set_cons_succ, Option.toList, List.cons_append, List.nil_append, Nat.add_zero]
        refine V_if_eq (tgt := 47) (by have := forn_01 own h tg; omega) dX2_isForbidden_40 rfl (fun h_40 => ?_) (fun h_40 => ?_)
        · refine V_iconst (v := 0) dX2_isForbidden_47 rfl ?_
          refine V_zret hR dX2_isForbidden_48 (by first | exact Or.inl rfl | exact Or.inr rfl | omega) hkc hks ?_
          refine ⟨?_, rfl⟩
          unfold forb
          first | (rw [if_neg h_10]; done) | (rw [if_pos h_10, if_pos h_22]; done) | (rw [if_pos h_10, if_neg h_22, if_pos (by have := forn_01 own h sr; omega)]; done) | (rw [if_pos h_10, if_neg h_22, if_neg (by have := forn_01 own h sr; omega)]; have := forn_01 own h tg; rw [show forn own h tg = 0 by omega]; done) | (rw [if_pos h_10, if_neg h_22, if_neg (by have := forn_01 own h sr; omega)]; have := forn_01 own h tg; rw [show forn own h tg = 1 by omega]; done)
        · refine V_iconst (v := 1) dX2_isForbidden_43 rfl ?_
          refine V_goto (tgt := 48) dX2_isForbidden_44 rfl ?_
          refine V_zret hR dX2_isForbidden_48 (by first | exact Or.inl rfl | exact Or.inr rfl | omega) hkc hks ?_
          refine ⟨?_, rfl⟩
          unfold forb
          first | (rw [if_neg h_10]; done) | (rw [if_pos h_10, if_pos h_22]; done) | (rw [if_pos h_10, if_neg h_22, if_pos (by have := forn_01 own h sr; omega)]; done) | (rw [if_pos h_10, if_neg h_22, if_neg (by have := forn_01 own h sr; omega)]; have := forn_01 own h tg; rw [show forn own h tg = 0 by omega]; done) | (rw [if_pos h_10, if_neg h_22, if_neg (by have := forn_01 own h sr; omega)]; have := forn_01 own h tg; rw [show forn own h tg = 1 by omega]; done)
  · refine V_aload_n (i := 0) dX2_isForbidden_13 rfl rfl ?_
    refine V_iload_n (i := 1) dX2_isForbidden_14 rfl rfl ?_
    refine V_iload_n (i := 3) dX2_isForbidden_15 rfl rfl ?_
    refine V_callV (C := RX2) (q := 0) (ci := 2) (As := _) (rest := []) [0, 1] (c_X2_isForeign l G a own s h tg hh (by omega) (ho _ (by omega))) vy_X2_isForeign gX2_isForbidden_X2_isForeign rfl rfl rfl rfl rfl rfl rfl ⟨rfl, rfl⟩ ⟨rfl, rfl⟩ ⟨Nat.zero_le _, Nat.zero_le _⟩ rfl dX2_isForbidden_16 (fun v Y hE => ?_)
    obtain ⟨rfl, rfl⟩ := hE
    refine ⟨rfl, ?_⟩
    dsimp only [vfill, List.set_cons_zero, List.set_cons_succ, Option.toList, List.cons_append, List.nil_append, Nat.add_zero]
    refine V_zret hR dX2_isForbidden_19 (forn_01 own h tg) hkc hks ?_
    refine ⟨?_, rfl⟩
    unfold forb
    first | (rw [if_neg h_10]; done) | (rw [if_pos h_10, if_pos h_22]; done) | (rw [if_pos h_10, if_neg h_22, if_pos (by have := forn_01 own h sr; omega)]; done) | (rw [if_pos h_10, if_neg h_22, if_neg (by have := forn_01 own h sr; omega)]; have := forn_01 own h tg; rw [show forn own h tg = 0 by omega]; done) | (rw [if_pos h_10, if_neg h_22, if_neg (by have := forn_01 own h sr; omega)]; have := forn_01 own h tg; rw [show forn own h tg = 1 by omega]; done)

theorem wS_4 {mark s : Nat → Nat} {h c : Nat} (hs : s 4 < 4294967296) (hh : h < 3) (hc : c < 96) : wS mark h c s 4 < 4294967296 := by
  unfold wS
  rw [up_n (by decide)]
  split
  · split
    · rw [up_s]; omega
    · rw [up_n (by decide)]; exact hs
  · exact hs
abbrev rX2_writeUnit : Room := { frames := 1, cells := 0, slots := 0, locals := 23 }
theorem vy_X2_writeUnit : vY yX2_writeUnit wsX2_writeUnit cX2_writeUnit 6 none 3 := ⟨⟨_, rfl⟩, by decide +kernel, by decide +kernel, by decide +kernel⟩
theorem fl_X2_writeUnit_9 : Cond.fieldLink RX2 9 "OrderChains$Engine" "values" "[I" ∈ wsX2_writeUnit := List.mem_of_getElem? (i := 1) rfl
theorem il_X2_writeUnit_X2 : ∀ w ∈ wsX20, w ∈ wsX2_writeUnit := fun _ h => List.mem_cons_of_mem _ (List.mem_append_left _ (List.mem_append_right _ h))
theorem fl_X2_writeUnit_26 : Cond.fieldLink RX2 26 "OrderChains$Engine" "channels" "[LOrderChains$Channel;" ∈ wsX2_writeUnit := List.mem_of_getElem? (i := 2) rfl
theorem fl_X2_writeUnit_109 : Cond.fieldLink RX2 109 "OrderChains$Channel" "kind" "I" ∈ wsX2_writeUnit := List.mem_of_getElem? (i := 3) rfl
theorem il_X2_writeUnit_X1 : ∀ w ∈ wsX10, w ∈ wsX2_writeUnit := fun _ h => List.mem_cons_of_mem _ (List.mem_append_right _ h)
theorem fl_X2_writeUnit_136 : Cond.fieldLink RX2 136 "OrderChains$Channel" "from" "I" ∈ wsX2_writeUnit := List.mem_of_getElem? (i := 4) rfl
set_option maxHeartbeats 4000000 in
set_option maxRecDepth 100000 in
/-- Engine.writeUnit -/
theorem c_X2_writeUnit (l : Launch) (G : vG) (a own mark val lw bits s q : Nat → Nat) (h sr tg : Nat) (hh : h < 3) (hsr : sr < 96) (htg : tg < 96) (hm : ∀ k, k < 96 → mark k < 4294967296) (hs : s 4 < 4294967296) (h7 : q 7 < 100) (h8 : q 8 < 100) (hv : ∀ k, k < 96 → val k < 100) : Kc l G yX2_writeUnit wsX2_writeUnit rX2_writeUnit [.ref (a 0), .int (nI h), .int (nI sr), .int (nI tg)] [eO a s, iA G (a 1) 96 val, iA G (a 2) 96 own, iA G (a 3) 96 mark, iA G (a 4) 96 lw, eC G a, cX (a (6 + h)) q, iA G (a 9) 96 bits] (fun r Y => r = none ∧ Y = eW G a own mark h (wuC mark h sr tg (val, lw, bits, s, q))) 0 0 := by
  refine V_enter (own := RX2) [some (.ref (a 0)), some (.int (nI h)), some (.int (nI sr)), some (.int (nI tg)), none, none] (by decide +kernel) rfl rfl (Nat.le_of_ble_eq_true rfl) rfl (fun Γ hR hin => ?_)
  have hkc : 0 ≤ 0 := Nat.le_refl 0
  have hks : 0 ≤ 0 := Nat.le_refl 0
  refine V_aload_n (i := 0) dX2_writeUnit_0 rfl rfl ?_
  refine V_get (C := RX2) (T := TX2) (N := 11) (ci := 2) (q := 0) (ref := "OrderChains$Engine") 0 rfl il_X2_writeUnit_X2 rfl rfl fl_X2_writeUnit_9 rfl rfl dX2_writeUnit_1 ?_
  refine V_iload_n (i := 2) dX2_writeUnit_4 rfl rfl ?_
  refine V_iald (q := 1) rfl (by omega) rfl dX2_writeUnit_5 ?_
  refine V_istore (i := 4) dX2_writeUnit_6 rfl rfl ?_
  dsimp only [List.set_cons_zero, List.set_cons_succ]
  refine V_aload_n (i := 0) dX2_writeUnit_8 rfl rfl ?_
  refine V_get (C := RX2) (T := TX2) (N := 11) (ci := 2) (q := 0) (ref := "OrderChains$Engine") 0 rfl il_X2_writeUnit_X2 rfl rfl fl_X2_writeUnit_9 rfl rfl dX2_writeUnit_9 ?_
  refine V_iload_n (i := 3) dX2_writeUnit_12 rfl rfl ?_
  refine V_iald (q := 1) rfl (by omega) rfl dX2_writeUnit_13 ?_
  refine V_istore (i := 5) dX2_writeUnit_14 rfl rfl ?_
  dsimp only [List.set_cons_zero, List.set_cons_succ]
  refine V_aload_n (i := 0) dX2_writeUnit_16 rfl rfl ?_
  refine V_get (C := RX2) (T := TX2) (N := 11) (ci := 2) (q := 0) (ref := "OrderChains$Engine") 4 rfl il_X2_writeUnit_X2 rfl rfl fl_X2_writeUnit_26 rfl rfl dX2_writeUnit_17 ?_
  refine V_iload_n (i := 1) dX2_writeUnit_20 rfl rfl ?_
  refine V_aaldC (q := 5) rfl (by omega) rfl dX2_writeUnit_21 ?_
  refine V_get (C := RX1) (T := TX1) (N := 13) (ci := 1) (q := 6) (ref := "OrderChains$Channel") 7 rfl il_X2_writeUnit_X1 rfl rfl fl_X2_writeUnit_109 rfl rfl dX2_writeUnit_22 ?_
  rcases (show q 7 = 1 ∨ q 7 = 2 ∨ q 7 = 3 ∨ q 7 = 4 ∨ (q 7 = 0 ∨ 4 < q 7) by omega) with e7 | e7 | e7 | e7 | e7
  · refine V_top (b := 1) e7 ?_
    refine V_tableIn (tgt := 98) dX2_writeUnit_25 (by omega) (by omega) (by omega) rfl rfl ?_
    refine V_aload_n (i := 0) dX2_writeUnit_98 rfl rfl ?_
    refine V_iload_n (i := 1) dX2_writeUnit_99 rfl rfl ?_
    refine V_iload_n (i := 3) dX2_writeUnit_100 rfl rfl ?_
    refine V_iload (i := 4) dX2_writeUnit_101 rfl ?_
    refine V_callV (C := RX2) (q := 0) (ci := 2) (As := _) (rest := []) [0, 1, 2, 3, 4, 5, 6, 7] (c_X2_write l G a own mark val lw bits s q h (tg) (val sr) hh (by omega) (hm _ (by omega)) hs) vy_X2_write gX2_writeUnit_X2_write rfl rfl rfl rfl rfl rfl rfl ⟨rfl, rfl⟩ ⟨rfl, rfl⟩ ⟨Nat.zero_le _, Nat.zero_le _⟩ rfl dX2_writeUnit_103 (fun v Y hE => ?_)
    obtain ⟨rfl, rfl⟩ := hE
    refine ⟨rfl, ?_⟩
    dsimp only [vfill, eW, wrC, List.set_cons_zero, List.set_cons_succ, Option.toList, List.cons_append, List.nil_append, Nat.add_zero]
    refine V_goto (tgt := 130) dX2_writeUnit_106 rfl ?_
    refine V_vret hR dX2_writeUnit_130 hkc hks ?_
    refine ⟨rfl, ?_⟩
    unfold wuC
    dsimp only
    first | (rw [if_neg (show ¬ q 7 = 3 by omega), if_neg (show ¬ q 7 = 4 by omega), if_pos (show q 7 = 1 ∨ q 7 = 2 by omega)]; rfl) | (rw [if_pos (show q 7 = 3 by omega)]; rfl) | (rw [if_neg (show ¬ q 7 = 3 by omega), if_pos (show q 7 = 4 by omega)]; rfl) | (rw [if_neg (show ¬ q 7 = 3 by omega), if_neg (show ¬ q 7 = 4 by omega), if_neg (show ¬ (q 7 = 1 ∨ q 7 = 2) by omega), if_pos (show sr = tg by omega)]; rfl) | (rw [if_neg (show ¬ q 7 = 3 by omega), if_neg (show ¬ q 7 = 4 by omega), if_neg (show ¬ (q 7 = 1 ∨ q 7 = 2) by omega), if_neg (show ¬ sr = tg by omega)]; rfl)
  · refine V_top (b := 2) e7 ?_
    refine V_tableIn (tgt := 98) dX2_writeUnit_25 (by omega) (by omega) (by omega) rfl rfl ?_
    refine V_aload_n (i := 0) dX2_writeUnit_98 rfl rfl ?_
    refine V_iload_n (i := 1) dX2_writeUnit_99 rfl rfl ?_
    refine V_iload_n (i := 3) dX2_writeUnit_100 rfl rfl ?_
    refine V_iload (i := 4) dX2_writeUnit_101 rfl ?_
    refine V_callV (C := RX2) (q := 0) (ci := 2) (As := _) (rest := []) [0, 1, 2, 3, 4, 5, 6, 7] (c_X2_write l G a own mark val lw bits s q h (tg) (val sr) hh (by omega) (hm _ (by omega)) hs) vy_X2_write gX2_writeUnit_X2_write rfl rfl rfl rfl rfl rfl rfl ⟨rfl, rfl⟩ ⟨rfl, rfl⟩ ⟨Nat.zero_le _, Nat.zero_le _⟩ rfl dX2_writeUnit_103 (fun v Y hE => ?_)
    obtain ⟨rfl, rfl⟩ := hE
    refine ⟨rfl, ?_⟩
    dsimp only [vfill, eW, wrC, List.set_cons_zero, List.set_cons_succ, Option.toList, List.cons_append, List.nil_append, Nat.add_zero]
    refine V_goto (tgt := 130) dX2_writeUnit_106 rfl ?_
    refine V_vret hR dX2_writeUnit_130 hkc hks ?_
    refine ⟨rfl, ?_⟩
    unfold wuC
    dsimp only
    first | (rw [if_neg (show ¬ q 7 = 3 by omega), if_neg (show ¬ q 7 = 4 by omega), if_pos (show q 7 = 1 ∨ q 7 = 2 by omega)]; rfl) | (rw [if_pos (show q 7 = 3 by omega)]; rfl) | (rw [if_neg (show ¬ q 7 = 3 by omega), if_pos (show q 7 = 4 by omega)]; rfl) | (rw [if_neg (show ¬ q 7 = 3 by omega), if_neg (show ¬ q 7 = 4 by omega), if_neg (show ¬ (q 7 = 1 ∨ q 7 = 2) by omega), if_pos (show sr = tg by omega)]; rfl) | (rw [if_neg (show ¬ q 7 = 3 by omega), if_neg (show ¬ q 7 = 4 by omega), if_neg (show ¬ (q 7 = 1 ∨ q 7 = 2) by omega), if_neg (show ¬ sr = tg by omega)]; rfl)
  · refine V_top (b := 3) e7 ?_
    refine V_tableIn (tgt := 56) dX2_writeUnit_25 (by omega) (by omega) (by omega) rfl rfl ?_
    refine V_aload_n (i := 0) dX2_writeUnit_56 rfl rfl ?_
    refine V_iload_n (i := 1) dX2_writeUnit_57 rfl rfl ?_
    refine V_iload_n (i := 3) dX2_writeUnit_58 rfl rfl ?_
    refine V_aload_n (i := 0) dX2_writeUnit_59 rfl rfl ?_
    refine V_get (C := RX2) (T := TX2) (N := 11) (ci := 2) (q := 0) (ref := "OrderChains$Engine") 4 rfl il_X2_writeUnit_X2 rfl rfl fl_X2_writeUnit_26 rfl rfl dX2_writeUnit_60 ?_
    refine V_iload_n (i := 1) dX2_writeUnit_63 rfl rfl ?_
    refine V_aaldC (q := 5) rfl (by omega) rfl dX2_writeUnit_64 ?_
    refine V_get (C := RX1) (T := TX1) (N := 13) (ci := 1) (q := 6) (ref := "OrderChains$Channel") 8 rfl il_X2_writeUnit_X1 rfl rfl fl_X2_writeUnit_136 rfl rfl dX2_writeUnit_65 ?_
    refine V_callV (C := RX2) (q := 0) (ci := 2) (As := _) (rest := []) [0, 1, 2, 3, 4, 5, 6, 7] (c_X2_write l G a own mark val lw bits s q h (tg) (q 8) hh (by omega) (hm _ (by omega)) hs) vy_X2_write gX2_writeUnit_X2_write rfl rfl rfl rfl rfl rfl rfl ⟨rfl, rfl⟩ ⟨rfl, rfl⟩ ⟨Nat.zero_le _, Nat.zero_le _⟩ rfl dX2_writeUnit_68 (fun v Y hE => ?_)
    obtain ⟨rfl, rfl⟩ := hE
    refine ⟨rfl, ?_⟩
    dsimp only [vfill, eW, wrC, List.set_cons_zero, List.set_cons_succ, Option.toList, List.cons_append, List.nil_append, Nat.add_zero]
    refine V_goto (tgt := 130) dX2_writeUnit_71 rfl ?_
    refine V_vret hR dX2_writeUnit_130 hkc hks ?_
    refine ⟨rfl, ?_⟩
    unfold wuC
    dsimp only
    first | (rw [if_neg (show ¬ q 7 = 3 by omega), if_neg (show ¬ q 7 = 4 by omega), if_pos (show q 7 = 1 ∨ q 7 = 2 by omega)]; rfl) | (rw [if_pos (show q 7 = 3 by omega)]; rfl) | (rw [if_neg (show ¬ q 7 = 3 by omega), if_pos (show q 7 = 4 by omega)]; rfl) | (rw [if_neg (show ¬ q 7 = 3 by omega), if_neg (show ¬ q 7 = 4 by omega), if_neg (show ¬ (q 7 = 1 ∨ q 7 = 2) by omega), if_pos (show sr = tg by omega)]; rfl) | (rw [if_neg (show ¬ q 7 = 3 by omega), if_neg (show ¬ q 7 = 4 by omega), if_neg (show ¬ (q 7 = 1 ∨ q 7 = 2) by omega), if_neg (show ¬ sr = tg by omega)]; rfl)
  · refine V_top (b := 4) e7 ?_
    refine V_tableIn (tgt := 74) dX2_writeUnit_25 (by omega) (by omega) (by omega) rfl rfl ?_
    refine V_aload_n (i := 0) dX2_writeUnit_74 rfl rfl ?_
    refine V_iload_n (i := 1) dX2_writeUnit_75 rfl rfl ?_
    refine V_iload_n (i := 3) dX2_writeUnit_76 rfl rfl ?_
    refine V_iload (i := 5) dX2_writeUnit_77 rfl ?_
    refine V_aload_n (i := 0) dX2_writeUnit_79 rfl rfl ?_
    refine V_get (C := RX2) (T := TX2) (N := 11) (ci := 2) (q := 0) (ref := "OrderChains$Engine") 4 rfl il_X2_writeUnit_X2 rfl rfl fl_X2_writeUnit_26 rfl rfl dX2_writeUnit_80 ?_
    refine V_iload_n (i := 1) dX2_writeUnit_83 rfl rfl ?_
    refine V_aaldC (q := 5) rfl (by omega) rfl dX2_writeUnit_84 ?_
    refine V_get (C := RX1) (T := TX1) (N := 13) (ci := 1) (q := 6) (ref := "OrderChains$Channel") 8 rfl il_X2_writeUnit_X1 rfl rfl fl_X2_writeUnit_136 rfl rfl dX2_writeUnit_85 ?_
    refine V_iadd dX2_writeUnit_88 ?_
    refine V_bipush (v := 100) dX2_writeUnit_89 (by decide) ?_
    refine V_irem dX2_writeUnit_91 (by have := hv tg htg; omega) (by have := hv tg htg; omega) (by have := hv tg htg; omega) ?_
    refine V_callV (C := RX2) (q := 0) (ci := 2) (As := _) (rest := []) [0, 1, 2, 3, 4, 5, 6, 7] (c_X2_write l G a own mark val lw bits s q h (tg) ((val tg + q 8) % 100) hh (by omega) (hm _ (by omega)) hs) vy_X2_write gX2_writeUnit_X2_write rfl rfl rfl rfl rfl rfl rfl ⟨rfl, rfl⟩ ⟨rfl, rfl⟩ ⟨Nat.zero_le _, Nat.zero_le _⟩ rfl dX2_writeUnit_92 (fun v Y hE => ?_)
    obtain ⟨rfl, rfl⟩ := hE
    refine ⟨rfl, ?_⟩
    dsimp only [vfill, eW, wrC, List.set_cons_zero, List.set_cons_succ, Option.toList, List.cons_append, List.nil_append, Nat.add_zero]
    refine V_goto (tgt := 130) dX2_writeUnit_95 rfl ?_
    refine V_vret hR dX2_writeUnit_130 hkc hks ?_
    refine ⟨rfl, ?_⟩
    unfold wuC
    dsimp only
    first | (rw [if_neg (show ¬ q 7 = 3 by omega), if_neg (show ¬ q 7 = 4 by omega), if_pos (show q 7 = 1 ∨ q 7 = 2 by omega)]; rfl) | (rw [if_pos (show q 7 = 3 by omega)]; rfl) | (rw [if_neg (show ¬ q 7 = 3 by omega), if_pos (show q 7 = 4 by omega)]; rfl) | (rw [if_neg (show ¬ q 7 = 3 by omega), if_neg (show ¬ q 7 = 4 by omega), if_neg (show ¬ (q 7 = 1 ∨ q 7 = 2) by omega), if_pos (show sr = tg by omega)]; rfl) | (rw [if_neg (show ¬ q 7 = 3 by omega), if_neg (show ¬ q 7 = 4 by omega), if_neg (show ¬ (q 7 = 1 ∨ q 7 = 2) by omega), if_neg (show ¬ sr = tg by omega)]; rfl)
  · skip
    refine V_tableOut (tgt := 109) dX2_writeUnit_25 (by rw [nI_sm (by omega)]; omega) rfl ?_
    refine V_iload_n (i := 2) dX2_writeUnit_109 rfl rfl ?_
    refine V_iload_n (i := 3) dX2_writeUnit_110 rfl rfl ?_
    refine V_icmp_eq (tgt := 130) (by omega) (by omega) dX2_writeUnit_111 rfl (fun h_111 => ?_) (fun h_111 => ?_)
    · refine V_vret hR dX2_writeUnit_130 hkc hks ?_
      refine ⟨rfl, ?_⟩
      unfold wuC
      dsimp only
      first | (rw [if_neg (show ¬ q 7 = 3 by omega), if_neg (show ¬ q 7 = 4 by omega), if_pos (show q 7 = 1 ∨ q 7 = 2 by omega)]; rfl) | (rw [if_pos (show q 7 = 3 by omega)]; rfl) | (rw [if_neg (show ¬ q 7 = 3 by omega), if_pos (show q 7 = 4 by omega)]; rfl) | (rw [if_neg (show ¬ q 7 = 3 by omega), if_neg (show ¬ q 7 = 4 by omega), if_neg (show ¬ (q 7 = 1 ∨ q 7 = 2) by omega), if_pos (show sr = tg by omega)]; rfl) | (rw [if_neg (show ¬ q 7 = 3 by omega), if_neg (show ¬ q 7 = 4 by omega), if_neg (show ¬ (q 7 = 1 ∨ q 7 = 2) by omega), if_neg (show ¬ sr = tg by omega)]; rfl)
    · refine V_aload_n (i := 0) dX2_writeUnit_114 rfl rfl ?_
      refine V_iload_n (i := 1) dX2_writeUnit_115 rfl rfl ?_
      refine V_iload_n (i := 2) dX2_writeUnit_116 rfl rfl ?_
      refine V_iload (i := 5) dX2_writeUnit_117 rfl ?_
      refine V_callV (C := RX2) (q := 0) (ci := 2) (As := _) (rest := []) [0, 1, 2, 3, 4, 5, 6, 7] (c_X2_write l G a own mark val lw bits s q h (sr) (val tg) hh (by omega) (hm _ (by omega)) hs) vy_X2_write gX2_writeUnit_X2_write rfl rfl rfl rfl rfl rfl rfl ⟨rfl, rfl⟩ ⟨rfl, rfl⟩ ⟨Nat.zero_le _, Nat.zero_le _⟩ rfl dX2_writeUnit_119 (fun v Y hE => ?_)
      obtain ⟨rfl, rfl⟩ := hE
      refine ⟨rfl, ?_⟩
      dsimp only [vfill, eW, wrC, List.set_cons_zero, List.set_cons_succ, Option.toList, List.cons_append, List.nil_append, Nat.add_zero]
      refine V_aload_n (i := 0) dX2_writeUnit_122 rfl rfl ?_
      refine V_iload_n (i := 1) dX2_writeUnit_123 rfl rfl ?_
      refine V_iload_n (i := 3) dX2_writeUnit_124 rfl rfl ?_
      refine V_iload (i := 4) dX2_writeUnit_125 rfl ?_
      refine V_callV (C := RX2) (q := 0) (ci := 2) (As := _) (rest := []) [0, 1, 2, 3, 4, 5, 6, 7] (c_X2_write l G a own mark (va_up val sr (val tg)) (va_up lw sr h) (va_up bits sr (bits sr ||| 2 ^ h)) (wS mark h sr s) (va_up q 4 (q 4 + 1)) h tg (val sr) hh htg (hm _ htg) (wS_4 hs hh hsr)) vy_X2_write gX2_writeUnit_X2_write rfl rfl rfl rfl rfl rfl rfl ⟨rfl, rfl⟩ ⟨rfl, rfl⟩ ⟨Nat.zero_le _, Nat.zero_le _⟩ rfl dX2_writeUnit_127 (fun v Y hE => ?_)
      obtain ⟨rfl, rfl⟩ := hE
      refine ⟨rfl, ?_⟩
      dsimp only [vfill, eW, wrC, List.set_cons_zero, List.set_cons_succ, Option.toList, List.cons_append, List.nil_append, Nat.add_zero]
      refine V_vret hR dX2_writeUnit_130 hkc hks ?_
      refine ⟨rfl, ?_⟩
      unfold wuC
      dsimp only
      first | (rw [if_neg (show ¬ q 7 = 3 by omega), if_neg (show ¬ q 7 = 4 by omega), if_pos (show q 7 = 1 ∨ q 7 = 2 by omega)]; rfl) | (rw [if_pos (show q 7 = 3 by omega)]; rfl) | (rw [if_neg (show ¬ q 7 = 3 by omega), if_pos (show q 7 = 4 by omega)]; rfl) | (rw [if_neg (show ¬ q 7 = 3 by omega), if_neg (show ¬ q 7 = 4 by omega), if_neg (show ¬ (q 7 = 1 ∨ q 7 = 2) by omega), if_pos (show sr = tg by omega)]; rfl) | (rw [if_neg (show ¬ q 7 = 3 by omega), if_neg (show ¬ q 7 = 4 by omega), if_neg (show ¬ (q 7 = 1 ∨ q 7 = 2) by omega), if_neg (show ¬ sr = tg by omega)]; rfl)

abbrev rX2_choose : Room := { frames := 2, cells := 0, slots := 0, locals := 42 }
theorem vy_X2_choose : vY yX2_choose wsX2_choose cX2_choose 3 none 1 := ⟨⟨_, rfl⟩, by decide +kernel, by decide +kernel, by decide +kernel⟩
theorem fl_X2_choose_136 : Cond.fieldLink RX2 136 "OrderChains$Channel" "from" "I" ∈ wsX2_choose := List.mem_of_getElem? (i := 1) rfl
theorem il_X2_choose_X1 : ∀ w ∈ wsX10, w ∈ wsX2_choose := fun _ h => List.mem_cons_of_mem _ (List.mem_append_left _ (List.mem_append_right _ h))
theorem fl_X2_choose_9 : Cond.fieldLink RX2 9 "OrderChains$Engine" "values" "[I" ∈ wsX2_choose := List.mem_of_getElem? (i := 2) rfl
theorem il_X2_choose_X2 : ∀ w ∈ wsX20, w ∈ wsX2_choose := fun _ h => List.mem_cons_of_mem _ (List.mem_append_right _ h)
theorem fl_X2_choose_130 : Cond.fieldLink RX2 130 "OrderChains$Channel" "to" "I" ∈ wsX2_choose := List.mem_of_getElem? (i := 3) rfl
theorem fl_X2_choose_147 : Cond.fieldLink RX2 147 "OrderChains$Channel" "place" "I" ∈ wsX2_choose := List.mem_of_getElem? (i := 5) rfl
theorem fl_X2_choose_118 : Cond.fieldLink RX2 118 "OrderChains$Channel" "next" "I" ∈ wsX2_choose := List.mem_of_getElem? (i := 4) rfl
set_option maxHeartbeats 4000000 in
set_option maxRecDepth 100000 in
/-- Engine.choose -/
theorem c_X2_choose (l : Launch) (G : vG) (a val s q : Nat → Nat) (b : Nat) (h5 : q 5 < 4294967296) (h8 : q 8 < 100) (h9 : q 9 < 100) (hv : ∀ k, k < 96 → val k < 100) : Kc l G yX2_choose wsX2_choose rX2_choose [.ref (a 0), .ref b] [eO a s, iA G (a 1) 96 val, cX b q] (fun r Y => r = none ∧ Y = [eO a s, iA G (a 1) 96 val, cX b (chC val q)]) 0 0 := by
  refine V_enter (own := RX2) [some (.ref (a 0)), some (.ref b), none] (by decide +kernel) rfl rfl (Nat.le_of_ble_eq_true rfl) rfl (fun Γ hR hin => ?_)
  have hkc : 0 ≤ 0 := Nat.le_refl 0
  have hks : 0 ≤ 0 := Nat.le_refl 0
  refine V_aload_n (i := 1) dX2_choose_0 rfl rfl ?_
  refine V_get (C := RX1) (T := TX1) (N := 13) (ci := 1) (q := 2) (ref := "OrderChains$Channel") 8 rfl il_X2_choose_X1 rfl rfl fl_X2_choose_136 rfl rfl dX2_choose_1 ?_
  refine V_bipush (v := 96) dX2_choose_4 (by decide) ?_
  refine V_icmp_lt (tgt := 15) (by omega) (by omega) dX2_choose_6 rfl (fun h_6 => ?_) (fun h_6 => ?_)
  · refine V_aload_n (i := 0) dX2_choose_15 rfl rfl ?_
    refine V_get (C := RX2) (T := TX2) (N := 11) (ci := 2) (q := 0) (ref := "OrderChains$Engine") 0 rfl il_X2_choose_X2 rfl rfl fl_X2_choose_9 rfl rfl dX2_choose_16 ?_
    refine V_aload_n (i := 1) dX2_choose_19 rfl rfl ?_
    refine V_get (C := RX1) (T := TX1) (N := 13) (ci := 1) (q := 2) (ref := "OrderChains$Channel") 8 rfl il_X2_choose_X1 rfl rfl fl_X2_choose_136 rfl rfl dX2_choose_20 ?_
    refine V_iald (q := 1) rfl (by omega) rfl dX2_choose_23 ?_
    refine V_aload_n (i := 1) dX2_choose_24 rfl rfl ?_
    refine V_get (C := RX1) (T := TX1) (N := 13) (ci := 1) (q := 2) (ref := "OrderChains$Channel") 9 rfl il_X2_choose_X1 rfl rfl fl_X2_choose_130 rfl rfl dX2_choose_25 ?_
    refine V_icmp_ne (tgt := 35) (by have := hv (q 8) (by omega); omega) (by have := hv (q 8) (by omega); omega) dX2_choose_28 rfl (fun h_28 => ?_) (fun h_28 => ?_)
    · refine V_iconst (v := 0) dX2_choose_35 rfl ?_
      refine V_istore_n (i := 2) dX2_choose_36 rfl rfl rfl ?_
      dsimp only [List.set_cons_zero, List.set_cons_succ]
      refine V_aload_n (i := 1) dX2_choose_37 rfl rfl ?_
      refine V_iload_n (i := 2) dX2_choose_38 rfl rfl ?_
      refine V_if_eq (tgt := 49) (by omega) dX2_choose_39 rfl (fun h_39 => ?_) (fun h_39 => ?_)
      · refine V_aload_n (i := 1) dX2_choose_49 rfl rfl ?_
        refine V_get (C := RX1) (T := TX1) (N := 13) (ci := 1) (q := 2) (ref := "OrderChains$Channel") 5 rfl il_X2_choose_X1 rfl rfl fl_X2_choose_147 rfl rfl dX2_choose_50 ?_
        refine V_bipush (v := 6) dX2_choose_53 (by decide) ?_
        refine V_iadd dX2_choose_55 ?_
        refine V_callV (C := RX1) (q := 0) (ci := 1) (As := _) (rest := []) [2] (c_X1_goOnAt l G b _ q) vy_X1_goOnAt gX2_choose_X1_goOnAt rfl rfl rfl rfl rfl rfl rfl ⟨rfl, rfl⟩ ⟨rfl, rfl⟩ ⟨Nat.zero_le _, Nat.zero_le _⟩ rfl dX2_choose_56 (fun v Y hE => ?_)
        obtain ⟨rfl, rfl⟩ := hE
        refine ⟨rfl, ?_⟩
        dsimp only [vfill, List.set_cons_zero, List.set_cons_succ, Option.toList, List.cons_append, List.nil_append, Nat.add_zero]
        refine V_vret hR dX2_choose_59 hkc hks ?_
        refine ⟨rfl, ?_⟩
        unfold chC
        first | (rw [if_pos (by omega)]; done) | (rw [if_neg (by omega), if_pos h_28]; done) | (rw [if_neg (by omega), if_neg h_28]; done)
      · exfalso; omega
    · refine V_iconst (v := 1) dX2_choose_31 rfl ?_
      refine V_goto (tgt := 36) dX2_choose_32 rfl ?_
      refine V_istore_n (i := 2) dX2_choose_36 rfl rfl rfl ?_
      dsimp only [List.set_cons_zero, List.set_cons_succ]
      refine V_aload_n (i := 1) dX2_choose_37 rfl rfl ?_
      refine V_iload_n (i := 2) dX2_choose_38 rfl rfl ?_
      refine V_if_eq (tgt := 49) (by omega) dX2_choose_39 rfl (fun h_39 => ?_) (fun h_39 => ?_)
      · exfalso; omega
      · refine V_aload_n (i := 1) dX2_choose_42 rfl rfl ?_
        refine V_get (C := RX1) (T := TX1) (N := 13) (ci := 1) (q := 2) (ref := "OrderChains$Channel") 12 rfl il_X2_choose_X1 rfl rfl fl_X2_choose_118 rfl rfl dX2_choose_43 ?_
        refine V_goto (tgt := 56) dX2_choose_46 rfl ?_
        refine V_callV (C := RX1) (q := 0) (ci := 1) (As := _) (rest := []) [2] (c_X1_goOnAt l G b _ q) vy_X1_goOnAt gX2_choose_X1_goOnAt rfl rfl rfl rfl rfl rfl rfl ⟨rfl, rfl⟩ ⟨rfl, rfl⟩ ⟨Nat.zero_le _, Nat.zero_le _⟩ rfl dX2_choose_56 (fun v Y hE => ?_)
        obtain ⟨rfl, rfl⟩ := hE
        refine ⟨rfl, ?_⟩
        dsimp only [vfill, List.set_cons_zero, List.set_cons_succ, Option.toList, List.cons_append, List.nil_append, Nat.add_zero]
        refine V_vret hR dX2_choose_59 hkc hks ?_
        refine ⟨rfl, ?_⟩
        unfold chC
        first | (rw [if_pos (by omega)]; done) | (rw [if_neg (by omega), if_pos h_28]; done) | (rw [if_neg (by omega), if_neg h_28]; done)
  · refine V_aload_n (i := 1) dX2_choose_9 rfl rfl ?_
    refine V_iconst (v := 3) dX2_choose_10 rfl ?_
    refine V_callV (C := RX1) (q := 0) (ci := 1) (As := _) (rest := []) [2] (c_X1_fail l G b 3 q) vy_X1_fail gX2_choose_X1_fail rfl rfl rfl rfl rfl rfl rfl ⟨rfl, rfl⟩ ⟨rfl, rfl⟩ ⟨Nat.zero_le _, Nat.zero_le _⟩ rfl dX2_choose_11 (fun v Y hE => ?_)
    obtain ⟨rfl, rfl⟩ := hE
    refine ⟨rfl, ?_⟩
    dsimp only [vfill, List.set_cons_zero, List.set_cons_succ, Option.toList, List.cons_append, List.nil_append, Nat.add_zero]
    refine V_vret hR dX2_choose_14 hkc hks ?_
    refine ⟨rfl, ?_⟩
    unfold chC
    first | (rw [if_pos (by omega)]; done) | (rw [if_neg (by omega), if_pos h_28]; done) | (rw [if_neg (by omega), if_neg h_28]; done)

end ENG2
