section TEXT2
theorem flK {w : va_W} {G : vG} {a : Nat → Nat} {e : vE} : [w, eK G a e].flatten = (w :: eX G a e).flatten := by
  show w ++ (eK G a e ++ []) = w ++ (eX G a e).flatten
  rw [List.append_nil]
  rfl
theorem c_X5_takesValueK (l : Launch) (G : vG) (b : Nat) (a : Nat → Nat) (x : vR) (p : Nat) (h2 : x.1 2 < 96) : Kc l G yX5_takesValue wsX5_takesValue rX5_takesValue [.ref b, .ref (a 0), .int (nI p)] [tR b x.1, eK G a x.2] (fun v Y => v = some (.int (nI 1)) ∧ Y = [tR b (va_up (va_up x.1 2 (x.1 2 + 1)) 0 1), eK G a (va_up x.2.1 (x.1 2) p, va_up x.2.2.1 (x.1 2) (x.1 3), x.2.2.2)]) 0 0 := by
  obtain ⟨r, val, own, mark, lw, bits, s, ch⟩ := x
  refine (c_X5_takesValue l G b r a val own mark lw bits s ch p h2).conv flK (fun v Y hE => ?_)
  obtain ⟨h1, rfl⟩ := hE
  exact ⟨_, flK, h1, rfl⟩
theorem c_X5_takesChannelK (l : Launch) (G : vG) (b : Nat) (a : Nat → Nat) (x : vR) (p : Nat) (hp : p < 10) (hc : ∀ h, h < 3 → x.2.2.2.2.2.2.2 h 0 < 4) : Kc l G yX5_takesChannel wsX5_takesChannel rX5_takesChannel [.ref b, .ref (a 0), .int (nI p)] [tR b x.1, eK G a x.2] (fun v Y => v = some (.int (nI (if p < 3 ∧ x.2.2.2.2.2.2.2 p 0 = 0 then 1 else 0))) ∧ Y = [tR b (if p < 3 ∧ x.2.2.2.2.2.2.2 p 0 = 0 then va_up (va_up x.1 4 p) 0 7 else x.1), eK G a x.2]) 0 0 := by
  obtain ⟨r, val, own, mark, lw, bits, s, ch⟩ := x
  refine (c_X5_takesChannel l G b r a val own mark lw bits s ch p hp hc).conv flK (fun v Y hE => ?_)
  obtain ⟨h1, rfl⟩ := hE
  exact ⟨_, flK, h1, rfl⟩
theorem c_X5_takesHeadK (l : Launch) (G : vG) (b : Nat) (a : Nat → Nat) (x : vR) (p : Nat) (hp : p < 100) (h4 : x.1 4 < 3) : Kc l G yX5_takesHead wsX5_takesHead rX5_takesHead [.ref b, .ref (a 0), .int (nI p)] [tR b x.1, eK G a x.2] (fun v Y => v = some (.int (nI (if p < 96 then 1 else 0))) ∧ Y = [tR b (if p < 96 then va_up x.1 0 1 else x.1), eK G a (x.2.1, x.2.2.1, x.2.2.2.1, x.2.2.2.2.1, x.2.2.2.2.2.1, x.2.2.2.2.2.2.1, if p < 96 then va_up x.2.2.2.2.2.2.2 (x.1 4) (qBegin p (x.2.2.2.2.2.2.2 (x.1 4))) else x.2.2.2.2.2.2.2)]) 0 0 := by
  obtain ⟨r, val, own, mark, lw, bits, s, ch⟩ := x
  refine (c_X5_takesHead l G b r a val own mark lw bits s ch p hp h4).conv flK (fun v Y hE => ?_)
  obtain ⟨h1, rfl⟩ := hE
  exact ⟨_, flK, h1, rfl⟩
theorem c_X2_resetK (l : Launch) (G : vG) (a : Nat → Nat) (e : vE) : Kc l G yX2_reset wsX2_reset rX2_reset [.ref (a 0)] [eK G a e] (fun v Y => v = none ∧ Y = [eK G a (rsC e)]) 0 0 := by
  obtain ⟨val, own, mark, lw, bits, s, ch⟩ := e
  refine (c_X2_reset l G a val own mark lw bits s ch).conv (by rfl) (fun v Y hE => ?_)
  obtain ⟨h1, rfl⟩ := hE
  exact ⟨_, by simp [eK], h1, rfl⟩
theorem eB_reset {e : vE} (he : eB e) : eB (rsC e) := by
  obtain ⟨val, own, mark, lw, bits, s, ch⟩ := e
  obtain ⟨hv, ho, hm, hb, hs0, hs4, hq⟩ := he
  refine ⟨fun k hk => ?_, fun k hk => ?_, fun k hk => ?_, hb, show 2 < 3 by decide, hs4, fun h hh => qB_reset (hq h hh)⟩
  · show fil 0 val k < 100
    unfold fil
    rw [if_pos hk]
    decide
  · show fil 0 own k < 4
    unfold fil
    rw [if_pos hk]
    decide
  · show fil 0 mark k < 2
    unfold fil
    rw [if_pos hk]
    decide
theorem rx_tD {d : Nat} {x : vR} (hd : d < 10) (hr : rB x.1) (he : eB x.2) (h2 : 2 ≤ x.1 0) : rB (tD d x).2.1 ∧ eB (tD d x).2.2 := by
  obtain ⟨r, val, own, mark, lw, bits, s, ch⟩ := x
  obtain ⟨r0, r1, r2, r24, r3, r4⟩ := id hr
  obtain ⟨hv, ho, hm, hb, hs0, hs4, hq⟩ := id he
  dsimp only at r0 r1 r2 r24 r3 r4 hv ho hm hb hs0 hs4 hq h2
  unfold tD
  dsimp only
  split
  · exact ⟨⟨show 3 < 9 by decide, hd, r2, fun z => absurd z (show ¬ 3 = 4 by decide), r3, r4⟩, he⟩
  · split
    · split
      · rename_i hz
        exact ⟨⟨show 1 < 9 by decide, r1, Nat.le_of_lt hz, fun z => absurd z (show ¬ 1 = 4 by decide), r3, r4⟩, he⟩
      · exact ⟨hr, he⟩
    · split
      · rename_i h4
        have := r24 h4
        exact ⟨⟨show 1 < 9 by decide, r1, show r 2 + 1 ≤ 96 by omega, fun z => absurd z (show ¬ 1 = 4 by decide), r3, r4⟩, up_all hv (show 10 * r 1 + d < 100 by omega), up_all ho r3, hm, hb, hs0, hs4, hq⟩
      · split
        · split
          · rename_i hz
            exact ⟨⟨show 1 < 9 by decide, r1, r2, fun z => absurd z (show ¬ 1 = 4 by decide), hz, r4⟩, he⟩
          · exact ⟨hr, he⟩
        · split
          · split
            · rename_i hz
              exact ⟨⟨show 7 < 9 by decide, r1, r2, fun z => absurd z (show ¬ 7 = 4 by decide), r3, hz.1⟩, he⟩
            · exact ⟨hr, he⟩
          · split
            · exact ⟨⟨show 8 < 9 by decide, hd, r2, fun z => absurd z (show ¬ 8 = 4 by decide), r3, r4⟩, he⟩
            · split
              · rename_i hz
                exact ⟨⟨show 1 < 9 by decide, r1, r2, fun z => absurd z (show ¬ 1 = 4 by decide), r3, r4⟩, hv, ho, hm, hb, hs0, hs4, ch_all hq (qB_begin (hq _ r4) (show 10 * r 1 + d < 100 by omega))⟩
              · exact ⟨hr, he⟩
theorem rx_tFS {c : Nat} {r : Nat → Nat} (hr : rB r) : rB (tFS c r).2 := by
  obtain ⟨r0, r1, r2, r24, r3, r4⟩ := id hr
  unfold tFS
  split
  · exact ⟨show 2 < 9 by decide, r1, r2, fun z => absurd z (show ¬ 2 = 4 by decide), r3, r4⟩
  · split
    · exact ⟨show 5 < 9 by decide, r1, r2, fun z => absurd z (show ¬ 5 = 4 by decide), r3, r4⟩
    · split
      · exact ⟨show 6 < 9 by decide, r1, r2, fun z => absurd z (show ¬ 6 = 4 by decide), r3, r4⟩
      · split
        · rename_i hz
          exact ⟨show 4 < 9 by decide, show c - 48 < 10 by omega, r2, fun _ => hz.2.2, r3, r4⟩
        · exact hr
theorem rx_stT {c : Nat} {x : vR} (hr : rB x.1) (he : eB x.2) : rB (stT c x).2.1 ∧ eB (stT c x).2.2 := by
  unfold stT
  split
  · obtain ⟨r0, r1, r2, r24, r3, r4⟩ := hr
    exact ⟨⟨show 1 < 9 by decide, r1, r2, fun z => absurd z (show ¬ 1 = 4 by decide), r3, r4⟩, he⟩
  · split
    · exact ⟨rx_tFS hr, he⟩
    · split
      · exact rx_tD (by omega) hr he (by omega)
      · exact ⟨hr, he⟩
/-- the characters from 'at' on, k of them left -/
def psT (tx : Nat → Nat) : Nat → Nat → vR → Nat × vR
  | 0, at_, x => (if x.1 0 = 1 then 4294967287 else at_, x)
  | k + 1, at_, x => if (stT (tx at_) x).1 = 0 then (at_, (stT (tx at_) x).2) else psT tx k (at_ + 1) (stT (tx at_) x).2

abbrev rX5_takesDigit : Room := { frames := 3, cells := 0, slots := 0, locals := 64 }
theorem vy_X5_takesDigit : vY yX5_takesDigit wsX5_takesDigit cX5_takesDigit 3 (some .boolean) 2 := ⟨⟨_, rfl⟩, by decide +kernel, by decide +kernel, by decide +kernel⟩
theorem fl_X5_takesDigit_11 : Cond.fieldLink RX5 11 "OrderChains$TextReader" "expected" "I" ∈ wsX5_takesDigit := List.mem_of_getElem? (i := 1) rfl
theorem il_X5_takesDigit_X5 : ∀ w ∈ wsX50, w ∈ wsX5_takesDigit := fun _ h => List.mem_cons_of_mem _ (List.mem_append_left _ (List.mem_append_left _ (List.mem_append_right _ h)))
theorem fl_X5_takesDigit_15 : Cond.fieldLink RX5 15 "OrderChains$TextReader" "tens" "I" ∈ wsX5_takesDigit := List.mem_of_getElem? (i := 2) rfl
set_option maxHeartbeats 4000000 in
set_option maxRecDepth 100000 in
/-- TextReader.takesDigit -/
theorem c_X5_takesDigit (l : Launch) (G : vG) (b : Nat) (a : Nat → Nat) (x : vR) (d : Nat) (hd : d < 10) (hr : rB x.1) (he : eB x.2) (h2 : 2 ≤ x.1 0) : Kc l G yX5_takesDigit wsX5_takesDigit rX5_takesDigit [.ref b, .ref (a 0), .int (nI d)] [tR b x.1, eK G a x.2] (fun v Y => v = some (.int (nI (tD d x).1)) ∧ Y = [tR b (tD d x).2.1, eK G a (tD d x).2.2]) 0 0 := by
  refine V_enter (own := RX5) [some (.ref b), some (.ref (a 0)), some (.int (nI d))] (by decide +kernel) rfl rfl (Nat.le_of_ble_eq_true rfl) rfl (fun Γ hR hin => ?_)
  have hkc : 0 ≤ 0 := Nat.le_refl 0
  have hks : 0 ≤ 0 := Nat.le_refl 0
  refine V_aload_n (i := 0) dX5_takesDigit_0 rfl rfl ?_
  refine V_get (C := RX5) (T := TX5) (N := 5) (ci := 4) (q := 0) (ref := "OrderChains$TextReader") 0 rfl il_X5_takesDigit_X5 rfl rfl fl_X5_takesDigit_11 rfl rfl dX5_takesDigit_1 ?_
  have hr0 := hr.1
  have hr1 := hr.2.1
  have hr2 := hr.2.2.1
  have hr4 := hr.2.2.2.2.2
  rcases (show x.1 0 = 2 ∨ x.1 0 = 3 ∨ x.1 0 = 4 ∨ x.1 0 = 5 ∨ x.1 0 = 6 ∨ x.1 0 = 7 ∨ x.1 0 = 8 by omega) with e0 | e0 | e0 | e0 | e0 | e0 | e0
  · refine V_top (b := 2) e0 ?_
    refine V_tableIn (tgt := 44) dX5_takesDigit_4 (by omega) (by omega) (by omega) rfl rfl ?_
    refine V_aload_n (i := 0) dX5_takesDigit_44 rfl rfl ?_
    refine V_iload_n (i := 2) dX5_takesDigit_45 rfl rfl ?_
    refine V_put (C := RX5) (T := TX5) (N := 5) (ci := 4) (q := 0) (ref := "OrderChains$TextReader") (ty := .int) (ty0 := tyX5) 1 rfl il_X5_takesDigit_X5 tyX5_ok nmX5 rfl rfl fl_X5_takesDigit_15 rfl rfl rfl rfl rfl rfl dX5_takesDigit_46 ?_
    dsimp only [List.set_cons_zero, List.set_cons_succ]
    refine V_aload_n (i := 0) dX5_takesDigit_49 rfl rfl ?_
    refine V_iconst (v := 3) dX5_takesDigit_50 rfl ?_
    refine V_put (C := RX5) (T := TX5) (N := 5) (ci := 4) (q := 0) (ref := "OrderChains$TextReader") (ty := .int) (ty0 := tyX5) 0 rfl il_X5_takesDigit_X5 tyX5_ok nmX5 rfl rfl fl_X5_takesDigit_11 rfl rfl rfl rfl rfl rfl dX5_takesDigit_51 ?_
    dsimp only [List.set_cons_zero, List.set_cons_succ]
    refine V_iconst (v := 1) dX5_takesDigit_54 rfl ?_
    refine V_zret hR dX5_takesDigit_55 (by first | exact Or.inl rfl | exact Or.inr rfl | omega) hkc hks ?_
    unfold tD
    simp only [e0, Nat.reduceEqDiff, if_true, if_false, reduceIte]
    first | exact ⟨rfl, rfl⟩ | (by_cases z : 10 * x.1 1 + d < 96 <;> refine ⟨?_, ?_⟩ <;> first | rfl | (simp only [if_pos z]; done) | (simp only [if_neg z]; done) | (simp only [if_pos z]; rfl) | (simp only [if_neg z]; rfl)) | (by_cases z : d < 4 <;> refine ⟨?_, ?_⟩ <;> first | rfl | (simp only [if_pos z]; done) | (simp only [if_neg z]; done) | (simp only [if_pos z]; rfl) | (simp only [if_neg z]; rfl)) | (by_cases z : d < 3 ∧ x.2.2.2.2.2.2.2 d 0 = 0 <;> refine ⟨?_, ?_⟩ <;> first | rfl | (simp only [if_pos z]; done) | (simp only [if_neg z]; done) | (simp only [if_pos z]; rfl) | (simp only [if_neg z]; rfl))
  · refine V_top (b := 3) e0 ?_
    refine V_tableIn (tgt := 56) dX5_takesDigit_4 (by omega) (by omega) (by omega) rfl rfl ?_
    refine V_aload_n (i := 0) dX5_takesDigit_56 rfl rfl ?_
    refine V_bipush (v := 10) dX5_takesDigit_57 (by decide) ?_
    refine V_aload_n (i := 0) dX5_takesDigit_59 rfl rfl ?_
    refine V_get (C := RX5) (T := TX5) (N := 5) (ci := 4) (q := 0) (ref := "OrderChains$TextReader") 1 rfl il_X5_takesDigit_X5 rfl rfl fl_X5_takesDigit_15 rfl rfl dX5_takesDigit_60 ?_
    refine V_imul dX5_takesDigit_63 ?_
    refine V_iload_n (i := 2) dX5_takesDigit_64 rfl rfl ?_
    refine V_iadd dX5_takesDigit_65 ?_
    refine V_callV (C := RX5) (q := 0) (ci := 4) (As := _) (rest := []) [0] (c_X5_takesCell l G b (10 * x.1 1 + d) x.1 (by omega)) vy_X5_takesCell gX5_takesDigit_X5_takesCell rfl rfl rfl rfl rfl rfl rfl ⟨rfl, rfl⟩ ⟨rfl, rfl⟩ ⟨Nat.zero_le _, Nat.zero_le _⟩ rfl dX5_takesDigit_66 (fun v Y hE => ?_)
    obtain ⟨rfl, rfl⟩ := hE
    refine ⟨rfl, ?_⟩
    dsimp only [vfill, List.set_cons_zero, List.set_cons_succ, Option.toList, List.cons_append, List.nil_append, Nat.add_zero]
    refine V_zret hR dX5_takesDigit_69 (by split <;> simp) hkc hks ?_
    unfold tD
    simp only [e0, Nat.reduceEqDiff, if_true, if_false, reduceIte]
    first | exact ⟨rfl, rfl⟩ | (by_cases z : 10 * x.1 1 + d < 96 <;> refine ⟨?_, ?_⟩ <;> first | rfl | (simp only [if_pos z]; done) | (simp only [if_neg z]; done) | (simp only [if_pos z]; rfl) | (simp only [if_neg z]; rfl)) | (by_cases z : d < 4 <;> refine ⟨?_, ?_⟩ <;> first | rfl | (simp only [if_pos z]; done) | (simp only [if_neg z]; done) | (simp only [if_pos z]; rfl) | (simp only [if_neg z]; rfl)) | (by_cases z : d < 3 ∧ x.2.2.2.2.2.2.2 d 0 = 0 <;> refine ⟨?_, ?_⟩ <;> first | rfl | (simp only [if_pos z]; done) | (simp only [if_neg z]; done) | (simp only [if_pos z]; rfl) | (simp only [if_neg z]; rfl))
  · refine V_top (b := 4) e0 ?_
    refine V_tableIn (tgt := 70) dX5_takesDigit_4 (by omega) (by omega) (by omega) rfl rfl ?_
    refine V_aload_n (i := 0) dX5_takesDigit_70 rfl rfl ?_
    refine V_aload_n (i := 1) dX5_takesDigit_71 rfl rfl ?_
    refine V_bipush (v := 10) dX5_takesDigit_72 (by decide) ?_
    refine V_aload_n (i := 0) dX5_takesDigit_74 rfl rfl ?_
    refine V_get (C := RX5) (T := TX5) (N := 5) (ci := 4) (q := 0) (ref := "OrderChains$TextReader") 1 rfl il_X5_takesDigit_X5 rfl rfl fl_X5_takesDigit_15 rfl rfl dX5_takesDigit_75 ?_
    refine V_imul dX5_takesDigit_78 ?_
    refine V_iload_n (i := 2) dX5_takesDigit_79 rfl rfl ?_
    refine V_iadd dX5_takesDigit_80 ?_
    refine V_callV (C := RX5) (q := 0) (ci := 4) (As := _) (rest := []) [0, 1] (c_X5_takesValueK l G b a x (10 * x.1 1 + d) (hr.2.2.2.1 e0)) vy_X5_takesValue gX5_takesDigit_X5_takesValue rfl rfl rfl rfl rfl rfl rfl ⟨rfl, rfl⟩ ⟨rfl, rfl⟩ ⟨Nat.zero_le _, Nat.zero_le _⟩ rfl dX5_takesDigit_81 (fun v Y hE => ?_)
    obtain ⟨rfl, rfl⟩ := hE
    refine ⟨rfl, ?_⟩
    dsimp only [vfill, List.set_cons_zero, List.set_cons_succ, Option.toList, List.cons_append, List.nil_append, Nat.add_zero]
    refine V_zret hR dX5_takesDigit_84 (by first | exact Or.inl rfl | exact Or.inr rfl | omega) hkc hks ?_
    unfold tD
    simp only [e0, Nat.reduceEqDiff, if_true, if_false, reduceIte]
    first | exact ⟨rfl, rfl⟩ | (by_cases z : 10 * x.1 1 + d < 96 <;> refine ⟨?_, ?_⟩ <;> first | rfl | (simp only [if_pos z]; done) | (simp only [if_neg z]; done) | (simp only [if_pos z]; rfl) | (simp only [if_neg z]; rfl)) | (by_cases z : d < 4 <;> refine ⟨?_, ?_⟩ <;> first | rfl | (simp only [if_pos z]; done) | (simp only [if_neg z]; done) | (simp only [if_pos z]; rfl) | (simp only [if_neg z]; rfl)) | (by_cases z : d < 3 ∧ x.2.2.2.2.2.2.2 d 0 = 0 <;> refine ⟨?_, ?_⟩ <;> first | rfl | (simp only [if_pos z]; done) | (simp only [if_neg z]; done) | (simp only [if_pos z]; rfl) | (simp only [if_neg z]; rfl))
  · refine V_top (b := 5) e0 ?_
    refine V_tableIn (tgt := 85) dX5_takesDigit_4 (by omega) (by omega) (by omega) rfl rfl ?_
    refine V_aload_n (i := 0) dX5_takesDigit_85 rfl rfl ?_
    refine V_iload_n (i := 2) dX5_takesDigit_86 rfl rfl ?_
    refine V_callV (C := RX5) (q := 0) (ci := 4) (As := _) (rest := []) [0] (c_X5_takesOwner l G b d x.1 hd) vy_X5_takesOwner gX5_takesDigit_X5_takesOwner rfl rfl rfl rfl rfl rfl rfl ⟨rfl, rfl⟩ ⟨rfl, rfl⟩ ⟨Nat.zero_le _, Nat.zero_le _⟩ rfl dX5_takesDigit_87 (fun v Y hE => ?_)
    obtain ⟨rfl, rfl⟩ := hE
    refine ⟨rfl, ?_⟩
    dsimp only [vfill, List.set_cons_zero, List.set_cons_succ, Option.toList, List.cons_append, List.nil_append, Nat.add_zero]
    refine V_zret hR dX5_takesDigit_90 (by split <;> simp) hkc hks ?_
    unfold tD
    simp only [e0, Nat.reduceEqDiff, if_true, if_false, reduceIte]
    first | exact ⟨rfl, rfl⟩ | (by_cases z : 10 * x.1 1 + d < 96 <;> refine ⟨?_, ?_⟩ <;> first | rfl | (simp only [if_pos z]; done) | (simp only [if_neg z]; done) | (simp only [if_pos z]; rfl) | (simp only [if_neg z]; rfl)) | (by_cases z : d < 4 <;> refine ⟨?_, ?_⟩ <;> first | rfl | (simp only [if_pos z]; done) | (simp only [if_neg z]; done) | (simp only [if_pos z]; rfl) | (simp only [if_neg z]; rfl)) | (by_cases z : d < 3 ∧ x.2.2.2.2.2.2.2 d 0 = 0 <;> refine ⟨?_, ?_⟩ <;> first | rfl | (simp only [if_pos z]; done) | (simp only [if_neg z]; done) | (simp only [if_pos z]; rfl) | (simp only [if_neg z]; rfl))
  · refine V_top (b := 6) e0 ?_
    refine V_tableIn (tgt := 91) dX5_takesDigit_4 (by omega) (by omega) (by omega) rfl rfl ?_
    refine V_aload_n (i := 0) dX5_takesDigit_91 rfl rfl ?_
    refine V_aload_n (i := 1) dX5_takesDigit_92 rfl rfl ?_
    refine V_iload_n (i := 2) dX5_takesDigit_93 rfl rfl ?_
    refine V_callV (C := RX5) (q := 0) (ci := 4) (As := _) (rest := []) [0, 1] (c_X5_takesChannelK l G b a x d hd (fun h hh => (he.2.2.2.2.2.2 h hh).1)) vy_X5_takesChannel gX5_takesDigit_X5_takesChannel rfl rfl rfl rfl rfl rfl rfl ⟨rfl, rfl⟩ ⟨rfl, rfl⟩ ⟨Nat.zero_le _, Nat.zero_le _⟩ rfl dX5_takesDigit_94 (fun v Y hE => ?_)
    obtain ⟨rfl, rfl⟩ := hE
    refine ⟨rfl, ?_⟩
    dsimp only [vfill, List.set_cons_zero, List.set_cons_succ, Option.toList, List.cons_append, List.nil_append, Nat.add_zero]
    refine V_zret hR dX5_takesDigit_97 (by split <;> simp) hkc hks ?_
    unfold tD
    simp only [e0, Nat.reduceEqDiff, if_true, if_false, reduceIte]
    first | exact ⟨rfl, rfl⟩ | (by_cases z : 10 * x.1 1 + d < 96 <;> refine ⟨?_, ?_⟩ <;> first | rfl | (simp only [if_pos z]; done) | (simp only [if_neg z]; done) | (simp only [if_pos z]; rfl) | (simp only [if_neg z]; rfl)) | (by_cases z : d < 4 <;> refine ⟨?_, ?_⟩ <;> first | rfl | (simp only [if_pos z]; done) | (simp only [if_neg z]; done) | (simp only [if_pos z]; rfl) | (simp only [if_neg z]; rfl)) | (by_cases z : d < 3 ∧ x.2.2.2.2.2.2.2 d 0 = 0 <;> refine ⟨?_, ?_⟩ <;> first | rfl | (simp only [if_pos z]; done) | (simp only [if_neg z]; done) | (simp only [if_pos z]; rfl) | (simp only [if_neg z]; rfl))
  · refine V_top (b := 7) e0 ?_
    refine V_tableIn (tgt := 98) dX5_takesDigit_4 (by omega) (by omega) (by omega) rfl rfl ?_
    refine V_aload_n (i := 0) dX5_takesDigit_98 rfl rfl ?_
    refine V_iload_n (i := 2) dX5_takesDigit_99 rfl rfl ?_
    refine V_put (C := RX5) (T := TX5) (N := 5) (ci := 4) (q := 0) (ref := "OrderChains$TextReader") (ty := .int) (ty0 := tyX5) 1 rfl il_X5_takesDigit_X5 tyX5_ok nmX5 rfl rfl fl_X5_takesDigit_15 rfl rfl rfl rfl rfl rfl dX5_takesDigit_100 ?_
    dsimp only [List.set_cons_zero, List.set_cons_succ]
    refine V_aload_n (i := 0) dX5_takesDigit_103 rfl rfl ?_
    refine V_bipush (v := 8) dX5_takesDigit_104 (by decide) ?_
    refine V_put (C := RX5) (T := TX5) (N := 5) (ci := 4) (q := 0) (ref := "OrderChains$TextReader") (ty := .int) (ty0 := tyX5) 0 rfl il_X5_takesDigit_X5 tyX5_ok nmX5 rfl rfl fl_X5_takesDigit_11 rfl rfl rfl rfl rfl rfl dX5_takesDigit_106 ?_
    dsimp only [List.set_cons_zero, List.set_cons_succ]
    refine V_iconst (v := 1) dX5_takesDigit_109 rfl ?_
    refine V_zret hR dX5_takesDigit_110 (by first | exact Or.inl rfl | exact Or.inr rfl | omega) hkc hks ?_
    unfold tD
    simp only [e0, Nat.reduceEqDiff, if_true, if_false, reduceIte]
    first | exact ⟨rfl, rfl⟩ | (by_cases z : 10 * x.1 1 + d < 96 <;> refine ⟨?_, ?_⟩ <;> first | rfl | (simp only [if_pos z]; done) | (simp only [if_neg z]; done) | (simp only [if_pos z]; rfl) | (simp only [if_neg z]; rfl)) | (by_cases z : d < 4 <;> refine ⟨?_, ?_⟩ <;> first | rfl | (simp only [if_pos z]; done) | (simp only [if_neg z]; done) | (simp only [if_pos z]; rfl) | (simp only [if_neg z]; rfl)) | (by_cases z : d < 3 ∧ x.2.2.2.2.2.2.2 d 0 = 0 <;> refine ⟨?_, ?_⟩ <;> first | rfl | (simp only [if_pos z]; done) | (simp only [if_neg z]; done) | (simp only [if_pos z]; rfl) | (simp only [if_neg z]; rfl))
  · refine V_top (b := 8) e0 ?_
    refine V_tableOut (tgt := 111) dX5_takesDigit_4 (Or.inr (by decide)) rfl ?_
    refine V_aload_n (i := 0) dX5_takesDigit_111 rfl rfl ?_
    refine V_aload_n (i := 1) dX5_takesDigit_112 rfl rfl ?_
    refine V_bipush (v := 10) dX5_takesDigit_113 (by decide) ?_
    refine V_aload_n (i := 0) dX5_takesDigit_115 rfl rfl ?_
    refine V_get (C := RX5) (T := TX5) (N := 5) (ci := 4) (q := 0) (ref := "OrderChains$TextReader") 1 rfl il_X5_takesDigit_X5 rfl rfl fl_X5_takesDigit_15 rfl rfl dX5_takesDigit_116 ?_
    refine V_imul dX5_takesDigit_119 ?_
    refine V_iload_n (i := 2) dX5_takesDigit_120 rfl rfl ?_
    refine V_iadd dX5_takesDigit_121 ?_
    refine V_callV (C := RX5) (q := 0) (ci := 4) (As := _) (rest := []) [0, 1] (c_X5_takesHeadK l G b a x (10 * x.1 1 + d) (by omega) hr4) vy_X5_takesHead gX5_takesDigit_X5_takesHead rfl rfl rfl rfl rfl rfl rfl ⟨rfl, rfl⟩ ⟨rfl, rfl⟩ ⟨Nat.zero_le _, Nat.zero_le _⟩ rfl dX5_takesDigit_122 (fun v Y hE => ?_)
    obtain ⟨rfl, rfl⟩ := hE
    refine ⟨rfl, ?_⟩
    dsimp only [vfill, List.set_cons_zero, List.set_cons_succ, Option.toList, List.cons_append, List.nil_append, Nat.add_zero]
    refine V_zret hR dX5_takesDigit_125 (by split <;> simp) hkc hks ?_
    unfold tD
    simp only [e0, Nat.reduceEqDiff, if_true, if_false, reduceIte]
    first | exact ⟨rfl, rfl⟩ | (by_cases z : 10 * x.1 1 + d < 96 <;> refine ⟨?_, ?_⟩ <;> first | rfl | (simp only [if_pos z]; done) | (simp only [if_neg z]; done) | (simp only [if_pos z]; rfl) | (simp only [if_neg z]; rfl)) | (by_cases z : d < 4 <;> refine ⟨?_, ?_⟩ <;> first | rfl | (simp only [if_pos z]; done) | (simp only [if_neg z]; done) | (simp only [if_pos z]; rfl) | (simp only [if_neg z]; rfl)) | (by_cases z : d < 3 ∧ x.2.2.2.2.2.2.2 d 0 = 0 <;> refine ⟨?_, ?_⟩ <;> first | rfl | (simp only [if_pos z]; done) | (simp only [if_neg z]; done) | (simp only [if_pos z]; rfl) | (simp only [if_neg z]; rfl))

abbrev rX5_takes : Room := { frames := 4, cells := 0, slots := 0, locals := 86 }
theorem vy_X5_takes : vY yX5_takes wsX5_takes cX5_takes 3 (some .boolean) 2 := ⟨⟨_, rfl⟩, by decide +kernel, by decide +kernel, by decide +kernel⟩
theorem fl_X5_takes_11 : Cond.fieldLink RX5 11 "OrderChains$TextReader" "expected" "I" ∈ wsX5_takes := List.mem_of_getElem? (i := 1) rfl
theorem il_X5_takes_X5 : ∀ w ∈ wsX50, w ∈ wsX5_takes := fun _ h => List.mem_cons_of_mem _ (List.mem_append_left _ (List.mem_append_left _ (List.mem_append_right _ h)))
set_option maxHeartbeats 4000000 in
set_option maxRecDepth 100000 in
/-- TextReader.takes -/
theorem c_X5_takes (l : Launch) (G : vG) (b : Nat) (a : Nat → Nat) (x : vR) (c : Nat) (hc : c < 256) (hr : rB x.1) (he : eB x.2) : Kc l G yX5_takes wsX5_takes rX5_takes [.ref b, .ref (a 0), .int (nI c)] [tR b x.1, eK G a x.2] (fun v Y => v = some (.int (nI (stT c x).1)) ∧ Y = [tR b (stT c x).2.1, eK G a (stT c x).2.2]) 0 0 := by
  refine V_enter (own := RX5) [some (.ref b), some (.ref (a 0)), some (.int (nI c))] (by decide +kernel) rfl rfl (Nat.le_of_ble_eq_true rfl) rfl (fun Γ hR hin => ?_)
  have hkc : 0 ≤ 0 := Nat.le_refl 0
  have hks : 0 ≤ 0 := Nat.le_refl 0
  refine V_aload_n (i := 0) dX5_takes_0 rfl rfl ?_
  refine V_get (C := RX5) (T := TX5) (N := 5) (ci := 4) (q := 0) (ref := "OrderChains$TextReader") 0 rfl il_X5_takes_X5 rfl rfl fl_X5_takes_11 rfl rfl dX5_takes_1 ?_
  refine V_if_ne (tgt := 24) (by have := hr.1; omega) dX5_takes_4 rfl (fun h_4 => ?_) (fun h_4 => ?_)
  · refine V_aload_n (i := 0) dX5_takes_24 rfl rfl ?_
    refine V_get (C := RX5) (T := TX5) (N := 5) (ci := 4) (q := 0) (ref := "OrderChains$TextReader") 0 rfl il_X5_takes_X5 rfl rfl fl_X5_takes_11 rfl rfl dX5_takes_25 ?_
    refine V_iconst (v := 1) dX5_takes_28 rfl ?_
    refine V_icmp_ne (tgt := 38) (by have := hr.1; omega) (by omega) dX5_takes_29 rfl (fun h_29 => ?_) (fun h_29 => ?_)
    · refine V_iload_n (i := 2) dX5_takes_38 rfl rfl ?_
      refine V_callS (As := _) (rest := []) [] (c_X5_isDigit l G c hc) vy_X5_isDigit gX5_takes_X5_isDigit rfl rfl rfl rfl ⟨rfl, rfl⟩ ⟨rfl, rfl⟩ ⟨Nat.zero_le _, Nat.zero_le _⟩ rfl dX5_takes_39 (fun v Y hE => ?_)
      obtain ⟨rfl, rfl⟩ := hE
      refine ⟨rfl, ?_⟩
      dsimp only [vfill, List.set_cons_zero, List.set_cons_succ, Option.toList, List.cons_append, List.nil_append, Nat.add_zero]
      refine V_if_eq (tgt := 61) (by split <;> decide) dX5_takes_42 rfl (fun h_42 => ?_) (fun h_42 => ?_)
      · refine V_iconst (v := 0) dX5_takes_61 rfl ?_
        refine V_zret hR dX5_takes_62 (by first | exact Or.inl rfl | exact Or.inr rfl | omega) hkc hks ?_
        unfold stT
        rw [if_neg h_4, if_neg h_29]
        first | (rw [if_neg (fun z => by rw [if_pos z] at h_42; exact absurd h_42 (by decide))]; exact ⟨rfl, rfl⟩) | (rw [if_pos hz]; have h01 := tD_01 (c - 48) x; exact ⟨by rw [show (tD (c - 48) x).1 = 0 by omega], rfl⟩) | (rw [if_pos hz]; have h01 := tD_01 (c - 48) x; exact ⟨by rw [show (tD (c - 48) x).1 = 1 by omega], rfl⟩)
      · have hz : 48 ≤ c ∧ c ≤ 57 := by
          by_cases z : 48 ≤ c ∧ c ≤ 57
          · exact z
          · rw [if_neg z] at h_42; exact absurd rfl h_42
        refine V_aload_n (i := 0) dX5_takes_45 rfl rfl ?_
        refine V_aload_n (i := 1) dX5_takes_46 rfl rfl ?_
        refine V_iload_n (i := 2) dX5_takes_47 rfl rfl ?_
        refine V_bipush (v := 48) dX5_takes_48 (by decide) ?_
        refine V_isub dX5_takes_50 (by omega) ?_
        refine V_callV (C := RX5) (q := 0) (ci := 4) (As := _) (rest := []) [0, 1] (c_X5_takesDigit l G b a x (c - 48) (by omega) hr he (by omega)) vy_X5_takesDigit gX5_takes_X5_takesDigit rfl rfl rfl rfl rfl rfl rfl ⟨rfl, rfl⟩ ⟨rfl, rfl⟩ ⟨Nat.zero_le _, Nat.zero_le _⟩ rfl dX5_takes_51 (fun v Y hE => ?_)
        obtain ⟨rfl, rfl⟩ := hE
        refine ⟨rfl, ?_⟩
        dsimp only [vfill, List.set_cons_zero, List.set_cons_succ, Option.toList, List.cons_append, List.nil_append, Nat.add_zero]
        refine V_if_eq (tgt := 61) (by have := tD_01 (c - 48) x; omega) dX5_takes_54 rfl (fun h_54 => ?_) (fun h_54 => ?_)
        · refine V_iconst (v := 0) dX5_takes_61 rfl ?_
          refine V_zret hR dX5_takes_62 (by first | exact Or.inl rfl | exact Or.inr rfl | omega) hkc hks ?_
          unfold stT
          rw [if_neg h_4, if_neg h_29]
          first | (rw [if_neg (fun z => by rw [if_pos z] at h_42; exact absurd h_42 (by decide))]; exact ⟨rfl, rfl⟩) | (rw [if_pos hz]; have h01 := tD_01 (c - 48) x; exact ⟨by rw [show (tD (c - 48) x).1 = 0 by omega], rfl⟩) | (rw [if_pos hz]; have h01 := tD_01 (c - 48) x; exact ⟨by rw [show (tD (c - 48) x).1 = 1 by omega], rfl⟩)
        · refine V_iconst (v := 1) dX5_takes_57 rfl ?_
          refine V_goto (tgt := 62) dX5_takes_58 rfl ?_
          refine V_zret hR dX5_takes_62 (by first | exact Or.inl rfl | exact Or.inr rfl | omega) hkc hks ?_
          unfold stT
          rw [if_neg h_4, if_neg h_29]
          first | (rw [if_neg (fun z => by rw [if_pos z] at h_42; exact absurd h_42 (by decide))]; exact ⟨rfl, rfl⟩) | (rw [if_pos hz]; have h01 := tD_01 (c - 48) x; exact ⟨by rw [show (tD (c - 48) x).1 = 0 by omega], rfl⟩) | (rw [if_pos hz]; have h01 := tD_01 (c - 48) x; exact ⟨by rw [show (tD (c - 48) x).1 = 1 by omega], rfl⟩)
    · refine V_aload_n (i := 0) dX5_takes_32 rfl rfl ?_
      refine V_iload_n (i := 2) dX5_takes_33 rfl rfl ?_
      refine V_callV (C := RX5) (q := 0) (ci := 4) (As := _) (rest := []) [0] (c_X5_takesFirstSign l G b c x.1 hc hr.2.2.1) vy_X5_takesFirstSign gX5_takes_X5_takesFirstSign rfl rfl rfl rfl rfl rfl rfl ⟨rfl, rfl⟩ ⟨rfl, rfl⟩ ⟨Nat.zero_le _, Nat.zero_le _⟩ rfl dX5_takes_34 (fun v Y hE => ?_)
      obtain ⟨rfl, rfl⟩ := hE
      refine ⟨rfl, ?_⟩
      dsimp only [vfill, List.set_cons_zero, List.set_cons_succ, Option.toList, List.cons_append, List.nil_append, Nat.add_zero]
      refine V_zret hR dX5_takes_37 (tFS_01 _ _) hkc hks ?_
      unfold stT
      rw [if_neg h_4, if_pos h_29]
      exact ⟨rfl, rfl⟩
  · refine V_aload_n (i := 0) dX5_takes_7 rfl rfl ?_
    refine V_iconst (v := 1) dX5_takes_8 rfl ?_
    refine V_put (C := RX5) (T := TX5) (N := 5) (ci := 4) (q := 0) (ref := "OrderChains$TextReader") (ty := .int) (ty0 := tyX5) 0 rfl il_X5_takes_X5 tyX5_ok nmX5 rfl rfl fl_X5_takes_11 rfl rfl rfl rfl rfl rfl dX5_takes_9 ?_
    dsimp only [List.set_cons_zero, List.set_cons_succ]
    refine V_iload_n (i := 2) dX5_takes_12 rfl rfl ?_
    refine V_bipush (v := 69) dX5_takes_13 (by decide) ?_
    refine V_icmp_ne (tgt := 22) (by omega) (by omega) dX5_takes_15 rfl (fun h_15 => ?_) (fun h_15 => ?_)
    · refine V_iconst (v := 0) dX5_takes_22 rfl ?_
      refine V_zret hR dX5_takes_23 (by first | exact Or.inl rfl | exact Or.inr rfl | omega) hkc hks ?_
      unfold stT
      rw [if_pos h_4]
      first | (rw [if_pos h_15]; exact ⟨rfl, rfl⟩) | (rw [if_neg h_15]; exact ⟨rfl, rfl⟩)
    · refine V_iconst (v := 1) dX5_takes_18 rfl ?_
      refine V_goto (tgt := 23) dX5_takes_19 rfl ?_
      refine V_zret hR dX5_takes_23 (by first | exact Or.inl rfl | exact Or.inr rfl | omega) hkc hks ?_
      unfold stT
      rw [if_pos h_4]
      first | (rw [if_pos h_15]; exact ⟨rfl, rfl⟩) | (rw [if_neg h_15]; exact ⟨rfl, rfl⟩)

theorem stT_01 (c : Nat) (x : vR) : (stT c x).1 = 0 ∨ (stT c x).1 = 1 := by
  unfold stT
  split
  · split
    · exact Or.inr rfl
    · exact Or.inl rfl
  · split
    · exact tFS_01 _ _
    · split
      · exact tD_01 _ _
      · exact Or.inl rfl
abbrev rX5_readInto : Room := { frames := 5, cells := 0, slots := 0, locals := 108 }
theorem vy_X5_readInto : vY yX5_readInto wsX5_readInto cX5_readInto 5 (some .int) 3 := ⟨⟨_, rfl⟩, by decide +kernel, by decide +kernel, by decide +kernel⟩
theorem fl_X5_readInto_11 : Cond.fieldLink RX5 11 "OrderChains$TextReader" "expected" "I" ∈ wsX5_readInto := List.mem_of_getElem? (i := 1) rfl
theorem il_X5_readInto_X5 : ∀ w ∈ wsX50, w ∈ wsX5_readInto := fun _ h => List.mem_cons_of_mem _ (List.mem_append_left _ (List.mem_append_left _ (List.mem_append_right _ h)))
theorem fl_X5_readInto_18 : Cond.fieldLink RX5 18 "OrderChains$TextReader" "nextCell" "I" ∈ wsX5_readInto := List.mem_of_getElem? (i := 2) rfl
theorem fl_X5_readInto_21 : Cond.fieldLink RX5 21 "OrderChains$TextReader" "owner" "I" ∈ wsX5_readInto := List.mem_of_getElem? (i := 3) rfl
set_option maxHeartbeats 4000000 in
set_option maxRecDepth 100000 in
/-- TextReader.readInto -/
theorem c_X5_readInto (l : Launch) (G : vG) (b ta : Nat) (a : Nat → Nat) (r tx : Nat → Nat) (e : vE) (n : Nat) (hn : n ≤ 140) (ht : ∀ k, k < 140 → tx k < 256) (hr : rB r) (he : eB e) : Kc l G yX5_readInto wsX5_readInto rX5_readInto [.ref b, .ref (a 0), .ref ta, .int (nI n)] [tR b r, eK G a e, iA G ta 140 tx] (fun v Y => v = some (.int (nI (psT tx n 0 ((va_up (va_up (va_up r 0 0) 2 0) 3 0), rsC e)).1)) ∧ Y = [tR b (psT tx n 0 ((va_up (va_up (va_up r 0 0) 2 0) 3 0), rsC e)).2.1, eK G a (psT tx n 0 ((va_up (va_up (va_up r 0 0) 2 0) 3 0), rsC e)).2.2, iA G ta 140 tx]) 0 0 := by
  refine V_enter (own := RX5) [some (.ref b), some (.ref (a 0)), some (.ref ta), some (.int (nI n)), none] (by decide +kernel) rfl rfl (Nat.le_of_ble_eq_true rfl) rfl (fun Γ hR hin => ?_)
  have hkc : 0 ≤ 0 := Nat.le_refl 0
  have hks : 0 ≤ 0 := Nat.le_refl 0
  have LP22 : ∀ (fuel : Nat) (k : Nat) (y : vR), n + 1 ≤ k + fuel → k ≤ n → rB y.1 → eB y.2 → psT tx n 0 ((va_up (va_up (va_up r 0 0) 2 0) 3 0), rsC e) = psT tx (n - k) k y → V l G (cX5_readInto, 5, wsX5_readInto, RX5, rX5_readInto) Γ 0 0 22 [some (.ref b), some (.ref (a 0)), some (.ref ta), some (.int (nI n)), some (.int (nI k))] [] [tR b y.1, eK G a y.2, iA G ta 140 tx] := by
    intro fuel
    induction fuel with
    | zero => intro k y hf hk hry hey hps; exact absurd hf (by omega)
    | succ fuel ih =>
      intro k y hf hk hry hey hps
      refine V_iload (i := 4) dX5_readInto_22 rfl ?_
      refine V_iload_n (i := 3) dX5_readInto_24 rfl rfl ?_
      refine V_icmp_ge (tgt := 56) (by omega) (by omega) dX5_readInto_25 rfl (fun h_25 => ?_) (fun h_25 => ?_)
      · refine V_aload_n (i := 0) dX5_readInto_56 rfl rfl ?_
        refine V_get (C := RX5) (T := TX5) (N := 5) (ci := 4) (q := 0) (ref := "OrderChains$TextReader") 0 rfl il_X5_readInto_X5 rfl rfl fl_X5_readInto_11 rfl rfl dX5_readInto_57 ?_
        refine V_iconst (v := 1) dX5_readInto_60 rfl ?_
        refine V_icmp_ne (tgt := 69) (by have := hry.1; omega) (by omega) dX5_readInto_61 rfl (fun h_61 => ?_) (fun h_61 => ?_)
        · refine V_iload_n (i := 3) dX5_readInto_69 rfl rfl ?_
          refine V_iret hR dX5_readInto_70 hkc hks ?_
          obtain rfl : n = k := by omega
          rw [hps, Nat.sub_self]
          first | (rw [show psT tx 0 n y = (4294967287, y) by show ((if _ then _ else _ : Nat), y) = _; rw [if_pos h_61]]; exact ⟨rfl, rfl⟩) | (rw [show psT tx 0 n y = (n, y) by show ((if _ then _ else _ : Nat), y) = _; rw [if_neg h_61]]; exact ⟨rfl, rfl⟩)
        · refine V_bipush (v := 4294967287) dX5_readInto_64 (by decide) ?_
          refine V_goto (tgt := 70) dX5_readInto_66 rfl ?_
          refine V_iret hR dX5_readInto_70 hkc hks ?_
          obtain rfl : n = k := by omega
          rw [hps, Nat.sub_self]
          first | (rw [show psT tx 0 n y = (4294967287, y) by show ((if _ then _ else _ : Nat), y) = _; rw [if_pos h_61]]; exact ⟨rfl, rfl⟩) | (rw [show psT tx 0 n y = (n, y) by show ((if _ then _ else _ : Nat), y) = _; rw [if_neg h_61]]; exact ⟨rfl, rfl⟩)
      · refine V_iload (i := 4) dX5_readInto_28 rfl ?_
        refine V_aload_n (i := 2) dX5_readInto_30 rfl rfl ?_
        refine V_alen (q := 2) (t := 0) rfl rfl dX5_readInto_31 ?_
        refine V_icmp_ge (tgt := 56) (by omega) (by omega) dX5_readInto_32 rfl (fun h_32 => ?_) (fun h_32 => ?_)
        · exfalso; omega
        · refine V_aload_n (i := 0) dX5_readInto_35 rfl rfl ?_
          refine V_aload_n (i := 1) dX5_readInto_36 rfl rfl ?_
          refine V_aload_n (i := 2) dX5_readInto_37 rfl rfl ?_
          refine V_iload (i := 4) dX5_readInto_38 rfl ?_
          refine V_iald (q := 2) rfl (by omega) rfl dX5_readInto_40 ?_
          refine V_callV (C := RX5) (q := 0) (ci := 4) (As := _) (rest := []) [0, 1] (c_X5_takes l G b a y (tx k) (ht k (by omega)) hry hey) vy_X5_takes gX5_readInto_X5_takes rfl rfl rfl rfl rfl rfl rfl ⟨rfl, rfl⟩ ⟨rfl, rfl⟩ ⟨Nat.zero_le _, Nat.zero_le _⟩ rfl dX5_readInto_41 (fun v Y hE => ?_)
          obtain ⟨rfl, rfl⟩ := hE
          refine ⟨rfl, ?_⟩
          dsimp only [vfill, List.set_cons_zero, List.set_cons_succ, Option.toList, List.cons_append, List.nil_append, Nat.add_zero]
          refine V_if_ne (tgt := 50) (by have : (stT (tx k) y).1 = 0 ∨ (stT (tx k) y).1 = 1 := stT_01 _ _; omega) dX5_readInto_44 rfl (fun h_44 => ?_) (fun h_44 => ?_)
          · refine V_iinc dX5_readInto_50 rfl (nI_1 _) rfl rfl ?_
            dsimp only [List.set_cons_zero, List.set_cons_succ]
            refine V_goto (tgt := 22) dX5_readInto_53 rfl ?_
            have hg := rx_stT (c := tx k) hry hey
            refine ih (k + 1) (stT (tx k) y).2 (by omega) (by omega) hg.1 hg.2 ?_
            rw [hps, show n - k = (n - (k + 1)) + 1 by omega]
            show (if _ then _ else _ : Nat × vR) = _
            rw [if_neg h_44]
          · refine V_iload (i := 4) dX5_readInto_47 rfl ?_
            refine V_iret hR dX5_readInto_49 hkc hks ?_
            rw [hps, show n - k = (n - (k + 1)) + 1 by omega]
            rw [show psT tx (n - (k + 1) + 1) k y = (k, (stT (tx k) y).2) from if_pos h_44]
            exact ⟨rfl, rfl⟩
  refine V_aload_n (i := 1) dX5_readInto_0 rfl rfl ?_
  refine V_callV (C := RX2) (q := 0) (ci := 2) (As := []) (rest := []) [1] (c_X2_resetK l G a e) vy_X2_reset gX5_readInto_X2_reset rfl rfl rfl rfl rfl rfl rfl ⟨rfl, rfl⟩ ⟨rfl, rfl⟩ ⟨Nat.zero_le _, Nat.zero_le _⟩ rfl dX5_readInto_1 (fun v Y hE => ?_)
  obtain ⟨rfl, rfl⟩ := hE
  refine ⟨rfl, ?_⟩
  dsimp only [vfill, List.set_cons_zero, List.set_cons_succ, Option.toList, List.cons_append, List.nil_append, Nat.add_zero]
  refine V_aload_n (i := 0) dX5_readInto_4 rfl rfl ?_
  refine V_iconst (v := 0) dX5_readInto_5 rfl ?_
  refine V_put (C := RX5) (T := TX5) (N := 5) (ci := 4) (q := 0) (ref := "OrderChains$TextReader") (ty := .int) (ty0 := tyX5) 0 rfl il_X5_readInto_X5 tyX5_ok nmX5 rfl rfl fl_X5_readInto_11 rfl rfl rfl rfl rfl rfl dX5_readInto_6 ?_
  dsimp only [List.set_cons_zero, List.set_cons_succ]
  refine V_aload_n (i := 0) dX5_readInto_9 rfl rfl ?_
  refine V_iconst (v := 0) dX5_readInto_10 rfl ?_
  refine V_put (C := RX5) (T := TX5) (N := 5) (ci := 4) (q := 0) (ref := "OrderChains$TextReader") (ty := .int) (ty0 := tyX5) 2 rfl il_X5_readInto_X5 tyX5_ok nmX5 rfl rfl fl_X5_readInto_18 rfl rfl rfl rfl rfl rfl dX5_readInto_11 ?_
  dsimp only [List.set_cons_zero, List.set_cons_succ]
  refine V_aload_n (i := 0) dX5_readInto_14 rfl rfl ?_
  refine V_iconst (v := 0) dX5_readInto_15 rfl ?_
  refine V_put (C := RX5) (T := TX5) (N := 5) (ci := 4) (q := 0) (ref := "OrderChains$TextReader") (ty := .int) (ty0 := tyX5) 3 rfl il_X5_readInto_X5 tyX5_ok nmX5 rfl rfl fl_X5_readInto_21 rfl rfl rfl rfl rfl rfl dX5_readInto_16 ?_
  dsimp only [List.set_cons_zero, List.set_cons_succ]
  refine V_iconst (v := 0) dX5_readInto_19 rfl ?_
  refine V_istore (i := 4) dX5_readInto_20 rfl rfl ?_
  dsimp only [List.set_cons_zero, List.set_cons_succ]
  exact LP22 (n + 1) 0 ((va_up (va_up (va_up r 0 0) 2 0) 3 0), rsC e) (by omega) (Nat.zero_le n) ⟨show 0 < 9 by decide, hr.2.1, show 0 ≤ 96 by decide, fun _ => show 0 < 96 by decide, show 0 < 4 by decide, hr.2.2.2.2.2⟩ (eB_reset he) rfl

end TEXT2
