section REF15
theorem rPt_1 (z r tx : Nat → Nat) : (rPt z r tx).2.1 1 = z 1 := by
  unfold rPt
  repeat' split
  all_goals first
    | rfl
    | (show va_up _ 6 _ 1 = _; rw [up_n (by decide)]; first | exact rTw_o (by decide) | exact (rTw_o (by decide)).trans (up_n (by decide)))
    | (show va_up _ 7 _ 1 = _; rw [up_n (by decide)]; exact (rDg_o (by decide)).trans (up_n (by decide)))
    | (show va_up _ 2 _ 1 = _; rw [up_n (by decide)]; exact (rDg_o (by decide)).trans (up_n (by decide)))
    | exact rTw_o (by decide)
    | exact (rTw_o (by decide)).trans (up_n (by decide))
    | exact (rDg_o (by decide)).trans (up_n (by decide))
    | exact (rTw_o (by decide)).trans ((rDg_o (by decide)).trans (up_n (by decide)))

def pOk (z r : Nat → Nat) : Prop := z 1 ≤ 140 ∧ z 2 ≤ z 1 ∧ z 6 ≤ 96 ∧ ∀ h, h < 3 → r (384 + 13 * h) < 4
theorem rDg_le {hi : Nat} {z tx : Nat → Nat} (h : z 2 ≤ z 1) : (rDg hi z tx).2 2 ≤ z 1 := by
  unfold rDg
  split
  · show va_up z 2 (z 2 + 1) 2 ≤ z 1
    rw [up_s]
    omega
  · exact h
theorem rTw_le {hi : Nat} {z tx : Nat → Nat} (h : z 2 ≤ z 1) : (rTw hi z tx).2 2 ≤ z 1 := by
  have a := rDg_le (hi := hi / 10) (tx := tx) h
  have a1 := rDg_1 (hi / 10) z tx
  unfold rTw
  repeat' split
  all_goals first
    | exact a
    | (have b := @rDg_le (hi % 10) (rDg (hi / 10) z tx).2 tx (by rw [a1]; exact a); rw [a1] at b; exact b)
    | (have b := @rDg_le 9 (rDg (hi / 10) z tx).2 tx (by rw [a1]; exact a); rw [a1] at b; exact b)
theorem rTw_ge (hi : Nat) (z tx : Nat → Nat) : z 2 ≤ (rTw hi z tx).2 2 := by
  have a := rDg_ge (hi / 10) z tx
  unfold rTw
  repeat' split
  all_goals first
    | exact a
    | exact Nat.le_trans a (rDg_ge _ _ _)
theorem rTw_s {hi : Nat} {z tx : Nat → Nat} (h : ¬ (rTw hi z tx).1 = 4294967287) : z 2 < (rTw hi z tx).2 2 := by
  have g := rTw_ge hi z tx
  by_cases c : z 2 < z 1 ∧ 48 ≤ tx (z 2) ∧ tx (z 2) ≤ 48 + hi / 10
  · have e : (rDg (hi / 10) z tx).2 2 = z 2 + 1 := by
      unfold rDg
      rw [if_pos c]
      show va_up z 2 (z 2 + 1) 2 = _
      exact up_s ..
    have k : (rDg (hi / 10) z tx).2 2 ≤ (rTw hi z tx).2 2 := by
      unfold rTw
      repeat' split
      all_goals first
        | exact Nat.le_refl _
        | exact rDg_ge _ _ _
    omega
  · refine absurd ?_ h
    have e : (rDg (hi / 10) z tx).1 = 4294967287 := by unfold rDg; rw [if_neg c]
    unfold rTw
    rw [if_pos e]
theorem rPt_ok {z r tx : Nat → Nat} (h : pOk z r) (hs : z 2 < z 1) : pOk (rPt z r tx).2.1 (rPt z r tx).2.2 ∧ ((rPt z r tx).1 = 0 ∨ ((rPt z r tx).1 = 1 ∧ z 2 < (rPt z r tx).2.1 2)) := by
  obtain ⟨p1, p2, p6, ps⟩ := id h
  have q1 : va_up z 2 (z 2 + 1) 1 = z 1 := up_n (by decide)
  have q2 : va_up z 2 (z 2 + 1) 2 = z 2 + 1 := up_s ..
  have q6 : va_up z 2 (z 2 + 1) 6 = z 6 := up_n (by decide)
  have le1 : va_up z 2 (z 2 + 1) 2 ≤ va_up z 2 (z 2 + 1) 1 := by rw [q1, q2]; omega
  unfold rPt
  split
  · split
    · have a1 : (rTw 99 z tx).2 1 = z 1 := rTw_o (by decide)
      have a6 : (rTw 99 z tx).2 6 = z 6 := rTw_o (by decide)
      have a2 := rTw_le (hi := 99) (tx := tx) p2
      have ag := rTw_ge 99 z tx
      split
      · refine ⟨⟨?_, ?_, ?_, ps⟩, Or.inl rfl⟩
        · show (rTw 99 z tx).2 1 ≤ 140
          omega
        · show (rTw 99 z tx).2 2 ≤ (rTw 99 z tx).2 1
          omega
        · show (rTw 99 z tx).2 6 ≤ 96
          omega
      · rename_i hw
        have gs := rTw_s hw
        refine ⟨⟨?_, ?_, ?_, fun k hk => ?_⟩, Or.inr ⟨rfl, ?_⟩⟩
        · show va_up (rTw 99 z tx).2 6 ((rTw 99 z tx).2 6 + 1) 1 ≤ 140
          rw [up_n (by decide)]; omega
        · show va_up (rTw 99 z tx).2 6 ((rTw 99 z tx).2 6 + 1) 2 ≤ va_up (rTw 99 z tx).2 6 ((rTw 99 z tx).2 6 + 1) 1
          rw [up_n (by decide), up_n (by decide)]; omega
        · show va_up (rTw 99 z tx).2 6 ((rTw 99 z tx).2 6 + 1) 6 ≤ 96
          rw [up_s]; omega
        · show va_up (va_up r ((rTw 99 z tx).2 6) (rTw 99 z tx).1) (96 + (rTw 99 z tx).2 6) ((rTw 99 z tx).2 7) (384 + 13 * k) < 4
          rw [up_n (by omega), up_n (by omega)]; exact ps k hk
        · show z 2 < va_up (rTw 99 z tx).2 6 ((rTw 99 z tx).2 6 + 1) 2
          rw [up_n (by decide)]; exact gs
    · exact ⟨h, Or.inl rfl⟩
  · split
    · have b1 : (rTw 95 (va_up z 2 (z 2 + 1)) tx).2 1 = z 1 := (rTw_o (by decide)).trans q1
      have b2 : (rTw 95 (va_up z 2 (z 2 + 1)) tx).2 2 ≤ z 1 := Nat.le_trans (rTw_le le1) (by rw [q1]; exact Nat.le_refl _)
      have b3 : z 2 + 1 ≤ (rTw 95 (va_up z 2 (z 2 + 1)) tx).2 2 := (by have := rTw_ge 95 (va_up z 2 (z 2 + 1)) tx; rw [q2] at this; exact this)
      have b6 : (rTw 95 (va_up z 2 (z 2 + 1)) tx).2 6 = z 6 := (rTw_o (by decide)).trans q6
      have b9 := rTw_lt (hi := 95) (z := (va_up z 2 (z 2 + 1))) (tx := tx) (by decide)
      split
      · exact ⟨⟨show (rTw 95 (va_up z 2 (z 2 + 1)) tx).2 1 ≤ 140 by omega, show (rTw 95 (va_up z 2 (z 2 + 1)) tx).2 2 ≤ (rTw 95 (va_up z 2 (z 2 + 1)) tx).2 1 by omega, show (rTw 95 (va_up z 2 (z 2 + 1)) tx).2 6 ≤ 96 by omega, ps⟩, Or.inl rfl⟩
      · refine ⟨⟨?_, ?_, ?_, ps⟩, Or.inr ⟨rfl, ?_⟩⟩
        · show va_up (rTw 95 (va_up z 2 (z 2 + 1)) tx).2 6 (rTw 95 (va_up z 2 (z 2 + 1)) tx).1 1 ≤ 140
          rw [up_n (by decide)]; omega
        · show va_up (rTw 95 (va_up z 2 (z 2 + 1)) tx).2 6 (rTw 95 (va_up z 2 (z 2 + 1)) tx).1 2 ≤ va_up (rTw 95 (va_up z 2 (z 2 + 1)) tx).2 6 (rTw 95 (va_up z 2 (z 2 + 1)) tx).1 1
          rw [up_n (by decide), up_n (by decide)]; omega
        · show va_up (rTw 95 (va_up z 2 (z 2 + 1)) tx).2 6 (rTw 95 (va_up z 2 (z 2 + 1)) tx).1 6 ≤ 96
          rw [up_s]; omega
        · show z 2 < va_up (rTw 95 (va_up z 2 (z 2 + 1)) tx).2 6 (rTw 95 (va_up z 2 (z 2 + 1)) tx).1 2
          rw [up_n (by decide)]; omega
    · split
      · have b1 : (rDg 3 (va_up z 2 (z 2 + 1)) tx).2 1 = z 1 := (rDg_o (by decide)).trans q1
        have b2 : (rDg 3 (va_up z 2 (z 2 + 1)) tx).2 2 ≤ z 1 := Nat.le_trans (rDg_le le1) (by rw [q1]; exact Nat.le_refl _)
        have b3 : z 2 + 1 ≤ (rDg 3 (va_up z 2 (z 2 + 1)) tx).2 2 := (by have := rDg_ge 3 (va_up z 2 (z 2 + 1)) tx; rw [q2] at this; exact this)
        have b6 : (rDg 3 (va_up z 2 (z 2 + 1)) tx).2 6 = z 6 := (rDg_o (by decide)).trans q6
        split
        · exact ⟨⟨show (rDg 3 (va_up z 2 (z 2 + 1)) tx).2 1 ≤ 140 by omega, show (rDg 3 (va_up z 2 (z 2 + 1)) tx).2 2 ≤ (rDg 3 (va_up z 2 (z 2 + 1)) tx).2 1 by omega, show (rDg 3 (va_up z 2 (z 2 + 1)) tx).2 6 ≤ 96 by omega, ps⟩, Or.inl rfl⟩
        · refine ⟨⟨?_, ?_, ?_, ps⟩, Or.inr ⟨rfl, ?_⟩⟩
          · show va_up (rDg 3 (va_up z 2 (z 2 + 1)) tx).2 7 (rDg 3 (va_up z 2 (z 2 + 1)) tx).1 1 ≤ 140
            rw [up_n (by decide)]; omega
          · show va_up (rDg 3 (va_up z 2 (z 2 + 1)) tx).2 7 (rDg 3 (va_up z 2 (z 2 + 1)) tx).1 2 ≤ va_up (rDg 3 (va_up z 2 (z 2 + 1)) tx).2 7 (rDg 3 (va_up z 2 (z 2 + 1)) tx).1 1
            rw [up_n (by decide), up_n (by decide)]; omega
          · show va_up (rDg 3 (va_up z 2 (z 2 + 1)) tx).2 7 (rDg 3 (va_up z 2 (z 2 + 1)) tx).1 6 ≤ 96
            rw [up_n (by decide)]; omega
          · show z 2 < va_up (rDg 3 (va_up z 2 (z 2 + 1)) tx).2 7 (rDg 3 (va_up z 2 (z 2 + 1)) tx).1 2
            rw [up_n (by decide)]; omega
      · split
        · have c1 : (rDg 2 (va_up z 2 (z 2 + 1)) tx).2 1 = z 1 := (rDg_o (by decide)).trans q1
          have c2 : (rDg 2 (va_up z 2 (z 2 + 1)) tx).2 2 ≤ z 1 := Nat.le_trans (rDg_le le1) (by rw [q1]; exact Nat.le_refl _)
          have c3 : z 2 + 1 ≤ (rDg 2 (va_up z 2 (z 2 + 1)) tx).2 2 := (by have := rDg_ge 2 (va_up z 2 (z 2 + 1)) tx; rw [q2] at this; exact this)
          have c6 : (rDg 2 (va_up z 2 (z 2 + 1)) tx).2 6 = z 6 := (rDg_o (by decide)).trans q6
          split
          · exact ⟨⟨show (rDg 2 (va_up z 2 (z 2 + 1)) tx).2 1 ≤ 140 by omega, show (rDg 2 (va_up z 2 (z 2 + 1)) tx).2 2 ≤ (rDg 2 (va_up z 2 (z 2 + 1)) tx).2 1 by omega, show (rDg 2 (va_up z 2 (z 2 + 1)) tx).2 6 ≤ 96 by omega, ps⟩, Or.inl rfl⟩
          · split
            · refine ⟨⟨?_, ?_, ?_, ps⟩, Or.inl rfl⟩
              · show va_up (rDg 2 (va_up z 2 (z 2 + 1)) tx).2 2 ((rDg 2 (va_up z 2 (z 2 + 1)) tx).2 2 - 1) 1 ≤ 140
                rw [up_n (by decide)]; omega
              · show va_up (rDg 2 (va_up z 2 (z 2 + 1)) tx).2 2 ((rDg 2 (va_up z 2 (z 2 + 1)) tx).2 2 - 1) 2 ≤ va_up (rDg 2 (va_up z 2 (z 2 + 1)) tx).2 2 ((rDg 2 (va_up z 2 (z 2 + 1)) tx).2 2 - 1) 1
                rw [up_s, up_n (by decide)]; omega
              · show va_up (rDg 2 (va_up z 2 (z 2 + 1)) tx).2 2 ((rDg 2 (va_up z 2 (z 2 + 1)) tx).2 2 - 1) 6 ≤ 96
                rw [up_n (by decide)]; omega
            · have b1 : (rTw 95 (rDg 2 (va_up z 2 (z 2 + 1)) tx).2 tx).2 1 = z 1 := (rTw_o (by decide)).trans c1
              have b2 : (rTw 95 (rDg 2 (va_up z 2 (z 2 + 1)) tx).2 tx).2 2 ≤ z 1 := Nat.le_trans (rTw_le (hi := 95) (z := (rDg 2 (va_up z 2 (z 2 + 1)) tx).2) (tx := tx) (by rw [c1]; exact c2)) (by rw [c1]; exact Nat.le_refl _)
              have b3 : z 2 + 1 ≤ (rTw 95 (rDg 2 (va_up z 2 (z 2 + 1)) tx).2 tx).2 2 := (Nat.le_trans c3 (rTw_ge 95 (rDg 2 (va_up z 2 (z 2 + 1)) tx).2 tx))
              have b6 : (rTw 95 (rDg 2 (va_up z 2 (z 2 + 1)) tx).2 tx).2 6 = z 6 := (rTw_o (by decide)).trans c6
              split
              · exact ⟨⟨show (rTw 95 (rDg 2 (va_up z 2 (z 2 + 1)) tx).2 tx).2 1 ≤ 140 by omega, show (rTw 95 (rDg 2 (va_up z 2 (z 2 + 1)) tx).2 tx).2 2 ≤ (rTw 95 (rDg 2 (va_up z 2 (z 2 + 1)) tx).2 tx).2 1 by omega, show (rTw 95 (rDg 2 (va_up z 2 (z 2 + 1)) tx).2 tx).2 6 ≤ 96 by omega, ps⟩, Or.inl rfl⟩
              · refine ⟨⟨show (rTw 95 (rDg 2 (va_up z 2 (z 2 + 1)) tx).2 tx).2 1 ≤ 140 by omega, show (rTw 95 (rDg 2 (va_up z 2 (z 2 + 1)) tx).2 tx).2 2 ≤ (rTw 95 (rDg 2 (va_up z 2 (z 2 + 1)) tx).2 tx).2 1 by omega, show (rTw 95 (rDg 2 (va_up z 2 (z 2 + 1)) tx).2 tx).2 6 ≤ 96 by omega, fun k hk => ?_⟩, Or.inr ⟨rfl, show z 2 < (rTw 95 (rDg 2 (va_up z 2 (z 2 + 1)) tx).2 tx).2 2 by omega⟩⟩
                show rBegin (rDg 2 (va_up z 2 (z 2 + 1)) tx).1 (rTw 95 (rDg 2 (va_up z 2 (z 2 + 1)) tx).2 tx).1 1 r (384 + 13 * k) < 4
                unfold rBegin
                rw [up_n (by omega), up_n (by omega), up_n (by omega)]
                unfold va_up
                split
                · decide
                · exact ps k hk
        · exact ⟨h, Or.inl rfl⟩
end REF15
