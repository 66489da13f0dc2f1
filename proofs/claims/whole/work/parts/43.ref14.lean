section REF14
theorem rTw_k {hi : Nat} {z tx : Nat → Nat} (h1 : z 1 ≤ 140) (h2 : z 2 ≤ 140) : (rTw hi z tx).2 1 = z 1 ∧ (rTw hi z tx).2 2 ≤ 140 := by
  unfold rTw
  have a1 := rDg_1 (hi / 10) z tx
  have a2 := rDg_2 (hi := hi / 10) (z := z) (tx := tx) h1 h2
  repeat' split
  all_goals first
    | exact ⟨a1, a2⟩
    | exact ⟨(rDg_1 _ _ _).trans a1, rDg_2 (by rw [a1]; exact h1) a2⟩
theorem rDg_o {hi k : Nat} {z tx : Nat → Nat} (hk : k ≠ 2) : (rDg hi z tx).2 k = z k := by
  unfold rDg
  split
  · show va_up z 2 (z 2 + 1) k = z k
    exact up_n hk
  · rfl
theorem rTw_o {hi k : Nat} {z tx : Nat → Nat} (hk : k ≠ 2) : (rTw hi z tx).2 k = z k := by
  unfold rTw
  repeat' split
  all_goals first
    | exact rDg_o hk
    | exact (rDg_o hk).trans (rDg_o hk)
theorem rTw_lt {hi : Nat} {z tx : Nat → Nat} (hh : hi < 100) : (rTw hi z tx).1 = 4294967287 ∨ (rTw hi z tx).1 ≤ hi := by
  unfold rTw
  have a := rDg_lt (hi := hi / 10) (z := z) (tx := tx) (by omega)
  by_cases c1 : (rDg (hi / 10) z tx).1 = 4294967287
  · rw [if_pos c1]; left; rfl
  · rw [if_neg c1]
    by_cases c3 : (rDg (hi / 10) z tx).1 = hi / 10
    · rw [if_pos c3]
      have b := rDg_lt (hi := hi % 10) (z := (rDg (hi / 10) z tx).2) (tx := tx) (by omega)
      by_cases c2 : (rDg (hi % 10) (rDg (hi / 10) z tx).2 tx).1 = 4294967287
      · rw [if_pos c2]; left; rfl
      · rw [if_neg c2]; right; dsimp only; omega
    · rw [if_neg c3]
      have b := rDg_lt (hi := 9) (z := (rDg (hi / 10) z tx).2) (tx := tx) (by omega)
      by_cases c2 : (rDg 9 (rDg (hi / 10) z tx).2 tx).1 = 4294967287
      · rw [if_pos c2]; left; rfl
      · rw [if_neg c2]; right; dsimp only; omega
def rPt (z r tx : Nat → Nat) : Nat × (Nat → Nat) × (Nat → Nat) :=
  if 48 ≤ tx (z 2) ∧ tx (z 2) ≤ 57 then
    (if z 6 < 96 then
      (if (rTw 99 z tx).1 = 4294967287 then (0, (rTw 99 z tx).2, r)
       else (1, va_up (rTw 99 z tx).2 6 ((rTw 99 z tx).2 6 + 1), va_up (va_up r ((rTw 99 z tx).2 6) (rTw 99 z tx).1) (96 + (rTw 99 z tx).2 6) ((rTw 99 z tx).2 7)))
     else (0, z, r))
  else if tx (z 2) = 64 then
    (if (rTw 95 (va_up z 2 (z 2 + 1)) tx).1 = 4294967287 then (0, (rTw 95 (va_up z 2 (z 2 + 1)) tx).2, r) else (1, va_up (rTw 95 (va_up z 2 (z 2 + 1)) tx).2 6 (rTw 95 (va_up z 2 (z 2 + 1)) tx).1, r))
  else if tx (z 2) = 111 then
    (if (rDg 3 (va_up z 2 (z 2 + 1)) tx).1 = 4294967287 then (0, (rDg 3 (va_up z 2 (z 2 + 1)) tx).2, r) else (1, va_up (rDg 3 (va_up z 2 (z 2 + 1)) tx).2 7 (rDg 3 (va_up z 2 (z 2 + 1)) tx).1, r))
  else if tx (z 2) = 115 then
    (if (rDg 2 (va_up z 2 (z 2 + 1)) tx).1 = 4294967287 then (0, (rDg 2 (va_up z 2 (z 2 + 1)) tx).2, r)
     else if r (384 + 13 * (rDg 2 (va_up z 2 (z 2 + 1)) tx).1) = 1 then (0, va_up (rDg 2 (va_up z 2 (z 2 + 1)) tx).2 2 ((rDg 2 (va_up z 2 (z 2 + 1)) tx).2 2 - 1), r)
     else if (rTw 95 (rDg 2 (va_up z 2 (z 2 + 1)) tx).2 tx).1 = 4294967287 then (0, (rTw 95 (rDg 2 (va_up z 2 (z 2 + 1)) tx).2 tx).2, r)
     else (1, (rTw 95 (rDg 2 (va_up z 2 (z 2 + 1)) tx).2 tx).2, rBegin (rDg 2 (va_up z 2 (z 2 + 1)) tx).1 (rTw 95 (rDg 2 (va_up z 2 (z 2 + 1)) tx).2 tx).1 1 r))
  else (0, z, r)

end REF14
