section REF15
theorem rPt_1 (z r tx : Nat → Nat) : (rPt z r tx).2.1 1 = z 1 := by
  unfold rPt
  repeat' split
  all_goals first
    | rfl
    | (show va_up _ 6 _ 1 = _; rw [up_n (by decide)]; first | exact rTw_o (by decide) | exact (rTw_o (by decide)).trans (up_n (by decide)))
    | (show va_up _ 7 _ 1 = _; rw [up_n (by decide)]; exact (rDg_o (by decide)).trans (up_n (by decide)))
    | (show va_up _ 2 _ 1 = _; rw [up_n (by decide)]; exact (rDg_o (by decide)).trans (up_n (by decide)))
    | exact rTw_o (by decide)
    | exact (rTw_o (by decide)).trans (up_n (by decide))
    | exact (rDg_o (by decide)).trans (up_n (by decide))
    | exact (rTw_o (by decide)).trans ((rDg_o (by decide)).trans (up_n (by decide)))

end REF15
