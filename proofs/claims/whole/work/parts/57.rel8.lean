section REL8
theorem rDg_y {hi : Nat} {z tx : Nat → Nat} (h1 : z 2 < z 1) (h2 : 48 ≤ tx (z 2)) (h3 : tx (z 2) ≤ 48 + hi) : rDg hi z tx = (tx (z 2) - 48, va_up z 2 (z 2 + 1)) := if_pos ⟨h1, h2, h3⟩
theorem rDg_n {hi : Nat} {z tx : Nat → Nat} (h : ¬ (z 2 < z 1 ∧ 48 ≤ tx (z 2) ∧ tx (z 2) ≤ 48 + hi)) : rDg hi z tx = (4294967287, z) := if_neg h
/-- the highest ones behind the tens t -/
def hi2 (hi t : Nat) : Nat := if t = hi / 10 then hi % 10 else 9
theorem rTw_0 {hi : Nat} {z tx : Nat → Nat} (h : ¬ (z 2 < z 1 ∧ 48 ≤ tx (z 2) ∧ tx (z 2) ≤ 48 + hi / 10)) : rTw hi z tx = (4294967287, z) := by
  unfold rTw
  rw [rDg_n h]
  exact if_pos rfl
theorem rTw_1 {hi : Nat} {z tx : Nat → Nat} (hh : hi < 100) (h1 : z 2 < z 1) (h2 : 48 ≤ tx (z 2)) (h3 : tx (z 2) ≤ 48 + hi / 10) (h : ¬ (z 2 + 1 < z 1 ∧ 48 ≤ tx (z 2 + 1) ∧ tx (z 2 + 1) ≤ 48 + hi2 hi (tx (z 2) - 48))) : rTw hi z tx = (4294967287, va_up z 2 (z 2 + 1)) := by
  unfold rTw
  rw [rDg_y h1 h2 h3]
  dsimp only
  have e2 : va_up z 2 (z 2 + 1) 2 = z 2 + 1 := up_s
  have e1 : va_up z 2 (z 2 + 1) 1 = z 1 := up_n (by decide)
  have hn : rDg (if tx (z 2) - 48 = hi / 10 then hi % 10 else 9) (va_up z 2 (z 2 + 1)) tx = (4294967287, va_up z 2 (z 2 + 1)) := rDg_n (by rw [e1, e2]; exact h)
  rw [hn, if_neg (show ¬ tx (z 2) - 48 = 4294967287 by omega)]
  exact if_pos rfl
theorem rTw_2 {hi : Nat} {z tx : Nat → Nat} (hh : hi < 100) (h1 : z 2 + 1 < z 1) (h2 : 48 ≤ tx (z 2)) (h3 : tx (z 2) ≤ 48 + hi / 10) (h4 : 48 ≤ tx (z 2 + 1)) (h5 : tx (z 2 + 1) ≤ 48 + hi2 hi (tx (z 2) - 48)) : rTw hi z tx = (10 * (tx (z 2) - 48) + (tx (z 2 + 1) - 48), va_up z 2 (z 2 + 2)) := by
  unfold rTw
  rw [rDg_y (by omega) h2 h3]
  dsimp only
  have e2 : va_up z 2 (z 2 + 1) 2 = z 2 + 1 := up_s
  have e1 : va_up z 2 (z 2 + 1) 1 = z 1 := up_n (by decide)
  have hn : rDg (if tx (z 2) - 48 = hi / 10 then hi % 10 else 9) (va_up z 2 (z 2 + 1)) tx = (tx (z 2 + 1) - 48, va_up z 2 (z 2 + 2)) := by
    rw [rDg_y (by rw [e1, e2]; exact h1) (by rw [e2]; exact h4) (by rw [e2]; exact h5), e2, up_up]
  have h6 : hi2 hi (tx (z 2) - 48) ≤ 9 := by
    unfold hi2
    split <;> omega
  rw [hn, if_neg (show ¬ tx (z 2) - 48 = 4294967287 by omega)]
  exact if_neg (show ¬ tx (z 2 + 1) - 48 = 4294967287 by omega)
theorem psT_0 {tx : Nat → Nat} {p : Nat} {x : vR} (h : ¬ x.1 0 = 1) : (psT tx 0 p x).1 = p := if_neg h
theorem psT_n {tx : Nat → Nat} {k p : Nat} {x : vR} (h : (stT (tx p) x).1 = 0) : (psT tx (k + 1) p x).1 = p := by
  show (if _ then _ else _ : Nat × vR).1 = p
  rw [if_pos h]
theorem psT_y {tx : Nat → Nat} {k p : Nat} {x x' : vR} (h : stT (tx p) x = (1, x')) : psT tx (k + 1) p x = psT tx k (p + 1) x' := by
  show (if _ then _ else _ : Nat × vR) = _
  rw [h]
  exact if_neg Nat.one_ne_zero
/-- between two parts -/
def TP (z r : Nat → Nat) (x : vR) : Prop := pOk z r ∧ z 7 < 4 ∧ x.1 0 = 1 ∧ x.1 2 = z 6 ∧ x.1 3 = z 7 ∧ Rel r x.2 ∧ ∀ h, h < 3 → x.2.2.2.2.2.2.2 h 0 < 2
theorem stT_d {c : Nat} {x : vR} (h : 2 ≤ x.1 0) (h1 : 48 ≤ c) (h2 : c ≤ 57) : stT c x = tD (c - 48) x := by
  unfold stT
  rw [if_neg (by omega), if_neg (by omega), if_pos ⟨h1, h2⟩]
theorem stT_n {c : Nat} {x : vR} (h : 2 ≤ x.1 0) (h1 : ¬ (48 ≤ c ∧ c ≤ 57)) : (stT c x).1 = 0 := by
  unfold stT
  rw [if_neg (by omega), if_neg (by omega), if_neg h1]
theorem stT_p {c : Nat} {x : vR} (h : x.1 0 = 1) : stT c x = ((tFS c x.1).1, (tFS c x.1).2, x.2) := by
  unfold stT
  rw [if_neg (by omega), if_pos h]
/-- what a part leaves: an error at a place, or another part's start -/
def PT (tx : Nat → Nat) (n : Nat) (z : Nat → Nat) (x : vR) (o : Nat × (Nat → Nat) × (Nat → Nat)) : Prop :=
  (o.1 = 0 ∧ (psT tx n (z 2) x).1 = o.2.1 2) ∨ (o.1 = 1 ∧ ∃ (m : Nat) (x' : vR), o.2.1 1 = o.2.1 2 + m ∧ psT tx n (z 2) x = psT tx m (o.2.1 2) x' ∧ TP o.2.1 o.2.2 x')
theorem Rel.cellOwner {c v o : Nat} {g : Nat → Nat} {e : vE} (hr : Rel g e) (hc : c < 96) : Rel (va_up (va_up g c v) (96 + c) o) (va_up e.1 c v, va_up e.2.1 c o, e.2.2) := by
  have hv := hr.valu (v := v) hc
  obtain ⟨h1, h2, h3, h4, ⟨h5, h6, h7, h8⟩, h9⟩ := hv
  refine ⟨fun k hk => ?_, fun k hk => ?_, fun k hk => ?_, fun k hk => ?_, ⟨?_, ?_, ?_, ?_⟩, fun h hh => by rw [blk_out (by omega)]; exact h9 h hh⟩
  · rw [up_n (by omega)]; exact h1 k hk
  · show va_up (va_up g c v) (96 + c) o (96 + k) = va_up e.2.1 c o k
    by_cases z : k = c
    · subst z
      rw [up_s, up_s]
    · rw [up_n (by omega), up_n z]
      exact h2 k hk
  · rw [up_n (by omega)]; exact h3 k hk
  · rw [up_n (by omega)]; exact h4 k hk
  · rw [up_n (by omega)]; exact h5
  · rw [up_n (by omega)]; exact h6
  · rw [up_n (by omega)]; exact h7
  · rw [up_n (by omega)]; exact h8
theorem TP.digit {z r tx : Nat → Nat} {x : vR} {n : Nat} (h : TP z r x) (hn : z 1 = z 2 + (n + 1)) (hd : 48 ≤ tx (z 2) ∧ tx (z 2) ≤ 57) : PT tx (n + 1) z x (rPt z r tx) := by
  obtain ⟨hp, h7, x0, x2, x3, hR, hi⟩ := id h
  have hfs : tFS (tx (z 2)) x.1 = if x.1 2 < 96 then (1, va_up (va_up x.1 1 (tx (z 2) - 48)) 0 4) else (0, x.1) := by
    unfold tFS
    rw [if_neg (by omega), if_neg (by omega), if_neg (by omega)]
    by_cases c : x.1 2 < 96
    · rw [if_pos c, if_pos ⟨hd.1, hd.2, c⟩]
    · rw [if_neg c, if_neg (fun q => c q.2.2)]
  unfold rPt
  rw [if_pos hd]
  by_cases c : z 6 < 96
  · rw [if_pos c]
    have s1 : stT (tx (z 2)) x = (1, va_up (va_up x.1 1 (tx (z 2) - 48)) 0 4, x.2) := by
      rw [stT_p x0, hfs, if_pos (by omega)]
    by_cases d : z 2 + 1 < z 1 ∧ 48 ≤ tx (z 2 + 1) ∧ tx (z 2 + 1) ≤ 57
    · have e2 : rTw 99 z tx = (10 * (tx (z 2) - 48) + (tx (z 2 + 1) - 48), va_up z 2 (z 2 + 2)) := rTw_2 (by decide) d.1 hd.1 (by omega) d.2.1 (by unfold hi2; split <;> omega)
      rw [e2, if_neg (show ¬ (10 * (tx (z 2) - 48) + (tx (z 2 + 1) - 48), va_up z 2 (z 2 + 2)).1 = 4294967287 by show ¬ 10 * (tx (z 2) - 48) + (tx (z 2 + 1) - 48) = 4294967287; omega)]
      obtain ⟨m, rfl⟩ : ∃ m, n = m + 1 := ⟨n - 1, by omega⟩
      refine Or.inr ⟨rfl, m, (va_up (va_up (va_up (va_up x.1 1 (tx (z 2) - 48)) 0 4) 2 (x.1 2 + 1)) 0 1, va_up x.2.1 (x.1 2) (10 * (tx (z 2) - 48) + (tx (z 2 + 1) - 48)), va_up x.2.2.1 (x.1 2) (x.1 3), x.2.2.2), ?_, ?_, ?_⟩
      · show va_up (va_up z 2 (z 2 + 2)) 6 (va_up z 2 (z 2 + 2) 6 + 1) 1 = va_up (va_up z 2 (z 2 + 2)) 6 (va_up z 2 (z 2 + 2) 6 + 1) 2 + m
        rw [up_n (by decide), up_n (by decide), up_n (by decide), up_s]
        omega
      · have s2 : stT (tx (z 2 + 1)) (va_up (va_up x.1 1 (tx (z 2) - 48)) 0 4, x.2) = (1, va_up (va_up (va_up (va_up x.1 1 (tx (z 2) - 48)) 0 4) 2 (x.1 2 + 1)) 0 1, va_up x.2.1 (x.1 2) (10 * (tx (z 2) - 48) + (tx (z 2 + 1) - 48)), va_up x.2.2.1 (x.1 2) (x.1 3), x.2.2.2) := by
          rw [stT_d (by show 2 ≤ 4; decide) d.2.1 d.2.2]
          rfl
        rw [psT_y s1, psT_y s2]
        show _ = psT tx m (va_up (va_up z 2 (z 2 + 2)) 6 (va_up z 2 (z 2 + 2) 6 + 1) 2) _
        rw [up_n (by decide), up_s]
      · refine ⟨?_, ?_, rfl, ?_, ?_, ?_, hi⟩
        · obtain ⟨p1, p2, p6, ps⟩ := hp
          refine ⟨?_, ?_, ?_, fun k hk => ?_⟩
          · show va_up (va_up z 2 (z 2 + 2)) 6 (va_up z 2 (z 2 + 2) 6 + 1) 1 ≤ 140
            rw [up_n (by decide), up_n (by decide)]; exact p1
          · show va_up (va_up z 2 (z 2 + 2)) 6 (va_up z 2 (z 2 + 2) 6 + 1) 2 ≤ va_up (va_up z 2 (z 2 + 2)) 6 (va_up z 2 (z 2 + 2) 6 + 1) 1
            rw [up_n (by decide), up_s, up_n (by decide), up_n (by decide)]; omega
          · show va_up (va_up z 2 (z 2 + 2)) 6 (va_up z 2 (z 2 + 2) 6 + 1) 6 ≤ 96
            rw [up_s, up_n (by decide)]; omega
          · show va_up (va_up r (va_up z 2 (z 2 + 2) 6) _) (96 + va_up z 2 (z 2 + 2) 6) _ (384 + 13 * k) < 4
            rw [up_n (i := 2) (by decide), up_n (by omega), up_n (by omega)]
            exact ps k hk
        · show va_up (va_up z 2 (z 2 + 2)) 6 (va_up z 2 (z 2 + 2) 6 + 1) 7 < 4
          rw [up_n (by decide), up_n (by decide)]; exact h7
        · show x.1 2 + 1 = va_up (va_up z 2 (z 2 + 2)) 6 (va_up z 2 (z 2 + 2) 6 + 1) 6
          rw [up_s, up_n (by decide), x2]
        · show x.1 3 = va_up (va_up z 2 (z 2 + 2)) 6 (va_up z 2 (z 2 + 2) 6 + 1) 7
          rw [up_n (by decide), up_n (by decide), x3]
        · show Rel (va_up (va_up r (va_up z 2 (z 2 + 2) 6) _) (96 + va_up z 2 (z 2 + 2) 6) (va_up z 2 (z 2 + 2) 7)) _
          rw [up_n (f := z) (j := 6) (by decide), up_n (f := z) (j := 7) (by decide), ← x2, ← x3]
          exact hR.cellOwner (by omega)
    · have e1 : rTw 99 z tx = (4294967287, va_up z 2 (z 2 + 1)) := rTw_1 (by decide) (by omega) hd.1 (by omega) (fun q => d ⟨q.1, q.2.1, by have := q.2.2; unfold hi2 at this; split at this <;> omega⟩)
      rw [e1, if_pos rfl]
      refine Or.inl ⟨rfl, ?_⟩
      rw [psT_y s1]
      show _ = va_up z 2 (z 2 + 1) 2
      rw [up_s]
      cases n with
      | zero => exact psT_0 (by show ¬ 4 = 1; decide)
      | succ n => exact psT_n (stT_n (by show 2 ≤ 4; decide) (fun q => d ⟨by omega, q.1, q.2⟩))
  · rw [if_neg c]
    refine Or.inl ⟨rfl, psT_n ?_⟩
    rw [stT_p x0, hfs, if_neg (by omega)]
end REL8
