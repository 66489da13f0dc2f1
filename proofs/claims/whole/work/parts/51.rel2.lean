section REL2
theorem Rel.rd {h : Nat} {g : Nat → Nat} {e : vE} (hr : Rel g e) (he : eB e) (hh : h < 3) (h5 : e.2.2.2.2.2.2 h 5 = 4294967287) : Rel (rRd h g) (e.1, e.2.1, rdM e.2.2.1 (e.2.2.2.2.2.2 h), e.2.2.2.1, e.2.2.2.2.1, e.2.2.2.2.2.1, va_up e.2.2.2.2.2.2 h (rdQ e.1 (e.2.2.2.2.2.2 h))) := by
  obtain ⟨hv, -, -, -, -, hc⟩ := id hr
  have hq := hc h hh
  have hB := he.2.2.2.2.2.2 h hh
  obtain ⟨⟨a0, a1, a2, a3⟩, a4, a5, a6, b3, b5, b6, b7, b8, b9, b10⟩ := id hq
  have e1 : g (384 + 13 * h + 1) = e.2.2.2.2.2.2 h 1 := a1
  have q6 : e.2.2.2.2.2.2 h 6 = 0 := by
    rcases hB.2.2.2.1 with z | z
    · exact z.2
    · omega
  obtain ⟨p, hp9⟩ : ∃ p, p = e.2.2.2.2.2.2 h 1 := ⟨_, rfl⟩
  by_cases c : 90 < g (384 + 13 * h + 1)
  · have c2 : 90 < e.2.2.2.2.2.2 h 1 := by rw [← e1]; exact c
    rw [rRd_a c]
    unfold rdM rdQ
    rw [if_pos c2, if_pos c2]
    exact hr.setc hh (fun k hk => rFail_o hk) (by rw [blk_fail]; exact hq.fail)
  · have hp : p ≤ 90 := by omega
    have c2 : ¬ 90 < e.2.2.2.2.2.2 h 1 := by rw [← e1]; exact c
    have gp : g (384 + 13 * h + 1) = p := by rw [e1, hp9]
    have hM := Rel.marks (p := p) hr hp
    have v0 : rG2 h g (g (384 + 13 * h + 1)) = e.1 p := by rw [rG2_lo (by omega), gp]; exact hv p (by omega)
    have o2 : ∀ k, (k < 384 + 13 * h ∨ 384 + 13 * h + 13 ≤ k) → rG2 h g k = rMk p g k := fun k hk => by rw [rG2_o hk, gp]
    have o4 : ∀ k, (k < 384 + 13 * h ∨ 384 + 13 * h + 13 ≤ k) → rG4 h g k = rMk p g k := fun k hk => by rw [rG4_o hk, gp]
    have b2 := blk_G2 (h := h) (g := g) (by omega)
    have b4 := blk_G4 (h := h) (g := g) gp hp
    have r0 := hv p (by omega)
    have r1 := hv (p + 1) (by omega)
    have r2 := hv (p + 2) (by omega)
    have r3 := hv (p + 3) (by omega)
    have r4 := hv (p + 4) (by omega)
    have r5 := hv (p + 5) (by omega)
    have l0 := he.1 p (by omega)
    have l1 := he.1 (p + 1) (by omega)
    have l2 := he.1 (p + 2) (by omega)
    have l3 := he.1 (p + 3) (by omega)
    have l4 := he.1 (p + 4) (by omega)
    have l5 := he.1 (p + 5) (by omega)
    rw [r0, r1, r2, r3, r4, r5] at b4
    have hmk : rdM e.2.2.1 (e.2.2.2.2.2.2 h) = (fun k => if p ≤ k ∧ k < p + 6 then 1 else e.2.2.1 k) := by
      unfold rdM
      rw [if_neg c2, ← hp9]
    have hT : ∀ k, (qTake e.1 (e.2.2.2.2.2.2 h)) k = va_up (va_up (va_up (va_up (va_up (va_up (va_up (va_up (e.2.2.2.2.2.2 h) 5 p) 7 (e.1 p)) 8 (e.1 (p + 1))) 9 (e.1 (p + 2))) 10 (e.1 (p + 3))) 11 (e.1 (p + 4))) 12 (e.1 (p + 5))) 3 (e.2.2.2.2.2.2 h 3 + 1) k := fun k => by
      unfold qTake
      rw [← hp9]
    have hT9 : qTake e.1 (e.2.2.2.2.2.2 h) = va_up (va_up (va_up (va_up (va_up (va_up (va_up (va_up (e.2.2.2.2.2.2 h) 5 p) 7 (e.1 p)) 8 (e.1 (p + 1))) 9 (e.1 (p + 2))) 10 (e.1 (p + 3))) 11 (e.1 (p + 4))) 12 (e.1 (p + 5))) 3 (e.2.2.2.2.2.2 h 3 + 1) := funext hT
    rw [hmk]
    unfold rdQ
    rw [if_neg c2, ← hp9, hT9]
    have fa : CR (va_up (blk h g) 11 (blk h g 11 + 1)) (va_up (va_up (e.2.2.2.2.2.2 h) 5 4294967287) 3 (e.2.2.2.2.2.2 h 3 + 1)) := ⟨⟨a0, a1, congrArg (· + 1) a2, a3⟩, a4, a5, Or.inl ⟨(a6.elim (fun z => z.1) (fun z => absurd z.2.2.2.1 (by omega))), rfl⟩, b3, b5, b6, b7, b8, b9, b10⟩
    have inh : 1 ≤ e.1 p → e.1 p ≤ 6 → CR (blk h (rG4 h g)) (va_up (va_up (va_up (va_up (va_up (va_up (va_up (va_up (e.2.2.2.2.2.2 h) 5 p) 7 (e.1 p)) 8 (e.1 (p + 1))) 9 (e.1 (p + 2))) 10 (e.1 (p + 3))) 11 (e.1 (p + 4))) 12 (e.1 (p + 5))) 3 (e.2.2.2.2.2.2 h 3 + 1)) := fun y1 y6 => by
      rw [b4]
      exact ⟨⟨a0, a1, congrArg (· + 1) a2, a3⟩, a4, a5, Or.inr ⟨rfl, y1, y6, hp, rfl, q6.symm, rfl, rfl, rfl, rfl, rfl⟩, hp, l1, l2, l3, l4, l5, (by show 0 < 100; decide)⟩
    by_cases d : e.1 p = 0
    · rw [rRd_b c (by rw [v0]; exact d), if_pos d]
      refine hM.setc hh (fun k hk => by rw [up_n (by omega)]; exact o2 k hk) ?_
      rw [blk_up0, b2]
      obtain ⟨⟨x0, x1, x2, x3⟩, x4, x5, x6, x7⟩ := fa
      exact ⟨⟨rfl, x1, x2, x3⟩, fun z => absurd z (by show ¬ (2 = 3); decide), fun _ => rfl, Or.inl ⟨(a6.elim (fun z => z.1) (fun z => absurd z.2.2.2.1 (by omega))), rfl⟩, x7⟩
    · rw [if_neg d]
      by_cases y : 6 < e.1 p
      · rw [rRd_c c (by rw [v0]; exact d) (by rw [v0]; exact y), if_pos y]
        refine hM.setc hh (fun k hk => by rw [rFail_o hk]; exact o2 k hk) ?_
        rw [blk_fail, b2]
        obtain ⟨⟨x0, x1, x2, x3⟩, x4, x5, x6, x7⟩ := fa
        exact ⟨⟨rfl, x1, x2, x3⟩, fun _ => rfl, fun z => absurd rfl z, Or.inl ⟨rfl, rfl⟩, x7⟩
      · rw [if_neg y]
        have n7 : rG4 h g (384 + 13 * h + 7) = e.1 (p + 3) := by
          show blk h (rG4 h g) 7 = _
          rw [b4]
          rfl
        have n9 : rG4 h g (384 + 13 * h + 9) = e.1 (p + 5) := by
          show blk h (rG4 h g) 9 = _
          rw [b4]
          rfl
        by_cases w : e.1 p ≠ 6 ∧ e.1 (p + 3) = 0
        · rw [rRd_d c (by rw [v0]; exact d) (by rw [v0]; exact y) ⟨by rw [v0]; omega, by rw [n7]; exact w.2⟩, if_pos w]
          refine hM.setc hh (fun k hk => by rw [rEnd_o hk]; exact o4 k hk) ?_
          rw [blk_end, n9]
          exact (inh (by omega) (by omega)).go
        · rw [rRd_e c (by rw [v0]; exact d) (by rw [v0]; exact y) (by rw [v0, n7]; omega), if_neg w]
          exact hM.setc hh o4 (inh (by omega) (by omega))
theorem Rel.choose {h : Nat} {g : Nat → Nat} {e : vE} (hr : Rel g e) (hh : h < 3) (h5 : e.2.2.2.2.2.2 h 5 ≠ 4294967287) : Rel (rCh h g) (setC e h (chC e.1 (e.2.2.2.2.2.2 h))) := by
  obtain ⟨hv, -, -, -, -, hc⟩ := id hr
  have hq := hc h hh
  obtain ⟨⟨a0, a1, a2, a3⟩, a4, a5, a6, b3, b5, b6, b7, b8, b9, b10⟩ := id hq
  obtain ⟨c4, c41, c46, c9, c3, c10, k5, k6, k7, k8, k9⟩ := a6.resolve_left (fun z => h5 z.2)
  have k5' : g (384 + 13 * h + 5) = e.2.2.2.2.2.2 h 8 := k5
  have k6' : g (384 + 13 * h + 6) = e.2.2.2.2.2.2 h 9 := k6
  have k9' : g (384 + 13 * h + 9) = e.2.2.2.2.2.2 h 12 := k9
  have k3' : g (384 + 13 * h + 3) = e.2.2.2.2.2.2 h 5 := c3
  unfold rCh chC
  by_cases c : g (384 + 13 * h + 5) < 96
  · rw [if_pos c, if_neg (show ¬ 96 ≤ e.2.2.2.2.2.2 h 8 by omega)]
    refine hr.setc hh (fun k hk => rEnd_o hk) ?_
    rw [blk_end, hv _ c, k5', k6', k9', k3']
    exact hq.go
  · rw [if_neg c, if_pos (show 96 ≤ e.2.2.2.2.2.2 h 8 by omega)]
    refine hr.setc hh (fun k hk => rFail_o hk) ?_
    rw [blk_fail]
    exact hq.fail
end REL2
