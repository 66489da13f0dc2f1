section REL5
theorem rG1_423 {h : Nat} {g : Nat → Nat} : rG1 h g 423 = g 423 + 1 := by
  unfold rG1
  rw [up_s, up_n (by decide)]
theorem rG1_426 {h : Nat} {g : Nat → Nat} : rG1 h g 426 = (h + 1) % 3 := by
  unfold rG1
  rw [up_n (by decide), up_s]
/-- the class's numbers at a tick of channel h -/
def tkE (h : Nat) (e : vE) : vE := (e.1, e.2.1, e.2.2.1, e.2.2.2.1, e.2.2.2.2.1, va_up (va_up e.2.2.2.2.2.1 0 h) 1 (e.2.2.2.2.2.1 1 + 1), e.2.2.2.2.2.2)
theorem Rel.g1 {h : Nat} {g : Nat → Nat} {e : vE} (hr : Rel g e) : Rel (rG1 h g) (tkE h e) := by
  obtain ⟨h1, h2, h3, h4, ⟨h5, h6, h7, h8⟩, h9⟩ := hr
  refine ⟨fun k hk => ?_, fun k hk => ?_, fun k hk => ?_, fun k hk => ?_, ⟨?_, ?_, ?_, ?_⟩, fun i hi => (h9 i hi).cong fun j hj => rG1_at (by omega) (by omega)⟩
  · rw [rG1_at (by omega) (by omega)]; exact h1 k hk
  · rw [rG1_at (by omega) (by omega)]; exact h2 k hk
  · rw [rG1_at (by omega) (by omega)]; exact h3 k hk
  · rw [rG1_at (by omega) (by omega)]; exact h4 k hk
  · rw [rG1_423, h5]; rfl
  · rw [rG1_at (by omega) (by omega)]; exact h6
  · rw [rG1_at (by omega) (by omega)]; exact h7
  · rw [rG1_426]; rfl
theorem eB_tk {h : Nat} {e : vE} (he : eB e) (hh : h < 3) : eB (tkE h e) := by
  obtain ⟨h1, h2, h3, h4, h5, h6, h7⟩ := he
  exact ⟨h1, h2, h3, h4, hh, h6, h7⟩
theorem rT_nT {g : Nat → Nat} {e : vE} (hr : Rel g e) (h0 : e.2.2.2.2.2.1 0 < 3) : rT g = nT (e.2.2.2.2.2.1 0) e.2.2.2.2.2.2 := by
  obtain ⟨h1, h2, h3, h4, ⟨h5, h6, h7, h8⟩, h9⟩ := hr
  have c : ∀ i, i < 3 → g (384 + 13 * i) = e.2.2.2.2.2.2 i 0 := fun i hi => (h9 i hi).1.1
  have e0 : g 426 % 3 = (e.2.2.2.2.2.1 0 + 1) % 3 := by rw [h8]; omega
  have e1 : (g 426 + 1) % 3 = (e.2.2.2.2.2.1 0 + 2) % 3 := by rw [h8]; omega
  have e2 : (g 426 + 2) % 3 = (e.2.2.2.2.2.1 0 + 3) % 3 := by rw [h8]; omega
  unfold rT nT
  rw [e0, e1, e2, c _ (by omega), c _ (by omega), c _ (by omega)]
theorem tickC_n {e : vE} (c : nT (e.2.2.2.2.2.1 0) e.2.2.2.2.2.2 = 4294967287) : tickC e = e := if_pos c
theorem tickC_r {e : vE} {h : Nat} (hh : nT (e.2.2.2.2.2.1 0) e.2.2.2.2.2.2 = h) (c : ¬ h = 4294967287) (d : e.2.2.2.2.2.2 h 5 = 4294967287) : tickC e = (e.1, e.2.1, rdM e.2.2.1 (e.2.2.2.2.2.2 h), e.2.2.2.1, e.2.2.2.2.1, (tkE h e).2.2.2.2.2.1, va_up e.2.2.2.2.2.2 h (rdQ e.1 (e.2.2.2.2.2.2 h))) := by
  unfold tickC
  rw [hh, if_neg c, if_pos d]
  rfl
theorem tickC_u {e : vE} {h : Nat} (hh : nT (e.2.2.2.2.2.1 0) e.2.2.2.2.2.2 = h) (c : ¬ h = 4294967287) (d : ¬ e.2.2.2.2.2.2 h 5 = 4294967287) : tickC e = mkE (tkE h e) h (duC e.2.1 e.2.2.1 h (e.1, e.2.2.2.1, e.2.2.2.2.1, (tkE h e).2.2.2.2.2.1, e.2.2.2.2.2.2 h)) := by
  unfold tickC
  rw [hh, if_neg c, if_neg d]
  rfl
theorem RW.tick {t : vR3} {e : vE} (hr : RW t e) (he : eB e) : RW (rTk t) (tickC e) := by
  have hT := rT_nT hr.1 he.2.2.2.2.1
  by_cases c : nT (e.2.2.2.2.2.1 0) e.2.2.2.2.2.2 = 4294967287
  · rw [tickC_n c]
    unfold rTk
    rw [if_pos (hT.trans c)]
    exact hr
  · obtain ⟨h, hh⟩ : ∃ h, h = nT (e.2.2.2.2.2.1 0) e.2.2.2.2.2.2 := ⟨_, rfl⟩
    have h3 : h < 3 := by
      have := nT_cases (e.2.2.2.2.2.1 0) e.2.2.2.2.2.2
      omega
    have e4 : rTk t = rSt h t := by
      unfold rTk
      rw [hT, if_neg c, ← hh]
    rw [e4]
    have hR1 := hr.1.g1 (h := h)
    have hB1 := eB_tk (h := h) he h3
    have hW1 : Wt t.1 t.2.2 (tkE h e) := hr.2
    have hq := hR1.2.2.2.2.2 h h3
    obtain ⟨-, -, -, a6, -⟩ := id hq
    have hB5 := (hB1.2.2.2.2.2.2 h h3).2.2.2.1
    unfold rSt
    by_cases d : e.2.2.2.2.2.2 h 5 = 4294967287
    · have k0 : rG1 h t.2.1 (384 + 13 * h + 4) = 0 := by
        rcases a6 with z | z
        · exact z.1
        · have z5 : e.2.2.2.2.2.2 h 5 ≤ 90 := z.2.2.2.1
          omega
      rw [if_pos k0, tickC_r hh.symm (by omega) d]
      exact ⟨hR1.rd hB1 h3 d, hW1⟩
    · have a7 := a6.resolve_left (fun z => d z.2)
      have k4 : rG1 h t.2.1 (384 + 13 * h + 4) = e.2.2.2.2.2.2 h 7 := a7.1
      have k1 : 1 ≤ e.2.2.2.2.2.2 h 7 := a7.2.1
      rw [if_neg (show ¬ rG1 h t.2.1 (384 + 13 * h + 4) = 0 by omega), tickC_u hh.symm (by omega) d]
      by_cases k6 : e.2.2.2.2.2.2 h 7 = 6
      · rw [if_pos (k4.trans k6)]
        have hu : duC e.2.1 e.2.2.1 h (e.1, e.2.2.2.1, e.2.2.2.2.1, (tkE h e).2.2.2.2.2.1, e.2.2.2.2.2.2 h) = sQ (chC e.1) (e.1, e.2.2.2.1, e.2.2.2.2.1, (tkE h e).2.2.2.2.2.1, e.2.2.2.2.2.2 h) := if_pos k6
        rw [hu]
        exact ⟨hR1.choose h3 d, hW1⟩
      · rw [if_neg (fun z => k6 (k4.symm.trans z))]
        have hu : duC e.2.1 e.2.2.1 h (e.1, e.2.2.2.1, e.2.2.2.2.1, (tkE h e).2.2.2.2.2.1, e.2.2.2.2.2.2 h) = unC e.2.1 e.2.2.1 h (e.1, e.2.2.2.1, e.2.2.2.2.1, (tkE h e).2.2.2.2.2.1, e.2.2.2.2.2.2 h) := if_neg k6
        rw [hu]
        exact RW.unit (t := (t.1, rG1 h t.2.1, t.2.2)) (e := tkE h e) ⟨hR1, hW1⟩ hB1 h3 d k6
/-- all that is kept of a running engine -/
def QR (t : vR3) (e : vE) : Prop := eB e ∧ RW t e
theorem QR.tick {t : vR3} {e : vE} (h : QR t e) : QR (rTk t) (tickC e) := ⟨eB_tick h.1, h.2.tick h.1⟩
theorem QR.run : ∀ (n : Nat) {t : vR3} {e : vE}, QR t e → (rRun n t).1 = (runC n e).1 ∧ QR (rRun n t).2 (runC n e).2
  | 0, _, _, h => ⟨rfl, h⟩
  | n + 1, t, e, h => by
    have hT := rT_nT h.2.1 h.1.2.2.2.2.1
    show (if _ then _ else _ : Nat × vR3).1 = (if _ then _ else _ : Nat × vE).1 ∧ QR (if _ then _ else _ : Nat × vR3).2 (if _ then _ else _ : Nat × vE).2
    rw [hT]
    by_cases c : nT (e.2.2.2.2.2.1 0) e.2.2.2.2.2.2 = 4294967287
    · rw [if_pos c, if_pos c]
      exact ⟨rfl, h⟩
    · rw [if_neg c, if_neg c]
      have ih := QR.run n h.tick
      exact ⟨congrArg (· + 1) ih.1, ih.2⟩
theorem gB_of {g : Nat → Nat} {e : vE} (hr : Rel g e) (he : eB e) : gB g := by
  obtain ⟨h1, h2, h3, h4, ⟨h5, h6, h7, h8⟩, h9⟩ := hr
  obtain ⟨b1, b2, b3, b4, b5, b6, b7⟩ := he
  refine ⟨fun k hk => by rw [h1 k hk]; exact b1 k hk, fun k hk => by rw [h2 k hk]; exact b2 k hk, fun k hk => by rw [h3 k hk]; exact b3 k hk, by omega, fun h hh => ?_⟩
  obtain ⟨⟨a0, a1, a2, a3⟩, a4, a5, a6, c3, c5, c6, c7, c8, c9, c10⟩ := h9 h hh
  obtain ⟨q0, q1, q2, q5, q6, q7, -⟩ := b7 h hh
  refine ⟨Nat.lt_of_le_of_lt (Nat.le_of_eq a0) q0, Nat.lt_of_le_of_lt (Nat.le_of_eq a1) q1, c3, ?_, c5, c6, c7, c8, c9, c10, fun y1 y6 => ?_⟩
  · rcases a6 with z | z
    · have := z.1
      show blk h g 4 ≤ 6
      omega
    · have := z.1
      show blk h g 4 ≤ 6
      omega
  · have y1' : 1 ≤ blk h g 4 := y1
    have y6' : blk h g 4 < 6 := y6
    show blk h g 10 < blk h g 7
    rcases a6 with z | z
    · omega
    · obtain ⟨c4, c41, c46, c9, c3, c10, k5, k6, k7, k8, k9⟩ := z
      rcases q5 with w | w
      · omega
      · have := w.2.2.2 (by omega)
        omega
theorem QR.gB {t : vR3} {e : vE} (h : QR t e) : gB t.2.1 ∧ t.1 5 < 4294967296 := by
  refine ⟨gB_of h.2.1 h.1, ?_⟩
  rcases h.2.2.2 with z | z
  · rw [z.1]; decide
  · omega
end REL5
