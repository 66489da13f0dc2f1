section REL4
theorem Rel.fin {h : Nat} {g : Nat → Nat} {e : vE} (hr : Rel g e) (hh : h < 3) (h5 : e.2.2.2.2.2.2 h 5 ≠ 4294967287) (hlt : e.2.2.2.2.2.2 h 6 < e.2.2.2.2.2.2 h 10) : Rel (rFin h g) (setC e h (qNext (e.2.2.2.2.2.2 h))) := by
  obtain ⟨hv, -, -, -, -, hc⟩ := id hr
  have hq := hc h hh
  obtain ⟨⟨a0, a1, a2, a3⟩, a4, a5, a6, b3, b5, b6, b7, b8, b9, b10⟩ := id hq
  obtain ⟨c4, c41, c46, c9, c3, c10, k5, k6, k7, k8, k9⟩ := a6.resolve_left (fun z => h5 z.2)
  have k10' : g (384 + 13 * h + 10) = e.2.2.2.2.2.2 h 6 := c10
  have k7' : g (384 + 13 * h + 7) = e.2.2.2.2.2.2 h 10 := k7
  have k9' : g (384 + 13 * h + 9) = e.2.2.2.2.2.2 h 12 := k9
  have x10 : va_up g (384 + 13 * h + 10) (g (384 + 13 * h + 10) + 1) (384 + 13 * h + 10) = e.2.2.2.2.2.2 h 6 + 1 := by rw [up_s, k10']
  have x7 : va_up g (384 + 13 * h + 10) (g (384 + 13 * h + 10) + 1) (384 + 13 * h + 7) = e.2.2.2.2.2.2 h 10 := by rw [up_n (by omega), k7']
  have x9 : va_up g (384 + 13 * h + 10) (g (384 + 13 * h + 10) + 1) (384 + 13 * h + 9) = e.2.2.2.2.2.2 h 12 := by rw [up_n (by omega), k9']
  have hC : CR (blk h (va_up g (384 + 13 * h + 10) (g (384 + 13 * h + 10) + 1))) (va_up (e.2.2.2.2.2.2 h) 6 (e.2.2.2.2.2.2 h 6 + 1)) := by
    rw [blk_up, k10']
    have y10 : e.2.2.2.2.2.2 h 6 + 1 < 100 := by
      have : blk h g 7 < 100 := b7
      omega
    exact ⟨⟨a0, a1, a2, a3⟩, a4, a5, Or.inr ⟨c4, c41, c46, c9, c3, rfl, k5, k6, k7, k8, k9⟩, b3, b5, b6, b7, b8, b9, y10⟩
  unfold rFin qNext
  rw [x10, x7, x9]
  by_cases c : e.2.2.2.2.2.2 h 6 + 1 < e.2.2.2.2.2.2 h 10
  · rw [if_neg (show ¬ e.2.2.2.2.2.2 h 6 + 1 = e.2.2.2.2.2.2 h 10 by omega), if_pos c]
    exact hr.setc hh (fun k hk => up_n (by omega)) hC
  · rw [if_pos (show e.2.2.2.2.2.2 h 6 + 1 = e.2.2.2.2.2.2 h 10 by omega), if_neg c]
    refine hr.setc hh (fun k hk => by rw [rEnd_o hk, up_n (by omega)]) ?_
    rw [blk_end]
    exact hC.go
theorem mkE_id (e : vE) (h : Nat) : mkE e h (e.1, e.2.2.2.1, e.2.2.2.2.1, e.2.2.2.2.2.1, e.2.2.2.2.2.2 h) = e := by
  unfold mkE
  dsimp only
  rw [up_id]
theorem RW.fin {h : Nat} {t : vR3} {e : vE} {u : vT5} (hr : RW t (mkE e h u)) (hh : h < 3) (h5 : u.2.2.2.2 5 ≠ 4294967287) (hlt : u.2.2.2.2 6 < u.2.2.2.2 10) : RW (sR (rFin h) t) (mkE e h (sQ qNext u)) := by
  have hq : (mkE e h u).2.2.2.2.2.2 h = u.2.2.2.2 := up_s
  have h1 := hr.1.fin hh (by rw [hq]; exact h5) (by rw [hq]; exact hlt)
  have he : setC (mkE e h u) h (qNext ((mkE e h u).2.2.2.2.2.2 h)) = mkE e h (sQ qNext u) := by
    rw [hq]
    show (_, _, _, _, _, _, va_up (va_up _ _ _) _ _) = _
    rw [up_up]
    rfl
  rw [he] at h1
  exact ⟨h1, hr.2⟩
theorem rOw_f {h c : Nat} {g : Nat → Nat} {e : vE} (hr : Rel g e) (hc : c < 96) : (rOw h c g = 0) ↔ (forn e.2.1 h c = 1) := by
  unfold rOw forn
  rw [hr.2.1 c hc]
  split <;> simp
theorem RW.unit {h : Nat} {t : vR3} {e : vE} (hr : RW t e) (he : eB e) (hh : h < 3) (h5 : e.2.2.2.2.2.2 h 5 ≠ 4294967287) (h6 : e.2.2.2.2.2.2 h 7 ≠ 6) :
    RW (if (rUn h t).1 = 0 then (rUn h t).2 else sR (rFin h) (rUn h t).2) (mkE e h (unC e.2.1 e.2.2.1 h (e.1, e.2.2.2.1, e.2.2.2.2.1, e.2.2.2.2.2.1, e.2.2.2.2.2.2 h))) := by
  obtain ⟨hR, hW⟩ := id hr
  obtain ⟨hv, ho, -, -, -, hc⟩ := id hR
  have hq := hc h hh
  have hB := he.2.2.2.2.2.2 h hh
  obtain ⟨⟨a0, a1, a2, a3⟩, a4, a5, a6, b3, b5, b6, b7, b8, b9, b10⟩ := id hq
  obtain ⟨c4, c41, c46, c9, c3, c10, k5, k6, k7, k8, k9⟩ := a6.resolve_left (fun z => h5 z.2)
  have k10' : t.2.1 (384 + 13 * h + 10) = e.2.2.2.2.2.2 h 6 := c10
  have k4' : t.2.1 (384 + 13 * h + 4) = e.2.2.2.2.2.2 h 7 := c4
  have k5' : t.2.1 (384 + 13 * h + 5) = e.2.2.2.2.2.2 h 8 := k5
  have k6' : t.2.1 (384 + 13 * h + 6) = e.2.2.2.2.2.2 h 9 := k6
  have k7' : t.2.1 (384 + 13 * h + 7) = e.2.2.2.2.2.2 h 10 := k7
  have k8' : t.2.1 (384 + 13 * h + 8) = e.2.2.2.2.2.2 h 11 := k8
  have hlt : e.2.2.2.2.2.2 h 6 < e.2.2.2.2.2.2 h 10 := by
    rcases hB.2.2.2.1 with z | z
    · exact absurd z.1 h5
    · exact z.2.2.2 h6
  have hU : rUn h t = rUnK (e.2.2.2.2.2.2 h 7) h t := congrArg (fun K => rUnK K h t) k4'
  rw [hU]
  have eI : rIK (e.2.2.2.2.2.2 h 7) h t.2.1 = dI (e.2.2.2.2.2.2 h) := by
    unfold rIK dI
    rw [k7', k10']
  have eBB : rBK (e.2.2.2.2.2.2 h 7) h t.2.1 = dTg (e.2.2.2.2.2.2 h) := by
    unfold rBK dTg
    rw [eI, k6', k8']
  have eA : rAK (e.2.2.2.2.2.2 h 7) h t.2.1 = if e.2.2.2.2.2.2 h 7 = 3 ∨ e.2.2.2.2.2.2 h 7 = 4 then 0 else dSr (e.2.2.2.2.2.2 h) := by
    unfold rAK dSr
    rw [eI, k5']
    split <;> rfl
  have hid := mkE_id e h
  generalize hK : e.2.2.2.2.2.2 h 7 = K at *
  by_cases c1 : 96 ≤ dSr (e.2.2.2.2.2.2 h) ∨ 96 ≤ dTg (e.2.2.2.2.2.2 h)
  · have c2 : 96 ≤ rAK K h t.2.1 ∨ 96 ≤ rBK K h t.2.1 := by
      rw [eA, eBB]
      by_cases k3 : K = 3 ∨ K = 4
      · refine Or.inr ?_
        have : dSr (e.2.2.2.2.2.2 h) = dTg (e.2.2.2.2.2.2 h) := by
          unfold dSr
          rw [hK, if_pos k3]
        omega
      · rw [if_neg k3]
        exact c1
    rw [rUn_1 c2, if_pos rfl]
    have hu : unC e.2.1 e.2.2.1 h (e.1, e.2.2.2.1, e.2.2.2.2.1, e.2.2.2.2.2.1, e.2.2.2.2.2.2 h) = sQ (qFail 3) (e.1, e.2.2.2.1, e.2.2.2.2.1, e.2.2.2.2.2.1, e.2.2.2.2.2.2 h) := if_pos c1
    rw [hu]
    exact ⟨hR.setc hh (fun k hk => rFail_o hk) (by show CR (blk h (rFail h _ t.2.1)) (qFail _ (e.2.2.2.2.2.2 h)); rw [blk_fail]; exact hq.fail), hW⟩
  · have c2 : ¬ (96 ≤ rAK K h t.2.1 ∨ 96 ≤ rBK K h t.2.1) := by
      rw [eA, eBB]
      split <;> omega
    have hsr : dSr (e.2.2.2.2.2.2 h) < 96 := by omega
    have htg : dTg (e.2.2.2.2.2.2 h) < 96 := by omega
    have oT := rOw_f (h := h) hR htg
    have oS := rOw_f (h := h) hR hsr
    have fT := forn_01 e.2.1 h (dTg (e.2.2.2.2.2.2 h))
    have fS := forn_01 e.2.1 h (dSr (e.2.2.2.2.2.2 h))
    by_cases c3 : forb e.2.1 h (e.2.2.2.2.2.2 h 7) (dSr (e.2.2.2.2.2.2 h)) (dTg (e.2.2.2.2.2.2 h)) = 1
    · have d3 : ¬ (K = 5 ∧ rAK K h t.2.1 = rBK K h t.2.1) ∧ (rOw h (rBK K h t.2.1) t.2.1 = 0 ∨ (K = 5 ∧ rOw h (rAK K h t.2.1) t.2.1 = 0)) := by
        unfold forb at c3
        rw [hK] at c3
        rw [eA, eBB]
        by_cases k5 : K = 5
        · rw [if_neg (show ¬ (K = 3 ∨ K = 4) by omega)]
          rw [if_pos k5] at c3
          by_cases st : dSr (e.2.2.2.2.2.2 h) = dTg (e.2.2.2.2.2.2 h)
          · rw [if_pos st] at c3
            omega
          · rw [if_neg st] at c3
            refine ⟨fun z => st z.2, ?_⟩
            by_cases fs : forn e.2.1 h (dSr (e.2.2.2.2.2.2 h)) = 1
            · exact Or.inr ⟨k5, oS.mpr fs⟩
            · rw [if_neg fs] at c3
              exact Or.inl (oT.mpr c3)
        · rw [if_neg k5] at c3
          exact ⟨fun z => k5 z.1, Or.inl (oT.mpr c3)⟩
      rw [rUn_2 c2 d3, if_pos rfl]
      have hu : unC e.2.1 e.2.2.1 h (e.1, e.2.2.2.1, e.2.2.2.2.1, e.2.2.2.2.2.1, e.2.2.2.2.2.2 h) = sQ (qFail 4) (e.1, e.2.2.2.1, e.2.2.2.2.1, e.2.2.2.2.2.1, e.2.2.2.2.2.2 h) := (if_neg c1).trans (if_pos c3)
      rw [hu]
      exact ⟨hR.setc hh (fun k hk => rFail_o hk) (by show CR (blk h (rFail h _ t.2.1)) (qFail _ (e.2.2.2.2.2.2 h)); rw [blk_fail]; exact hq.fail), hW⟩
    · have d3 : ¬ (¬ (K = 5 ∧ rAK K h t.2.1 = rBK K h t.2.1) ∧ (rOw h (rBK K h t.2.1) t.2.1 = 0 ∨ (K = 5 ∧ rOw h (rAK K h t.2.1) t.2.1 = 0))) := by
        unfold forb at c3
        rw [hK] at c3
        rw [eA, eBB]
        by_cases k5 : K = 5
        · rw [if_neg (show ¬ (K = 3 ∨ K = 4) by omega)]
          rw [if_pos k5] at c3
          by_cases st : dSr (e.2.2.2.2.2.2 h) = dTg (e.2.2.2.2.2.2 h)
          · exact fun z => z.1 ⟨k5, st⟩
          · rw [if_neg st] at c3
            by_cases fs : forn e.2.1 h (dSr (e.2.2.2.2.2.2 h)) = 1
            · rw [if_pos fs] at c3
              exact absurd rfl c3
            · rw [if_neg fs] at c3
              exact fun z => z.2.elim (fun y => c3 (oT.mp y)) (fun y => fs (oS.mp y.2))
        · rw [if_neg k5] at c3
          exact fun z => z.2.elim (fun y => c3 (oT.mp y)) (fun y => k5 y.1)
      rw [rUn_3 c2 d3, if_neg Nat.one_ne_zero]
      have hu : unC e.2.1 e.2.2.1 h (e.1, e.2.2.2.1, e.2.2.2.2.1, e.2.2.2.2.2.1, e.2.2.2.2.2.2 h) = sQ qNext (wuC e.2.2.1 h (dSr (e.2.2.2.2.2.2 h)) (dTg (e.2.2.2.2.2.2 h)) (e.1, e.2.2.2.1, e.2.2.2.2.1, e.2.2.2.2.2.1, e.2.2.2.2.2.2 h)) := (if_neg c1).trans (if_neg c3)
      rw [hu]
      have w5 := wuC_q e.2.2.1 h (dSr (e.2.2.2.2.2.2 h)) (dTg (e.2.2.2.2.2.2 h)) (e.1, e.2.2.2.1, e.2.2.2.2.1, e.2.2.2.2.2.1, e.2.2.2.2.2.2 h) 5 (by decide)
      have w6 := wuC_q e.2.2.1 h (dSr (e.2.2.2.2.2.2 h)) (dTg (e.2.2.2.2.2.2 h)) (e.1, e.2.2.2.1, e.2.2.2.2.1, e.2.2.2.2.2.1, e.2.2.2.2.2.2 h) 6 (by decide)
      have w10 := wuC_q e.2.2.1 h (dSr (e.2.2.2.2.2.2 h)) (dTg (e.2.2.2.2.2.2 h)) (e.1, e.2.2.2.1, e.2.2.2.2.1, e.2.2.2.2.2.1, e.2.2.2.2.2.2 h) 10 (by decide)
      refine RW.fin ?_ hh (by rw [w5]; exact h5) (by rw [w6, w10]; exact hlt)
      have hr9 : RW t (mkE e h (e.1, e.2.2.2.1, e.2.2.2.2.1, e.2.2.2.2.2.1, e.2.2.2.2.2.2 h)) := by rw [hid]; exact hr
      show RW (rWK K h (rAK K h t.2.1) (rBK K h t.2.1) t) _
      rw [eBB, eA]
      unfold rWK wuC
      dsimp only
      have hvT := hv _ htg
      have hvS := hv _ hsr
      by_cases k3 : K = 3
      · rw [if_neg (show ¬ K < 3 by omega), if_pos k3, if_pos (hK.trans k3), k5']
        exact hr9.write htg hh
      · by_cases k4 : K = 4
        · rw [if_neg (show ¬ K < 3 by omega), if_neg k3, if_pos k4, if_neg (fun z => k3 (hK.symm.trans z)), if_pos (hK.trans k4), k5', hvT]
          exact hr9.write htg hh
        · rw [if_neg (show ¬ (K = 3 ∨ K = 4) by omega), if_neg k3, if_neg k4, if_neg (fun z => k3 (hK.symm.trans z)), if_neg (fun z => k4 (hK.symm.trans z))]
          by_cases k12 : K < 3
          · rw [if_pos k12, if_pos (show e.2.2.2.2.2.2 h 7 = 1 ∨ e.2.2.2.2.2.2 h 7 = 2 by omega), hvS]
            exact hr9.write htg hh
          · rw [if_neg k12, if_neg (show ¬ (e.2.2.2.2.2.2 h 7 = 1 ∨ e.2.2.2.2.2.2 h 7 = 2) by omega)]
            by_cases st : dSr (e.2.2.2.2.2.2 h) = dTg (e.2.2.2.2.2.2 h)
            · rw [if_pos st, if_pos st]
              exact hr9
            · rw [if_neg st, if_neg st, hvS, hvT]
              exact (hr9.write hsr hh).write htg hh
end REL4
