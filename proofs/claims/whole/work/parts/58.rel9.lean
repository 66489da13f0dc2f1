section REL9
theorem psT_e {tx : Nat → Nat} {n p : Nat} {X : vR} (hX : 2 ≤ X.1 0) (h : n = 0 ∨ (stT (tx p) X).1 = 0) : (psT tx n p X).1 = p := by
  rcases h with rfl | h
  · exact psT_0 (by omega)
  · cases n with
    | zero => exact psT_0 (by omega)
    | succ n => exact psT_n h
theorem two_m {X : vR} {A : Nat → vR} {C : Nat → Nat → vR} {y tx : Nat → Nat} {n : Nat} (hX : 2 ≤ X.1 0) (hA : ∀ d, 2 ≤ (A d).1 0) (hs1 : ∀ d, d < 10 → tD d X = (1, A d)) (hs2 : ∀ t d, t < 10 → d < 10 → tD d (A t) = if 10 * t + d < 96 then (1, C (10 * t + d) t) else (0, A t)) (hn : y 1 = y 2 + n) :
    ((rTw 95 y tx).1 = 4294967287 ∧ (psT tx n (y 2) X).1 = (rTw 95 y tx).2 2) ∨ (∃ m t v : Nat, n = m + 2 ∧ v < 96 ∧ rTw 95 y tx = (v, va_up y 2 (y 2 + 2)) ∧ psT tx n (y 2) X = psT tx m (y 2 + 2) (C v t)) := by
  by_cases d0 : y 2 < y 1 ∧ 48 ≤ tx (y 2) ∧ tx (y 2) ≤ 57
  · obtain ⟨k, rfl⟩ : ∃ k, n = k + 1 := ⟨n - 1, by omega⟩
    have s1 : stT (tx (y 2)) X = (1, A (tx (y 2) - 48)) := by
      rw [stT_d hX d0.2.1 d0.2.2]
      exact hs1 _ (by omega)
    by_cases d1 : y 2 + 1 < y 1 ∧ 48 ≤ tx (y 2 + 1) ∧ tx (y 2 + 1) ≤ 48 + hi2 95 (tx (y 2) - 48)
    · have hh : hi2 95 (tx (y 2) - 48) ≤ 9 ∧ (tx (y 2) - 48 = 9 → hi2 95 (tx (y 2) - 48) = 5) := by
        unfold hi2
        split <;> omega
      obtain ⟨m, rfl⟩ : ∃ m, k = m + 1 := ⟨k - 1, by omega⟩
      have hv : 10 * (tx (y 2) - 48) + (tx (y 2 + 1) - 48) < 96 := by omega
      have s2 : stT (tx (y 2 + 1)) (A (tx (y 2) - 48)) = (1, C (10 * (tx (y 2) - 48) + (tx (y 2 + 1) - 48)) (tx (y 2) - 48)) := by
        rw [stT_d (hA _) d1.2.1 (by omega), hs2 _ _ (by omega) (by omega), if_pos hv]
      refine Or.inr ⟨m, tx (y 2) - 48, 10 * (tx (y 2) - 48) + (tx (y 2 + 1) - 48), rfl, hv, rTw_2 (by decide) d1.1 d0.2.1 (by omega) d1.2.1 d1.2.2, ?_⟩
      rw [psT_y s1, psT_y s2]
    · have e1 : rTw 95 y tx = (4294967287, va_up y 2 (y 2 + 1)) := rTw_1 (by decide) d0.1 d0.2.1 (by omega) d1
      refine Or.inl ⟨by rw [e1], ?_⟩
      rw [e1, psT_y s1]
      show _ = va_up y 2 (y 2 + 1) 2
      rw [up_s]
      refine psT_e (hA _) ?_
      by_cases k0 : k = 0
      · exact Or.inl k0
      · refine Or.inr ?_
        by_cases c : 48 ≤ tx (y 2 + 1) ∧ tx (y 2 + 1) ≤ 57
        · rw [stT_d (hA _) c.1 c.2, hs2 _ _ (by omega) (by omega), if_neg ?_]
          intro q
          refine d1 ⟨by omega, c.1, ?_⟩
          unfold hi2
          split <;> omega
        · exact stT_n (hA _) c
  · have e0 : rTw 95 y tx = (4294967287, y) := rTw_0 d0
    refine Or.inl ⟨by rw [e0], ?_⟩
    rw [e0]
    refine psT_e hX ?_
    by_cases k0 : n = 0
    · exact Or.inl k0
    · exact Or.inr (stT_n hX (fun q => d0 ⟨by omega, q.1, q.2⟩))
theorem TP.at {z r tx : Nat → Nat} {x : vR} {n : Nat} (h : TP z r x) (hn : z 1 = z 2 + (n + 1)) (hd : tx (z 2) = 64) : PT tx (n + 1) z x (rPt z r tx) := by
  obtain ⟨hp, h7, x0, x2, x3, hR, hi⟩ := id h
  have s1 : stT (tx (z 2)) x = (1, va_up x.1 0 2, x.2) := by
    rw [stT_p x0]
    unfold tFS
    rw [if_pos hd]
  have y1 : va_up z 2 (z 2 + 1) 1 = z 1 := up_n (by decide)
  have y2 : va_up z 2 (z 2 + 1) 2 = z 2 + 1 := up_s
  have h2 := two_m (X := (va_up x.1 0 2, x.2)) (A := fun d => (va_up (va_up (va_up x.1 0 2) 1 d) 0 3, x.2)) (C := fun v t => (va_up (va_up (va_up (va_up (va_up x.1 0 2) 1 t) 0 3) 2 v) 0 1, x.2)) (y := va_up z 2 (z 2 + 1)) (tx := tx) (n := n) (by show 2 ≤ 2; decide) (fun d => by show 2 ≤ 3; decide) (fun d hd => rfl) (fun t d ht hd => rfl) (by rw [y1, y2]; omega)
  unfold rPt
  rw [if_neg (by omega), if_pos hd]
  rw [y2] at h2
  rcases h2 with ⟨e1, e2⟩ | ⟨m, t, v, rfl, hv, e1, e2⟩
  · rw [if_pos e1]
    exact Or.inl ⟨rfl, by rw [psT_y s1]; exact e2⟩
  · rw [e1, if_neg (show ¬ (v, va_up (va_up z 2 (z 2 + 1)) 2 (z 2 + 1 + 2)).1 = 4294967287 by show ¬ v = 4294967287; omega)]
    refine Or.inr ⟨rfl, m, _, ?_, by rw [psT_y s1, e2]; rfl, ?_⟩
    · show va_up (va_up (va_up z 2 (z 2 + 1)) 2 (z 2 + 1 + 2)) 6 v 1 = va_up (va_up (va_up z 2 (z 2 + 1)) 2 (z 2 + 1 + 2)) 6 v 2 + m
      rw [up_n (by decide), up_n (by decide), up_n (by decide), up_n (by decide), up_s]
      omega
    · obtain ⟨p1, p2, p6, ps⟩ := hp
      refine ⟨⟨?_, ?_, ?_, ps⟩, ?_, rfl, ?_, ?_, hR, hi⟩
      · show va_up (va_up (va_up z 2 (z 2 + 1)) 2 (z 2 + 1 + 2)) 6 v 1 ≤ 140
        rw [up_n (by decide), up_n (by decide), up_n (by decide)]; exact p1
      · show va_up (va_up (va_up z 2 (z 2 + 1)) 2 (z 2 + 1 + 2)) 6 v 2 ≤ va_up (va_up (va_up z 2 (z 2 + 1)) 2 (z 2 + 1 + 2)) 6 v 1
        rw [up_n (by decide), up_s, up_n (by decide), up_n (by decide), up_n (by decide)]; omega
      · show va_up (va_up (va_up z 2 (z 2 + 1)) 2 (z 2 + 1 + 2)) 6 v 6 ≤ 96
        rw [up_s]; omega
      · show va_up (va_up (va_up z 2 (z 2 + 1)) 2 (z 2 + 1 + 2)) 6 v 7 < 4
        rw [up_n (by decide), up_n (by decide), up_n (by decide)]; exact h7
      · show v = va_up (va_up (va_up z 2 (z 2 + 1)) 2 (z 2 + 1 + 2)) 6 v 6
        rw [up_s]
      · show x.1 3 = va_up (va_up (va_up z 2 (z 2 + 1)) 2 (z 2 + 1 + 2)) 6 v 7
        rw [up_n (by decide), up_n (by decide), up_n (by decide)]; exact x3
theorem TP.owner {z r tx : Nat → Nat} {x : vR} {n : Nat} (h : TP z r x) (hn : z 1 = z 2 + (n + 1)) (hd : tx (z 2) = 111) : PT tx (n + 1) z x (rPt z r tx) := by
  obtain ⟨hp, h7, x0, x2, x3, hR, hi⟩ := id h
  have s1 : stT (tx (z 2)) x = (1, va_up x.1 0 5, x.2) := by
    rw [stT_p x0]
    unfold tFS
    rw [if_neg (by omega), if_pos hd]
  have y1 : va_up z 2 (z 2 + 1) 1 = z 1 := up_n (by decide)
  have y2 : va_up z 2 (z 2 + 1) 2 = z 2 + 1 := up_s
  unfold rPt
  rw [if_neg (by omega), if_neg (by omega), if_pos hd]
  by_cases c : z 2 + 1 < z 1 ∧ 48 ≤ tx (z 2 + 1) ∧ tx (z 2 + 1) ≤ 51
  · have e1 : rDg 3 (va_up z 2 (z 2 + 1)) tx = (tx (z 2 + 1) - 48, va_up z 2 (z 2 + 2)) := by
      rw [rDg_y (by rw [y1, y2]; exact c.1) (by rw [y2]; exact c.2.1) (by rw [y2]; exact c.2.2), y2, up_up]
    obtain ⟨m, rfl⟩ : ∃ m, n = m + 1 := ⟨n - 1, by omega⟩
    have s2 : stT (tx (z 2 + 1)) (va_up x.1 0 5, x.2) = (1, va_up (va_up (va_up x.1 0 5) 3 (tx (z 2 + 1) - 48)) 0 1, x.2) := by
      rw [stT_d (by show 2 ≤ 5; decide) c.2.1 (by omega)]
      show (if tx (z 2 + 1) - 48 < 4 then (1, va_up (va_up (va_up x.1 0 5) 3 (tx (z 2 + 1) - 48)) 0 1, x.2) else _ : Nat × vR) = _
      rw [if_pos (by omega)]
    rw [e1, if_neg (show ¬ (tx (z 2 + 1) - 48, va_up z 2 (z 2 + 2)).1 = 4294967287 by show ¬ tx (z 2 + 1) - 48 = 4294967287; omega)]
    refine Or.inr ⟨rfl, m, _, ?_, by rw [psT_y s1, psT_y s2]; rfl, ?_⟩
    · show va_up (va_up z 2 (z 2 + 2)) 7 (tx (z 2 + 1) - 48) 1 = va_up (va_up z 2 (z 2 + 2)) 7 (tx (z 2 + 1) - 48) 2 + m
      rw [up_n (by decide), up_n (by decide), up_n (by decide), up_s]
      omega
    · obtain ⟨p1, p2, p6, ps⟩ := hp
      refine ⟨⟨?_, ?_, ?_, ps⟩, ?_, rfl, ?_, ?_, hR, hi⟩
      · show va_up (va_up z 2 (z 2 + 2)) 7 (tx (z 2 + 1) - 48) 1 ≤ 140
        rw [up_n (by decide), up_n (by decide)]; exact p1
      · show va_up (va_up z 2 (z 2 + 2)) 7 (tx (z 2 + 1) - 48) 2 ≤ va_up (va_up z 2 (z 2 + 2)) 7 (tx (z 2 + 1) - 48) 1
        rw [up_n (by decide), up_s, up_n (by decide), up_n (by decide)]; omega
      · show va_up (va_up z 2 (z 2 + 2)) 7 (tx (z 2 + 1) - 48) 6 ≤ 96
        rw [up_n (by decide), up_n (by decide)]; exact p6
      · show va_up (va_up z 2 (z 2 + 2)) 7 (tx (z 2 + 1) - 48) 7 < 4
        rw [up_s]
        show tx (z 2 + 1) - 48 < 4
        omega
      · show x.1 2 = va_up (va_up z 2 (z 2 + 2)) 7 (tx (z 2 + 1) - 48) 6
        rw [up_n (by decide), up_n (by decide)]; exact x2
      · show tx (z 2 + 1) - 48 = va_up (va_up z 2 (z 2 + 2)) 7 (tx (z 2 + 1) - 48) 7
        rw [up_s]
  · have e1 : rDg 3 (va_up z 2 (z 2 + 1)) tx = (4294967287, va_up z 2 (z 2 + 1)) := rDg_n (by rw [y1, y2]; exact c)
    rw [e1, if_pos rfl]
    refine Or.inl ⟨rfl, ?_⟩
    rw [psT_y s1]
    show _ = va_up z 2 (z 2 + 1) 2
    rw [y2]
    refine psT_e (by show 2 ≤ 5; decide) ?_
    by_cases k0 : n = 0
    · exact Or.inl k0
    · refine Or.inr ?_
      by_cases c9 : 48 ≤ tx (z 2 + 1) ∧ tx (z 2 + 1) ≤ 57
      · rw [stT_d (by show 2 ≤ 5; decide) c9.1 c9.2]
        show (if tx (z 2 + 1) - 48 < 4 then (1, va_up (va_up (va_up x.1 0 5) 3 (tx (z 2 + 1) - 48)) 0 1, x.2) else (0, _) : Nat × vR).1 = 0
        rw [if_neg (by omega)]
      · exact stT_n (by show 2 ≤ 5; decide) c9
theorem TP.chan {z r tx : Nat → Nat} {x : vR} {n : Nat} (h : TP z r x) (hn : z 1 = z 2 + (n + 1)) (hd : tx (z 2) = 115) : PT tx (n + 1) z x (rPt z r tx) := by
  obtain ⟨hp, h7, x0, x2, x3, hR, hi⟩ := id h
  have s1 : stT (tx (z 2)) x = (1, va_up x.1 0 6, x.2) := by
    rw [stT_p x0]
    unfold tFS
    rw [if_neg (by omega), if_neg (by omega), if_pos hd]
  have y1 : va_up z 2 (z 2 + 1) 1 = z 1 := up_n (by decide)
  have y2 : va_up z 2 (z 2 + 1) 2 = z 2 + 1 := up_s
  unfold rPt
  rw [if_neg (by omega), if_neg (by omega), if_neg (by omega), if_pos hd]
  by_cases c : z 2 + 1 < z 1 ∧ 48 ≤ tx (z 2 + 1) ∧ tx (z 2 + 1) ≤ 50
  · have e1 : rDg 2 (va_up z 2 (z 2 + 1)) tx = (tx (z 2 + 1) - 48, va_up z 2 (z 2 + 2)) := by
      rw [rDg_y (by rw [y1, y2]; exact c.1) (by rw [y2]; exact c.2.1) (by rw [y2]; exact c.2.2), y2, up_up]
    obtain ⟨m, rfl⟩ : ∃ m, n = m + 1 := ⟨n - 1, by omega⟩
    obtain ⟨i, hi9⟩ : ∃ i, i = tx (z 2 + 1) - 48 := ⟨_, rfl⟩
    have i3 : i < 3 := by omega
    have hst : r (384 + 13 * i) = x.2.2.2.2.2.2.2 i 0 := (hR.2.2.2.2.2 i i3).1.1
    have sD : stT (tx (z 2 + 1)) (va_up x.1 0 6, x.2) = if i < 3 ∧ x.2.2.2.2.2.2.2 i 0 = 0 then (1, va_up (va_up (va_up x.1 0 6) 4 i) 0 7, x.2) else (0, (va_up x.1 0 6, x.2)) := by
      rw [stT_d (by show 2 ≤ 6; decide) c.2.1 (by omega), ← hi9]
      rfl
    rw [e1, ← hi9]
    dsimp only
    rw [if_neg (show ¬ i = 4294967287 by omega)]
    by_cases b : r (384 + 13 * i) = 1
    · rw [if_pos b]
      refine Or.inl ⟨rfl, ?_⟩
      rw [psT_y s1]
      show _ = va_up (va_up z 2 (z 2 + 2)) 2 (va_up z 2 (z 2 + 2) 2 - 1) 2
      rw [up_s, up_s]
      refine (psT_n ?_).trans (by omega)
      rw [sD, if_neg (by omega)]
    · rw [if_neg b]
      have b0 : x.2.2.2.2.2.2.2 i 0 = 0 := by
        have := hi i i3
        omega
      have s2 : stT (tx (z 2 + 1)) (va_up x.1 0 6, x.2) = (1, va_up (va_up (va_up x.1 0 6) 4 i) 0 7, x.2) := by
        rw [sD, if_pos ⟨i3, b0⟩]
      have w1 : va_up z 2 (z 2 + 2) 1 = z 1 := up_n (by decide)
      have w2 : va_up z 2 (z 2 + 2) 2 = z 2 + 2 := up_s
      have h2 := two_m (X := (va_up (va_up (va_up x.1 0 6) 4 i) 0 7, x.2)) (A := fun d => (va_up (va_up (va_up (va_up (va_up x.1 0 6) 4 i) 0 7) 1 d) 0 8, x.2)) (C := fun v t => (va_up (va_up (va_up (va_up (va_up (va_up x.1 0 6) 4 i) 0 7) 1 t) 0 8) 0 1, x.2.1, x.2.2.1, x.2.2.2.1, x.2.2.2.2.1, x.2.2.2.2.2.1, x.2.2.2.2.2.2.1, va_up x.2.2.2.2.2.2.2 i (qBegin v (x.2.2.2.2.2.2.2 i)))) (y := va_up z 2 (z 2 + 2)) (tx := tx) (n := m) (by show 2 ≤ 7; decide) (fun d => by show 2 ≤ 8; decide) (fun d hd => rfl) (fun t d ht hd => rfl) (by rw [w1, w2]; omega)
      rw [w2] at h2
      rcases h2 with ⟨e1, e2⟩ | ⟨m9, t, v, rfl, hv, e1, e2⟩
      · rw [if_pos e1]
        exact Or.inl ⟨rfl, by rw [psT_y s1, psT_y s2]; exact e2⟩
      · rw [e1, if_neg (show ¬ (v, va_up (va_up z 2 (z 2 + 2)) 2 (z 2 + 2 + 2)).1 = 4294967287 by show ¬ v = 4294967287; omega)]
        refine Or.inr ⟨rfl, m9, _, ?_, by rw [psT_y s1, psT_y s2, e2]; rfl, ?_⟩
        · show va_up (va_up z 2 (z 2 + 2)) 2 (z 2 + 2 + 2) 1 = va_up (va_up z 2 (z 2 + 2)) 2 (z 2 + 2 + 2) 2 + m9
          rw [up_n (by decide), up_n (by decide), up_s]
          omega
        · obtain ⟨p1, p2, p6, ps⟩ := hp
          refine ⟨⟨?_, ?_, ?_, fun k hk => ?_⟩, ?_, rfl, ?_, ?_, ?_, fun k hk => ?_⟩
          · show va_up (va_up z 2 (z 2 + 2)) 2 (z 2 + 2 + 2) 1 ≤ 140
            rw [up_n (by decide), up_n (by decide)]; exact p1
          · show va_up (va_up z 2 (z 2 + 2)) 2 (z 2 + 2 + 2) 2 ≤ va_up (va_up z 2 (z 2 + 2)) 2 (z 2 + 2 + 2) 1
            rw [up_s, up_n (by decide), up_n (by decide)]; omega
          · show va_up (va_up z 2 (z 2 + 2)) 2 (z 2 + 2 + 2) 6 ≤ 96
            rw [up_n (by decide), up_n (by decide)]; exact p6
          · show rBegin i v 1 r (384 + 13 * k) < 4
            unfold rBegin
            rw [up_n (by omega), up_n (by omega), up_n (by omega)]
            unfold va_up
            split
            · decide
            · exact ps k hk
          · show va_up (va_up z 2 (z 2 + 2)) 2 (z 2 + 2 + 2) 7 < 4
            rw [up_n (by decide), up_n (by decide)]; exact h7
          · show x.1 2 = va_up (va_up z 2 (z 2 + 2)) 2 (z 2 + 2 + 2) 6
            rw [up_n (by decide), up_n (by decide)]; exact x2
          · show x.1 3 = va_up (va_up z 2 (z 2 + 2)) 2 (z 2 + 2 + 2) 7
            rw [up_n (by decide), up_n (by decide)]; exact x3
          · exact hR.setc i3 (fun k hk => rBegin_o hk) (by rw [blk_begin]; exact (hR.2.2.2.2.2 i i3).begin)
          · show va_up x.2.2.2.2.2.2.2 i (qBegin v (x.2.2.2.2.2.2.2 i)) k 0 < 2
            by_cases e : k = i
            · subst e
              rw [up_s]
              show 1 < 2
              decide
            · rw [up_n e]
              exact hi k hk
  · have e1 : rDg 2 (va_up z 2 (z 2 + 1)) tx = (4294967287, va_up z 2 (z 2 + 1)) := rDg_n (by rw [y1, y2]; exact c)
    rw [e1, if_pos rfl]
    refine Or.inl ⟨rfl, ?_⟩
    rw [psT_y s1]
    show _ = va_up z 2 (z 2 + 1) 2
    rw [y2]
    refine psT_e (by show 2 ≤ 6; decide) ?_
    by_cases k0 : n = 0
    · exact Or.inl k0
    · refine Or.inr ?_
      by_cases c9 : 48 ≤ tx (z 2 + 1) ∧ tx (z 2 + 1) ≤ 57
      · rw [stT_d (by show 2 ≤ 6; decide) c9.1 c9.2]
        show (if tx (z 2 + 1) - 48 < 3 ∧ _ then _ else (0, _) : Nat × vR).1 = 0
        rw [if_neg (by omega)]
      · exact stT_n (by show 2 ≤ 6; decide) c9
theorem TP.part {z r tx : Nat → Nat} {x : vR} {n : Nat} (h : TP z r x) (hn : z 1 = z 2 + (n + 1)) : PT tx (n + 1) z x (rPt z r tx) := by
  by_cases c0 : 48 ≤ tx (z 2) ∧ tx (z 2) ≤ 57
  · exact h.digit hn c0
  · by_cases c1 : tx (z 2) = 64
    · exact h.at hn c1
    · by_cases c2 : tx (z 2) = 111
      · exact h.owner hn c2
      · by_cases c3 : tx (z 2) = 115
        · exact h.chan hn c3
        · unfold rPt
          rw [if_neg c0, if_neg c1, if_neg c2, if_neg c3]
          refine Or.inl ⟨rfl, psT_n ?_⟩
          rw [stT_p h.2.2.1]
          unfold tFS
          rw [if_neg c1, if_neg c2, if_neg c3, if_neg (by omega)]
theorem TP.loop : ∀ (f : Nat) {z r tx : Nat → Nat} {x : vR} {n : Nat}, TP z r x → z 1 = z 2 + n → n < f →
    ((rLp f z r tx).1 = 0 ∧ (psT tx n (z 2) x).1 = (rLp f z r tx).2.1 2) ∨ ((rLp f z r tx).1 = 1 ∧ (psT tx n (z 2) x).1 = 4294967287 ∧ Rel (rLp f z r tx).2.2 (psT tx n (z 2) x).2.2)
  | 0, _, _, _, _, _, _, _, hf => absurd hf (by omega)
  | f + 1, z, r, tx, x, n, h, hn, hf => by
    unfold rLp
    cases n with
    | zero =>
      rw [if_neg (by omega)]
      refine Or.inr ⟨rfl, ?_⟩
      have e : psT tx 0 (z 2) x = (4294967287, x) := by
        show (if x.1 0 = 1 then 4294967287 else z 2, x) = _
        rw [if_pos h.2.2.1]
      rw [e]
      exact ⟨rfl, h.2.2.2.2.2.1⟩
    | succ n =>
      rw [if_pos (show z 2 < z 1 by omega)]
      rcases h.part (tx := tx) hn with ⟨e1, e2⟩ | ⟨e1, m, x', e2, e3, e4⟩
      · rw [if_pos e1]
        exact Or.inl ⟨rfl, e2⟩
      · rw [if_neg (by omega), e3]
        have hm : m < f := by
          have a1 := rPt_1 z r tx
          have a2 := (rPt_ok (tx := tx) h.1 (by omega)).2
          have : z 2 < (rPt z r tx).2.1 2 := by
            rcases a2 with q | q
            · omega
            · exact q.2
          omega
        exact TP.loop f e4 e2 hm
end REL9
