section ENG5
theorem n9 : 4294967287 < 4294967296 := by decide
theorem n04 : 0 < 4 := by decide
theorem n0c : 0 < 100 := by decide
theorem qB_up4 {q : Nat → Nat} {v : Nat} (h : qB q) : qB (va_up q 4 v) := h
theorem qB_bc {q : Nat → Nat} {c : Nat} (h : qB q) (hc : c < 4) : qB (qBc c q) := by
  obtain ⟨h0, h1, h2, h5, h6, h7, h8, h9, h10, h11, h12⟩ := h
  exact ⟨hc, h1, n9, Or.inl ⟨rfl, rfl⟩, n0c, h7, h8, h9, h10, h11, h12⟩
theorem qB_fail {q : Nat → Nat} {w : Nat} (h : qB q) (hw : w < 5) : qB (qFail w q) := by
  obtain ⟨h0, h1, h2, h5, h6, h7, h8, h9, h10, h11, h12⟩ := h
  exact ⟨show 3 < 4 by decide, h1, show w < 4294967296 by omega, Or.inl ⟨rfl, rfl⟩, n0c, h7, h8, h9, h10, h11, h12⟩
theorem qB_begin {q : Nat → Nat} {a : Nat} (h : qB q) (ha : a < 100) : qB (qBegin a q) := by
  obtain ⟨h0, h1, h2, h5, h6, h7, h8, h9, h10, h11, h12⟩ := h
  exact ⟨show 1 < 4 by decide, ha, n9, Or.inl ⟨rfl, rfl⟩, n0c, h7, h8, h9, h10, h11, h12⟩
theorem qB_go {q : Nat → Nat} {a : Nat} (h : qB q) (ha : a < 100) : qB (qGo a q) := by
  obtain ⟨h0, h1, h2, h5, h6, h7, h8, h9, h10, h11, h12⟩ := h
  exact ⟨h0, ha, h2, Or.inl ⟨rfl, rfl⟩, n0c, h7, h8, h9, h10, h11, h12⟩
theorem qB_reset {q : Nat → Nat} (h : qB q) : qB (qReset q) := by
  obtain ⟨h0, h1, h2, h5, h6, h7, h8, h9, h10, h11, h12⟩ := h
  exact ⟨n04, n0c, n9, Or.inl ⟨rfl, rfl⟩, n0c, h7, h8, h9, h10, h11, h12⟩
theorem qB_rd {val q : Nat → Nat} (h : qB q) (hv : ∀ k, k < 96 → val k < 100) (h5n : q 5 = 4294967287) : qB (rdQ val q) := by
  unfold rdQ
  split
  · exact qB_fail h (by decide)
  · rename_i hh
    have g : ∀ i, i < 6 → val (q 1 + i) < 100 := fun i hi => hv _ (by omega)
    have g0 := g 0 (by decide)
    have g1 := g 1 (by decide)
    have g2 := g 2 (by decide)
    have g3 := g 3 (by decide)
    have g4 := g 4 (by decide)
    have g5 := g 5 (by decide)
    rw [Nat.add_zero] at g0
    obtain ⟨h0, h1, h2, h5, h6, h7, h8, h9, h10, h11, h12⟩ := h
    have h60 : q 6 = 0 := by omega
    split
    · exact ⟨show 2 < 4 by decide, h1, n9, Or.inl ⟨rfl, rfl⟩, n0c, g0, g1, g2, g3, g4, g5⟩
    · split
      · exact ⟨show 3 < 4 by decide, h1, show 2 < 4294967296 by decide, Or.inl ⟨rfl, rfl⟩, n0c, g0, g1, g2, g3, g4, g5⟩
      · split
        · exact ⟨h0, g5, h2, Or.inl ⟨rfl, rfl⟩, n0c, g0, g1, g2, g3, g4, g5⟩
        · rename_i k0 k6 kc
          refine ⟨h0, h1, h2, Or.inr ⟨?_, ?_, ?_, ?_⟩, h6, g0, g1, g2, g3, g4, g5⟩
          · show q 1 ≤ 90
            omega
          · show 1 ≤ val (q 1)
            omega
          · show val (q 1) ≤ 6
            omega
          · show val (q 1) ≠ 6 → q 6 < val (q 1 + 3)
            intro z
            have : ¬ val (q 1 + 3) = 0 := fun e => kc ⟨z, e⟩
            omega
def tB (t : vT5) : Prop := (∀ k, k < 96 → t.1 k < 100) ∧ (∀ k, k < 96 → t.2.2.1 k < 8) ∧ t.2.2.2.1 0 < 3 ∧ t.2.2.2.1 4 < 4294967296 ∧ qB t.2.2.2.2
theorem up_all {f : Nat → Nat} {c v b : Nat} (h : ∀ k, k < 96 → f k < b) (hv : v < b) : ∀ k, k < 96 → va_up f c v k < b := by
  intro k hk
  unfold va_up
  split
  · exact hv
  · exact h k hk
theorem or_8 {a h : Nat} (ha : a < 8) (hh : h < 3) : a ||| 2 ^ h < 8 := by
  have : (2 : Nat) ^ h < 2 ^ 3 := Nat.pow_lt_pow_right (by decide) hh
  exact Nat.or_lt_two_pow (n := 3) ha this
theorem wS_0 {mark s : Nat → Nat} {h c : Nat} : wS mark h c s 0 = s 0 := by
  unfold wS
  rw [up_n (by decide)]
  split
  · split
    · rw [up_n (by decide), up_n (by decide)]
    · rw [up_n (by decide)]
  · rfl
theorem tB_wr {mark : Nat → Nat} {h c v : Nat} {t : vT5} (ht : tB t) (hh : h < 3) (hc : c < 96) (hv : v < 100) : tB (wrC mark h c v t) := by
  obtain ⟨h1, h2, h3, h4, h5⟩ := ht
  exact ⟨up_all h1 hv, up_all h2 (or_8 (h2 c hc) hh), by show wS mark h c _ 0 < 3; rw [wS_0]; exact h3, wS_4 h4 hh hc, qB_up4 h5⟩
theorem tB_wu {mark : Nat → Nat} {h sr tg : Nat} {t : vT5} (ht : tB t) (hh : h < 3) (hs : sr < 96) (hg : tg < 96) : tB (wuC mark h sr tg t) := by
  unfold wuC
  have h8 : t.2.2.2.2 8 < 100 := ht.2.2.2.2.2.2.2.2.2.2.1
  split
  · exact tB_wr ht hh hg h8
  · split
    · exact tB_wr ht hh hg (Nat.mod_lt _ (by decide))
    · split
      · exact tB_wr ht hh hg (ht.1 sr hs)
      · split
        · exact ht
        · exact tB_wr (tB_wr ht hh hs (ht.1 tg hg)) hh hg (ht.1 sr hs)
theorem wuC_k (mark : Nat → Nat) (h sr tg : Nat) (t : vT5) : (wuC mark h sr tg t).2.2.2.2 6 = t.2.2.2.2 6 ∧ (wuC mark h sr tg t).2.2.2.2 10 = t.2.2.2.2 10 ∧ (wuC mark h sr tg t).2.2.2.2 7 = t.2.2.2.2 7 ∧ (wuC mark h sr tg t).2.2.2.2 12 = t.2.2.2.2 12 := ⟨wuC_q _ _ _ _ _ _ (by decide), wuC_q _ _ _ _ _ _ (by decide), wuC_q _ _ _ _ _ _ (by decide), wuC_q _ _ _ _ _ _ (by decide)⟩
theorem qB_next {q : Nat → Nat} (h : qB q) (h5n : q 5 ≠ 4294967287) : qB (qNext q) := by
  obtain ⟨h0, h1, h2, h5, h6, h7, h8, h9, h10, h11, h12⟩ := h
  obtain ⟨k1, k2, k3, k4⟩ := h5.resolve_left (fun z => h5n z.1)
  unfold qNext
  split
  · rename_i hlt
    exact ⟨h0, h1, h2, Or.inr ⟨k1, k2, k3, fun _ => hlt⟩, by show q 6 + 1 < 100; omega, h7, h8, h9, h10, h11, h12⟩
  · exact ⟨h0, h12, h2, Or.inl ⟨rfl, rfl⟩, n0c, h7, h8, h9, h10, h11, h12⟩
theorem tB_sQ {f : (Nat → Nat) → Nat → Nat} {t : vT5} (ht : tB t) (hf : qB (f t.2.2.2.2)) : tB (sQ f t) := ⟨ht.1, ht.2.1, ht.2.2.1, ht.2.2.2.1, hf⟩
theorem tB_du {own mark : Nat → Nat} {h : Nat} {t : vT5} (ht : tB t) (hh : h < 3) (h5 : t.2.2.2.2 5 ≠ 4294967287) : tB (duC own mark h t) := by
  have hq := ht.2.2.2.2
  unfold duC
  split
  · refine tB_sQ ht ?_
    show qB (chC t.1 t.2.2.2.2)
    unfold chC
    split
    · exact qB_fail hq (by decide)
    · refine qB_go hq ?_
      split
      · exact hq.2.2.2.2.2.2.2.2.2.2
      · obtain ⟨k1, k2, k3, k4⟩ := hq.2.2.2.1.resolve_left (fun z => h5 z.1)
        omega
  · unfold unC
    split
    · exact tB_sQ ht (qB_fail hq (by decide))
    · split
      · exact tB_sQ ht (qB_fail hq (by decide))
      · rename_i hlt _
        have hw := tB_wu (mark := mark) ht hh (show dSr t.2.2.2.2 < 96 by omega) (show dTg t.2.2.2.2 < 96 by omega)
        exact tB_sQ hw (qB_next hw.2.2.2.2 (by rw [wuC_q _ _ _ _ _ _ (by decide)]; exact h5))
theorem nT_lt {lt : Nat} {ch : Nat → Nat → Nat} (h : nT lt ch ≠ 4294967287) : nT lt ch < 3 := by
  have := nT_cases lt ch
  omega
theorem ch_all {ch : Nat → Nat → Nat} {h : Nat} {q : Nat → Nat} (hc : ∀ k, k < 3 → qB (ch k)) (hq : qB q) : ∀ k, k < 3 → qB (va_up ch h q k) := by
  intro k hk
  unfold va_up
  split
  · exact hq
  · exact hc k hk
theorem eB_tick {e : vE} (he : eB e) : eB (tickC e) := by
  obtain ⟨val, own, mark, lw, bits, s, ch⟩ := e
  obtain ⟨hv, ho, hm, hb, hs0, hs4, hq⟩ := id he
  dsimp only at hv ho hm hb hs0 hs4 hq
  unfold tickC
  dsimp only
  split
  · exact he
  · rename_i hn
    have h3 := nT_lt hn
    split
    · rename_i h5
      refine ⟨hv, ho, ?_, hb, h3, hs4, ch_all hq (qB_rd (hq _ h3) hv h5)⟩
      intro k hk
      show rdM mark _ k < 2
      unfold rdM
      split
      · exact hm k hk
      · show (if _ then _ else _ : Nat) < 2
        split
        · decide
        · exact hm k hk
    · rename_i h5
      have ht := tB_du (own := own) (mark := mark) (h := nT (s 0) ch) (t := (val, lw, bits, va_up (va_up s 0 (nT (s 0) ch)) 1 (s 1 + 1), ch (nT (s 0) ch))) ⟨hv, hb, h3, hs4, hq _ h3⟩ h3 h5
      revert ht
      generalize duC own mark (nT (s 0) ch) (val, lw, bits, va_up (va_up s 0 (nT (s 0) ch)) 1 (s 1 + 1), ch (nT (s 0) ch)) = t
      obtain ⟨v2, l2, b2, s2, q2⟩ := t
      rintro ⟨t1, t2, t3, t4, t5⟩
      exact ⟨t1, ho, hm, t2, t3, t4, ch_all hq t5⟩
/-- up to n ticks: how many there were, and the engine behind them -/
def runC : Nat → vE → Nat × vE
  | 0, e => (0, e)
  | n + 1, e => if nT (e.2.2.2.2.2.1 0) e.2.2.2.2.2.2 = 4294967287 then (0, e) else ((runC n (tickC e)).1 + 1, (runC n (tickC e)).2)
theorem runC_idle {n : Nat} {e : vE} (h : nT (e.2.2.2.2.2.1 0) e.2.2.2.2.2.2 = 4294967287) : runC n e = (0, e) := by
  cases n with
  | zero => rfl
  | succ n => show (if _ then _ else _) = _; rw [if_pos h]
theorem runC_le : ∀ (n : Nat) (e : vE), (runC n e).1 ≤ n
  | 0, e => Nat.le_refl 0
  | n + 1, e => by
    show (if _ then _ else _ : Nat × vE).1 ≤ n + 1
    split
    · exact Nat.zero_le _
    · exact Nat.succ_le_succ (runC_le n _)
theorem eB_run : ∀ (n : Nat) (e : vE), eB e → eB (runC n e).2
  | 0, e, h => h
  | n + 1, e, h => by
    show eB (if _ then _ else _ : Nat × vE).2
    split
    · exact h
    · exact eB_run n _ (eB_tick h)
theorem tickC_idle {e : vE} (h : nT (e.2.2.2.2.2.1 0) e.2.2.2.2.2.2 = 4294967287) : tickC e = e := by
  unfold tickC
  rw [if_pos h]
/-- a world held as one item, for the callers -/
def eK (G : vG) (a : Nat → Nat) (e : vE) : va_W := (eX G a e).flatten
theorem Kc.conv {l : Launch} {G : vG} {y : MethodName} {ws : List Cond} {rm : Room} {as : List Value} {X X' : List va_W} {E E' : Option Value → List va_W → Prop} {mc ms : Nat} (h : Kc l G y ws rm as X E mc ms) (hX : X'.flatten = X.flatten) (hE : ∀ v Y, E v Y → ∃ Y' : List va_W, Y'.flatten = Y.flatten ∧ E' v Y') : Kc l G y ws rm as X' E' mc ms := by
  intro sz
  rw [hX]
  refine MetFree.mono (h sz) (fun a s hp => ?_) (fun _ _ _ _ _ h => h) (fun a st o t _ hq => ?_)
  · obtain ⟨h1, h2, h3, h4, h5⟩ := hp
    rw [hX] at h3 h5
    exact ⟨h1, h2, h3, h4, h5⟩
  · obtain ⟨⟨⟨v, Y, h1, h2, h3, h4⟩, h5⟩, h6⟩ := hq
    obtain ⟨Y', e1, e2⟩ := hE v Y h2
    exact ⟨⟨⟨v, Y', h1, e2, by rw [e1]; exact h3, by rw [e1]; exact h4⟩, h5⟩, h6⟩
theorem c_X2_tickK (l : Launch) (G : vG) (a : Nat → Nat) (e : vE) (hb : eB e) : Kc l G yX2_tick wsX2_tick rX2_tick [.ref (a 0)] [eK G a e] (fun r Y => r = some (.int (nI (if nT (e.2.2.2.2.2.1 0) e.2.2.2.2.2.2 = 4294967287 then 0 else 1))) ∧ Y = [eK G a (tickC e)]) 0 0 := by
  obtain ⟨val, own, mark, lw, bits, s, ch⟩ := e
  refine (c_X2_tick l G a val own mark lw bits s ch hb).conv (by rfl) (fun v Y hE => ?_)
  obtain ⟨h1, rfl⟩ := hE
  exact ⟨_, by simp [eK], h1, rfl⟩

abbrev rX2_letTicksGoBy : Room := { frames := 5, cells := 0, slots := 0, locals := 111 }
theorem vy_X2_letTicksGoBy : vY yX2_letTicksGoBy wsX2_letTicksGoBy cX2_letTicksGoBy 3 (some .int) 1 := ⟨⟨_, rfl⟩, by decide +kernel, by decide +kernel, by decide +kernel⟩
set_option maxHeartbeats 4000000 in
set_option maxRecDepth 100000 in
/-- Engine.letTicksGoBy -/
theorem c_X2_letTicksGoBy (l : Launch) (G : vG) (a : Nat → Nat) (e : vE) (n : Nat) (hn : n < 2147483648) (hb : eB e) : Kc l G yX2_letTicksGoBy wsX2_letTicksGoBy rX2_letTicksGoBy [.ref (a 0), .int (nI n)] [eK G a e] (fun r Y => r = some (.int (nI (runC n e).1)) ∧ Y = [eK G a (runC n e).2]) 0 0 := by
  refine V_enter (own := RX2) [some (.ref (a 0)), some (.int (nI n)), none] (by decide +kernel) rfl rfl (Nat.le_of_ble_eq_true rfl) rfl (fun Γ hR hin => ?_)
  have hkc : 0 ≤ 0 := Nat.le_refl 0
  have hks : 0 ≤ 0 := Nat.le_refl 0
  have LP2 : ∀ (fuel : Nat) (g : Nat) (f : vE), n + 1 ≤ g + fuel → g ≤ n → eB f → runC n e = (g + (runC (n - g) f).1, (runC (n - g) f).2) → V l G (cX2_letTicksGoBy, 3, wsX2_letTicksGoBy, RX2, rX2_letTicksGoBy) Γ 0 0 2 [some (.ref (a 0)), some (.int (nI n)), some (.int (nI g))] [] [eK G a f] := by
    intro fuel
    induction fuel with
    | zero => intro g f hf hg hbf hr; exact absurd hf (by omega)
    | succ fuel ih =>
      intro g f hf hg hbf hr
      refine V_iload_n (i := 2) dX2_letTicksGoBy_2 rfl rfl ?_
      refine V_iload_n (i := 1) dX2_letTicksGoBy_3 rfl rfl ?_
      refine V_icmp_ge (tgt := 22) (by omega) (by omega) dX2_letTicksGoBy_4 rfl (fun h_4 => ?_) (fun h_4 => ?_)
      · refine V_iload_n (i := 1) dX2_letTicksGoBy_22 rfl rfl ?_
        refine V_iret hR dX2_letTicksGoBy_23 hkc hks ?_
        obtain rfl : n = g := by omega
        rw [hr, Nat.sub_self]
        exact ⟨rfl, rfl⟩
      · refine V_aload_n (i := 0) dX2_letTicksGoBy_7 rfl rfl ?_
        refine V_callV (C := RX2) (q := 0) (ci := 2) (As := []) (rest := []) [0] (c_X2_tickK l G a f hbf) vy_X2_tick gX2_letTicksGoBy_X2_tick rfl rfl rfl rfl rfl rfl rfl ⟨rfl, rfl⟩ ⟨rfl, rfl⟩ ⟨Nat.zero_le _, Nat.zero_le _⟩ rfl dX2_letTicksGoBy_8 (fun v Y hE => ?_)
        obtain ⟨rfl, rfl⟩ := hE
        refine ⟨rfl, ?_⟩
        dsimp only [vfill, List.set_cons_zero, List.set_cons_succ, Option.toList, List.cons_append, List.nil_append, Nat.add_zero]
        refine V_if_ne (tgt := 16) (by split <;> decide) dX2_letTicksGoBy_11 rfl (fun h_11 => ?_) (fun h_11 => ?_)
        · refine V_iinc dX2_letTicksGoBy_16 rfl (nI_1 _) rfl rfl ?_
          dsimp only [List.set_cons_zero, List.set_cons_succ]
          refine V_goto (tgt := 2) dX2_letTicksGoBy_19 rfl ?_
          have e1 : nT (f.2.2.2.2.2.1 0) f.2.2.2.2.2.2 ≠ 4294967287 := fun z => by rw [if_pos z] at h_11; exact h_11 rfl
          refine ih (g + 1) (tickC f) (by omega) (by omega) (eB_tick hbf) ?_
          rw [hr, show n - g = (n - (g + 1)) + 1 by omega]
          show (g + (if _ then _ else _ : Nat × vE).1, (if _ then _ else _ : Nat × vE).2) = _
          rw [if_neg e1]
          show (g + ((runC (n - (g + 1)) (tickC f)).1 + 1), _) = _
          rw [show g + ((runC (n - (g + 1)) (tickC f)).1 + 1) = g + 1 + (runC (n - (g + 1)) (tickC f)).1 by omega]
        · refine V_iload_n (i := 2) dX2_letTicksGoBy_14 rfl rfl ?_
          refine V_iret hR dX2_letTicksGoBy_15 hkc hks ?_
          have e1 : nT (f.2.2.2.2.2.1 0) f.2.2.2.2.2.2 = 4294967287 := by
            by_cases z : nT (f.2.2.2.2.2.1 0) f.2.2.2.2.2.2 = 4294967287
            · exact z
            · rw [if_neg z] at h_11; exact absurd h_11 (by decide)
          rw [hr, runC_idle e1, tickC_idle e1]
          exact ⟨rfl, rfl⟩
  refine V_iconst (v := 0) dX2_letTicksGoBy_0 rfl ?_
  refine V_istore_n (i := 2) dX2_letTicksGoBy_1 rfl rfl rfl ?_
  dsimp only [List.set_cons_zero, List.set_cons_succ]
  exact LP2 (n + 1) 0 e (by omega) (Nat.zero_le n) hb (by simp)

end ENG5
