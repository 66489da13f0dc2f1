section LAWX
/-- engines that differ in what is watched alone -/
def Sim (e f : vE) : Prop := f.1 = e.1 ∧ f.2.1 = e.2.1 ∧ f.2.2.1 = e.2.2.1 ∧ f.2.2.2.1 = e.2.2.2.1 ∧ (∀ k, k < 4 → f.2.2.2.2.2.1 k = e.2.2.2.2.2.1 k) ∧ f.2.2.2.2.2.2 = e.2.2.2.2.2.2
def Sim5 (t u : vT5) : Prop := u.1 = t.1 ∧ u.2.1 = t.2.1 ∧ (∀ k, k < 4 → u.2.2.2.1 k = t.2.2.2.1 k) ∧ u.2.2.2.2 = t.2.2.2.2
theorem wS_sim {mark s s' : Nat → Nat} {h c : Nat} (hs : ∀ k, k < 4 → s' k = s k) : ∀ k, k < 4 → wS mark h c s' k = wS mark h c s k := fun k hk => by
  match k, hk with
  | 0, _ => rw [wSx_0, wSx_0]; exact hs 0 (by decide)
  | 1, _ => rw [wSx_1, wSx_1]; exact hs 1 (by decide)
  | 2, _ => rw [wSx_2, wSx_2, hs 2 (by decide)]
  | 3, _ => rw [wSx_3, wSx_3, hs 3 (by decide)]
  | _ + 4, q => exact absurd q (by omega)
theorem Sim5.wr {mark : Nat → Nat} {h c v : Nat} {t u : vT5} (hq : Sim5 t u) : Sim5 (wrC mark h c v t) (wrC mark h c v u) := by
  obtain ⟨t1, t2, t3, t4, t5⟩ := t
  obtain ⟨u1, u2, u3, u4, u5⟩ := u
  obtain ⟨rfl, rfl, hs, rfl⟩ := hq
  exact ⟨rfl, rfl, wS_sim hs, rfl⟩
theorem Sim5.wu {mark : Nat → Nat} {h sr tg : Nat} {t u : vT5} (hq : Sim5 t u) : Sim5 (wuC mark h sr tg t) (wuC mark h sr tg u) := by
  obtain ⟨t1, t2, t3, t4, t5⟩ := t
  obtain ⟨u1, u2, u3, u4, u5⟩ := u
  have hq2 := hq
  obtain ⟨rfl, rfl, hs, rfl⟩ := hq2
  unfold wuC
  dsimp only
  split
  · exact hq.wr
  · split
    · exact hq.wr
    · split
      · exact hq.wr
      · split
        · exact hq
        · exact hq.wr.wr
theorem Sim5.sq {f : (Nat → Nat) → Nat → Nat} {t u : vT5} (hq : Sim5 t u) : Sim5 (sQ f t) (sQ f u) := ⟨hq.1, hq.2.1, hq.2.2.1, congrArg f hq.2.2.2⟩
theorem Sim5.du {own mark : Nat → Nat} {h : Nat} {t u : vT5} (hq : Sim5 t u) : Sim5 (duC own mark h t) (duC own mark h u) := by
  have e1 : u.1 = t.1 := hq.1
  have e5 : u.2.2.2.2 = t.2.2.2.2 := hq.2.2.2
  unfold duC unC
  rw [e5, e1]
  split
  · exact hq.sq
  · split
    · exact hq.sq
    · split
      · exact hq.sq
      · exact hq.wu.sq
theorem Sim.nextT {e f : vE} (hq : Sim e f) : nT (f.2.2.2.2.2.1 0) f.2.2.2.2.2.2 = nT (e.2.2.2.2.2.1 0) e.2.2.2.2.2.2 := by
  rw [hq.2.2.2.2.1 0 (by decide), hq.2.2.2.2.2]
theorem tk_sim {e f : vE} {h : Nat} (hq : Sim e f) : ∀ k, k < 4 → (tkE h f).2.2.2.2.2.1 k = (tkE h e).2.2.2.2.2.1 k := fun k hk => by
  show va_up (va_up f.2.2.2.2.2.1 0 h) 1 (f.2.2.2.2.2.1 1 + 1) k = va_up (va_up e.2.2.2.2.2.1 0 h) 1 (e.2.2.2.2.2.1 1 + 1) k
  rw [hq.2.2.2.2.1 1 (by decide)]
  unfold va_up
  split
  · rfl
  · split
    · rfl
    · exact hq.2.2.2.2.1 k hk
theorem Sim.tick {e f : vE} (hq : Sim e f) : Sim (tickC e) (tickC f) := by
  have hn := hq.nextT
  obtain ⟨h1, h2, h3, h4, h5, h6⟩ := id hq
  by_cases c : nT (e.2.2.2.2.2.1 0) e.2.2.2.2.2.2 = 4294967287
  · rw [tickC_n c, tickC_n (hn.trans c)]
    exact hq
  · obtain ⟨h, hh⟩ : ∃ h, h = nT (e.2.2.2.2.2.1 0) e.2.2.2.2.2.2 := ⟨_, rfl⟩
    have ch : ¬ h = 4294967287 := by rw [hh]; exact c
    have ht := tk_sim (h := h) hq
    by_cases d : e.2.2.2.2.2.2 h 5 = 4294967287
    · rw [tickC_r hh.symm ch d, tickC_r (hn.trans hh.symm) ch (by rw [h6]; exact d)]
      rw [h1, h2, h3, h4, h6]
      exact ⟨rfl, rfl, rfl, rfl, ht, rfl⟩
    · rw [tickC_u hh.symm ch d, tickC_u (hn.trans hh.symm) ch (by rw [h6]; exact d)]
      have hd := Sim5.du (own := e.2.1) (mark := e.2.2.1) (h := h) (t := (e.1, e.2.2.2.1, e.2.2.2.2.1, (tkE h e).2.2.2.2.2.1, e.2.2.2.2.2.2 h)) (u := (f.1, f.2.2.2.1, f.2.2.2.2.1, (tkE h f).2.2.2.2.2.1, f.2.2.2.2.2.2 h)) ⟨h1, h4, ht, by rw [h6]⟩
      rw [h2, h3]
      refine ⟨hd.1, h2, h3, hd.2.1, hd.2.2.1, ?_⟩
      show va_up f.2.2.2.2.2.2 h _ = va_up e.2.2.2.2.2.2 h _
      have hz := hd.2.2.2
      rw [h6] at hz ⊢
      rw [hz]
theorem Sim.run : ∀ (n : Nat) {e f : vE}, Sim e f → (runC n f).1 = (runC n e).1 ∧ Sim (runC n e).2 (runC n f).2
  | 0, _, _, hq => ⟨rfl, hq⟩
  | n + 1, e, f, hq => by
    show (if _ then _ else _ : Nat × vE).1 = (if _ then _ else _ : Nat × vE).1 ∧ Sim (if _ then _ else _ : Nat × vE).2 (if _ then _ else _ : Nat × vE).2
    rw [hq.nextT]
    by_cases c : nT (e.2.2.2.2.2.1 0) e.2.2.2.2.2.2 = 4294967287
    · rw [if_pos c, if_pos c]
      exact ⟨rfl, hq⟩
    · rw [if_neg c, if_neg c]
      have ih := Sim.run n hq.tick
      exact ⟨congrArg (· + 1) ih.1, ih.2⟩
theorem Sim.rel {e f : vE} {g : Nat → Nat} (hq : Sim e f) (hr : Rel g f) : Rel g e :=
  hr.same (fun k _ => by rw [hq.1]) (fun k _ => by rw [hq.2.1]) (fun k _ => by rw [hq.2.2.1]) (fun k _ => by rw [hq.2.2.2.1]) (fun k hk => (hq.2.2.2.2.1 k hk).symm) hq.2.2.2.2.2.symm
/-- what the reference's watch always is -/
def WO (z y : Nat → Nat) : Prop := (∀ k, k < 96 → y k < 8) ∧ (z 5 = 4294967287 ∨ (z 5 < 96 ∧ z 4 < 3))
theorem WO.cong {z z' y : Nat → Nat} (h : WO z y) (h4 : z' 4 = z 4) (h5 : z' 5 = z 5) : WO z' y := ⟨h.1, by rw [h4, h5]; exact h.2⟩
theorem WO.upd {z y : Nat → Nat} {i v : Nat} (h : WO z y) (h4 : i ≠ 4) (h5 : i ≠ 5) : WO (va_up z i v) y := h.cong (up_n (fun q => h4 q.symm)) (up_n (fun q => h5 q.symm))
theorem QR.wo {t : vR3} {e : vE} (h : QR t e) : WO t.1 t.2.2 := ⟨fun k hk => by rw [h.2.2.1 k hk]; exact h.1.2.2.2.1 k hk, h.2.2.2.elim (fun q => Or.inl q.1) (fun q => Or.inr ⟨q.1, q.2.1⟩)⟩
/-- the live engine as the reference watches it -/
def wch (z y : Nat → Nat) (e : vE) : vE := (e.1, e.2.1, e.2.2.1, e.2.2.2.1, y, va_up e.2.2.2.2.2.1 4 (if z 5 = 4294967287 then 4294967287 else 100 * z 4 + z 5), e.2.2.2.2.2.2)
theorem wch_sim {z y : Nat → Nat} {e : vE} : Sim e (wch z y e) := ⟨rfl, rfl, rfl, rfl, fun k hk => up_n (by omega), rfl⟩
theorem QZ.watch {z y g : Nat → Nat} {e : vE} (hw : WO z y) (hr : Rel g e) (he : eB e) : QZ z (z, g, y) (wch z y e) := by
  obtain ⟨b1, b2, b3, b4, b5, b6, b7⟩ := he
  have hs : va_up e.2.2.2.2.2.1 4 (if z 5 = 4294967287 then 4294967287 else 100 * z 4 + z 5) 4 = (if z 5 = 4294967287 then 4294967287 else 100 * z 4 + z 5) := up_s
  refine ⟨⟨⟨b1, b2, b3, hw.1, b5, ?_, b7⟩, hr.same (fun _ _ => rfl) (fun _ _ => rfl) (fun _ _ => rfl) (fun _ _ => rfl) (fun k hk => up_n (by omega)) rfl, fun k hk => rfl, ?_⟩, fun k _ _ => rfl⟩
  · show va_up e.2.2.2.2.2.1 4 (if z 5 = 4294967287 then 4294967287 else 100 * z 4 + z 5) 4 < 4294967296
    rw [hs]
    rcases hw.2 with q | q
    · rw [if_pos q]; decide
    · split <;> omega
  · rcases hw.2 with q | q
    · exact Or.inl ⟨q, hs.trans (if_pos q)⟩
    · exact Or.inr ⟨q.1, q.2, hs.trans (if_neg (by omega))⟩
/-- a run of the live engine -/
theorem run_live {z y g : Nat → Nat} {e : vE} (n : Nat) (hw : WO z y) (hr : Rel g e) (he : eB e) : (rRun n (z, g, y)).1 = (runC n e).1 ∧ Rel (rRun n (z, g, y)).2.2.1 (runC n e).2 ∧ WO (rRun n (z, g, y)).2.1 (rRun n (z, g, y)).2.2.2 ∧ ∀ k, k ≠ 4 → k ≠ 5 → (rRun n (z, g, y)).2.1 k = z k := by
  have h1 := (QZ.watch hw hr he).run n
  have h2 := (wch_sim (z := z) (y := y) (e := e)).run n
  exact ⟨h1.1.trans h2.1, h2.2.rel h1.2.1.2.1, h1.2.1.wo, h1.2.2⟩
/-- engines that differ in channels but h that don't run -/
def SimH (h : Nat) (e f : vE) : Prop := f.1 = e.1 ∧ f.2.1 = e.2.1 ∧ f.2.2.1 = e.2.2.1 ∧ f.2.2.2.1 = e.2.2.2.1 ∧ f.2.2.2.2.1 = e.2.2.2.2.1 ∧ f.2.2.2.2.2.1 = e.2.2.2.2.2.1 ∧ f.2.2.2.2.2.2 h = e.2.2.2.2.2.2 h ∧ ∀ k, k < 3 → k ≠ h → e.2.2.2.2.2.2 k 0 ≠ 1 ∧ f.2.2.2.2.2.2 k 0 ≠ 1
theorem SimH.st {h : Nat} {e f : vE} (hq : SimH h e f) {k : Nat} (hk : k < 3) : f.2.2.2.2.2.2 k 0 = 1 ↔ e.2.2.2.2.2.2 k 0 = 1 := by
  obtain ⟨-, -, -, -, -, -, h7, h8⟩ := hq
  by_cases c : k = h
  · subst c
    rw [h7]
  · have := h8 k hk c
    exact ⟨fun q => absurd q this.2, fun q => absurd q this.1⟩
theorem SimH.nextT {h : Nat} {e f : vE} (hq : SimH h e f) : nT (f.2.2.2.2.2.1 0) f.2.2.2.2.2.2 = nT (e.2.2.2.2.2.1 0) e.2.2.2.2.2.2 := by
  have e0 : f.2.2.2.2.2.1 = e.2.2.2.2.2.1 := hq.2.2.2.2.2.1
  rw [e0]
  have s1 := hq.st (k := (e.2.2.2.2.2.1 0 + 1) % 3) (by omega)
  have s2 := hq.st (k := (e.2.2.2.2.2.1 0 + 2) % 3) (by omega)
  have s3 := hq.st (k := (e.2.2.2.2.2.1 0 + 3) % 3) (by omega)
  unfold nT
  by_cases c1 : e.2.2.2.2.2.2 ((e.2.2.2.2.2.1 0 + 1) % 3) 0 = 1
  · rw [if_pos c1, if_pos (s1.mpr c1)]
  · rw [if_neg c1, if_neg (fun q => c1 (s1.mp q))]
    by_cases c2 : e.2.2.2.2.2.2 ((e.2.2.2.2.2.1 0 + 2) % 3) 0 = 1
    · rw [if_pos c2, if_pos (s2.mpr c2)]
    · rw [if_neg c2, if_neg (fun q => c2 (s2.mp q))]
      by_cases c3 : e.2.2.2.2.2.2 ((e.2.2.2.2.2.1 0 + 3) % 3) 0 = 1
      · rw [if_pos c3, if_pos (s3.mpr c3)]
      · rw [if_neg c3, if_neg (fun q => c3 (s3.mp q))]
theorem nT_busy {lt : Nat} {ch : Nat → Nat → Nat} (h : nT lt ch ≠ 4294967287) : nT lt ch < 3 ∧ ch (nT lt ch) 0 = 1 := by
  unfold nT at h ⊢
  split
  · rename_i c; exact ⟨by omega, c⟩
  · split
    · rename_i c; exact ⟨by omega, c⟩
    · split
      · rename_i c; exact ⟨by omega, c⟩
      · rename_i c1 c2 c3
        rw [if_neg c1, if_neg c2, if_neg c3] at h
        exact absurd rfl h
theorem SimH.tick {h : Nat} {e f : vE} (hq : SimH h e f) : SimH h (tickC e) (tickC f) := by
  have hn := hq.nextT
  obtain ⟨h1, h2, h3, h4, h5, h6, h7, h8⟩ := id hq
  by_cases c : nT (e.2.2.2.2.2.1 0) e.2.2.2.2.2.2 = 4294967287
  · rw [tickC_n c, tickC_n (hn.trans c)]
    exact hq
  · have hb := nT_busy c
    have hi : nT (e.2.2.2.2.2.1 0) e.2.2.2.2.2.2 = h := by
      by_cases z : nT (e.2.2.2.2.2.1 0) e.2.2.2.2.2.2 = h
      · exact z
      · exact absurd hb.2 (h8 _ hb.1 z).1
    have ch : ¬ h = 4294967287 := by rw [← hi]; exact c
    have ht : (tkE h f).2.2.2.2.2.1 = (tkE h e).2.2.2.2.2.1 := by
      show va_up (va_up f.2.2.2.2.2.1 0 h) 1 (f.2.2.2.2.2.1 1 + 1) = va_up (va_up e.2.2.2.2.2.1 0 h) 1 (e.2.2.2.2.2.1 1 + 1)
      rw [h6]
    have oth : ∀ (q q' : Nat → Nat) k, k < 3 → k ≠ h → va_up e.2.2.2.2.2.2 h q k 0 ≠ 1 ∧ va_up f.2.2.2.2.2.2 h q' k 0 ≠ 1 := fun q q' k hk hn9 => by
      rw [up_n hn9, up_n hn9]
      exact h8 k hk hn9
    by_cases d : e.2.2.2.2.2.2 h 5 = 4294967287
    · rw [tickC_r hi ch d, tickC_r (hn.trans hi) ch (by rw [h7]; exact d)]
      refine ⟨h1, h2, ?_, h4, h5, ht, ?_, oth _ _⟩
      · show rdM f.2.2.1 (f.2.2.2.2.2.2 h) = rdM e.2.2.1 (e.2.2.2.2.2.2 h)
        rw [h3, h7]
      · show va_up f.2.2.2.2.2.2 h _ h = va_up e.2.2.2.2.2.2 h _ h
        rw [up_s, up_s, h1, h7]
    · rw [tickC_u hi ch d, tickC_u (hn.trans hi) ch (by rw [h7]; exact d)]
      have hd : duC f.2.1 f.2.2.1 h (f.1, f.2.2.2.1, f.2.2.2.2.1, (tkE h f).2.2.2.2.2.1, f.2.2.2.2.2.2 h) = duC e.2.1 e.2.2.1 h (e.1, e.2.2.2.1, e.2.2.2.2.1, (tkE h e).2.2.2.2.2.1, e.2.2.2.2.2.2 h) := by
        rw [h1, h2, h3, h4, h5, ht, h7]
      rw [hd]
      refine ⟨rfl, h2, h3, rfl, rfl, rfl, ?_, oth _ _⟩
      show va_up f.2.2.2.2.2.2 h _ h = va_up e.2.2.2.2.2.2 h _ h
      rw [up_s, up_s]
theorem SimH.run {h : Nat} : ∀ (n : Nat) {e f : vE}, SimH h e f → SimH h (runC n e).2 (runC n f).2
  | 0, _, _, hq => hq
  | n + 1, e, f, hq => by
    rw [runC_s, runC_s]
    exact SimH.run n hq.tick
/-- a channel that another looks past -/
def idl (i : Nat) (e : vE) : vE := setC e i (va_up (qBc 0 (e.2.2.2.2.2.2 i)) 1 0)
theorem QZ.toIdl {z0 z g y : Nat → Nat} {e : vE} {i : Nat} (hq : QZ z0 (z, g, y) e) (hi : i < 3) : QZ z0 (z, rBegin i 0 0 g, y) (idl i e) := by
  refine ⟨⟨eB_setC hq.1.1 ?_, hq.1.2.1.setc hi (fun k hk => rBegin_o hk) ?_, hq.1.2.2⟩, hq.2⟩
  · have := qB_bc (c := 0) (hq.1.1.2.2.2.2.2.2 i hi) (by decide)
    exact ⟨this.1, by show 0 < 100; decide, this.2.2⟩
  · rw [blk_begin]
    obtain ⟨⟨a0, a1, a2, a3⟩, a4, a5, a6, b⟩ := hq.1.2.1.2.2.2.2.2 i hi
    exact ⟨⟨rfl, rfl, a2, a3⟩, fun z => absurd z (by show ¬ (0 = 3); decide), fun _ => rfl, Or.inl ⟨rfl, rfl⟩, b⟩
theorem QZ.alone {z0 z g y : Nat → Nat} {e : vE} {h : Nat} (hq : QZ z0 (z, g, y) e) (hh : h < 3) : ∃ f, QZ z0 (z, alR h g, y) f ∧ SimH h (alC h e) f := by
  have a1 : ∀ k, k < 3 → k ≠ h → (alC h e).2.2.2.2.2.2 k 0 ≠ 1 := fun k hk hn => by
    show (if k < 3 ∧ k ≠ h then qBc 0 (e.2.2.2.2.2.2 k) else e.2.2.2.2.2.2 k) 0 ≠ 1
    rw [if_pos ⟨hk, hn⟩]
    show (0 : Nat) ≠ 1
    decide
  have a2 : (alC h e).2.2.2.2.2.2 h = e.2.2.2.2.2.2 h := if_neg (fun q => q.2 rfl)
  match h, hh with
  | 0, _ =>
    refine ⟨idl 2 (idl 1 e), (hq.toIdl (i := 1) (by decide)).toIdl (by decide), rfl, rfl, rfl, rfl, rfl, rfl, a2.symm, fun k hk hn => ⟨a1 k hk hn, ?_⟩⟩
    match k, hk with
    | 0, _ => exact absurd rfl hn
    | 1, _ => exact (by decide : (0 : Nat) ≠ 1)
    | 2, _ => exact (by decide : (0 : Nat) ≠ 1)
    | _ + 3, q => exact absurd q (by omega)
  | 1, _ =>
    refine ⟨idl 2 (idl 0 e), (hq.toIdl (i := 0) (by decide)).toIdl (by decide), rfl, rfl, rfl, rfl, rfl, rfl, a2.symm, fun k hk hn => ⟨a1 k hk hn, ?_⟩⟩
    match k, hk with
    | 0, _ => exact (by decide : (0 : Nat) ≠ 1)
    | 1, _ => exact absurd rfl hn
    | 2, _ => exact (by decide : (0 : Nat) ≠ 1)
    | _ + 3, q => exact absurd q (by omega)
  | 2, _ =>
    refine ⟨idl 1 (idl 0 e), (hq.toIdl (i := 0) (by decide)).toIdl (by decide), rfl, rfl, rfl, rfl, rfl, rfl, a2.symm, fun k hk hn => ⟨a1 k hk hn, ?_⟩⟩
    match k, hk with
    | 0, _ => exact (by decide : (0 : Nat) ≠ 1)
    | 1, _ => exact (by decide : (0 : Nat) ≠ 1)
    | 2, _ => exact absurd rfl hn
    | _ + 3, q => exact absurd q (by omega)
  | _ + 3, q => exact absurd q (by omega)
theorem Rel.wrote {g : Nat → Nat} {e : vE} (hr : Rel g e) {h : Nat} (hh : h < 3) : g (384 + 13 * h + 12) = e.2.2.2.2.2.2 h 4 := (hr.2.2.2.2.2 h hh).1.2.2.2
/-- the state between two calls, and what is watched -/
def LX : LSt → Prop
  | (n, tx, r, ho, hs, zf, wo, sn, e, t, s0, s1, z, rr, g, tr, d, kp, ik, y, mt, fo) => LInv (n, tx, r, ho, hs, zf, wo, sn, e, t, s0, s1, z, rr, g, tr, d, kp, ik, y, mt, fo) ∧ WO z y
theorem V_icmp_same {l : Launch} {G : vG} {M : vM} {Γ : vF} {k n pc : Nat} {L : List (Option Value)} {st : List Value} {X : List va_W} {off : Int} {tgt : Nat} {x y : Int32} (h : x = y) (d : decode M.1 pc = .ok (.if_icmp .eq off, 3)) (ht : (pc : Int) + off = (tgt : Int))
    (kk : V l G M Γ k n tgt L st X) : V l G M Γ k n pc L (.int x :: .int y :: st) X := by
  intro ok H locs ls hl hP hD hS
  obtain ⟨hx, hb, hml, hown, hts, ⟨hK, hNst⟩, hA, hlk⟩ := id ok
  exact lv_icmp_eq hx hb d ht (fun _ => kk ok _ _ _ hl hP hD hS) (fun h9 => absurd h.symm h9)
end LAWX
