section REL1
/-- the cells of channel h of the reference's array -/
def blk (h : Nat) (g : Nat → Nat) : Nat → Nat := fun j => g (384 + 13 * h + j)
theorem blk_up {h i v : Nat} {g : Nat → Nat} : blk h (va_up g (384 + 13 * h + i) v) = va_up (blk h g) i v := by
  funext j
  unfold blk va_up
  by_cases e : j = i
  · rw [if_pos e, if_pos (by omega)]
  · rw [if_neg e, if_neg (by omega)]
theorem blk_up0 {h v : Nat} {g : Nat → Nat} : blk h (va_up g (384 + 13 * h) v) = va_up (blk h g) 0 v := blk_up (i := 0)
theorem blk_out {h i v : Nat} {g : Nat → Nat} (hi : i < 384) : blk h (va_up g i v) = blk h g := by
  funext j
  unfold blk
  exact up_n (by omega)
/-- a channel of the reference and one of the class -/
def CR (c q : Nat → Nat) : Prop := (c 0 = q 0 ∧ c 1 = q 1 ∧ c 11 = q 3 ∧ c 12 = q 4) ∧ (q 0 = 3 → c 2 = q 2) ∧ (q 0 ≠ 3 → q 2 = 4294967287) ∧ ((c 4 = 0 ∧ q 5 = 4294967287) ∨ (c 4 = q 7 ∧ 1 ≤ q 7 ∧ q 7 ≤ 6 ∧ q 5 ≤ 90 ∧ c 3 = q 5 ∧ c 10 = q 6 ∧ c 5 = q 8 ∧ c 6 = q 9 ∧ c 7 = q 10 ∧ c 8 = q 11 ∧ c 9 = q 12)) ∧ (c 3 ≤ 90 ∧ c 5 < 100 ∧ c 6 < 100 ∧ c 7 < 100 ∧ c 8 < 100 ∧ c 9 < 100 ∧ c 10 < 100)
theorem CR.cong {c c' q : Nat → Nat} (h : CR c q) (e : ∀ j, j < 13 → c' j = c j) : CR c' q := by
  unfold CR
  rw [e 0 (by decide), e 1 (by decide), e 2 (by decide), e 3 (by decide), e 4 (by decide), e 5 (by decide), e 6 (by decide), e 7 (by decide), e 8 (by decide), e 9 (by decide), e 10 (by decide), e 11 (by decide), e 12 (by decide)]
  exact h
def lwE (v : Nat) : Nat := if v = 4294967287 then 0 else v + 1
/-- an engine of the reference and one of the class -/
def Rel (g : Nat → Nat) (e : vE) : Prop := (∀ k, k < 96 → g k = e.1 k) ∧ (∀ k, k < 96 → g (96 + k) = e.2.1 k) ∧ (∀ k, k < 96 → g (192 + k) = e.2.2.1 k) ∧ (∀ k, k < 96 → g (288 + k) = lwE (e.2.2.2.1 k) ∧ lwE (e.2.2.2.1 k) < 4) ∧ (g 423 = e.2.2.2.2.2.1 1 ∧ g 424 = e.2.2.2.2.2.1 2 ∧ g 425 = e.2.2.2.2.2.1 3 ∧ g 426 = (e.2.2.2.2.2.1 0 + 1) % 3) ∧ ∀ h, h < 3 → CR (blk h g) (e.2.2.2.2.2.2 h)
theorem Rel.cong {g g' : Nat → Nat} {e : vE} (hr : Rel g e) (hg : ∀ k, k < 427 → g' k = g k) : Rel g' e := by
  obtain ⟨h1, h2, h3, h4, ⟨h5, h6, h7, h8⟩, h9⟩ := hr
  refine ⟨fun k hk => ?_, fun k hk => ?_, fun k hk => ?_, fun k hk => ?_, ⟨?_, ?_, ?_, ?_⟩, fun h hh => (h9 h hh).cong fun j hj => hg _ (by omega)⟩
  · rw [hg k (by omega)]; exact h1 k hk
  · rw [hg _ (by omega)]; exact h2 k hk
  · rw [hg _ (by omega)]; exact h3 k hk
  · rw [hg _ (by omega)]; exact h4 k hk
  · rw [hg _ (by omega)]; exact h5
  · rw [hg _ (by omega)]; exact h6
  · rw [hg _ (by omega)]; exact h7
  · rw [hg _ (by omega)]; exact h8
/-- nothing changes but channel h -/
theorem Rel.setc {h : Nat} {g g' : Nat → Nat} {e : vE} {q' : Nat → Nat} (hr : Rel g e) (hh : h < 3) (hs : ∀ k, (k < 384 + 13 * h ∨ 384 + 13 * h + 13 ≤ k) → g' k = g k) (hc : CR (blk h g') q') : Rel g' (setC e h q') := by
  obtain ⟨h1, h2, h3, h4, ⟨h5, h6, h7, h8⟩, h9⟩ := hr
  refine ⟨fun k hk => ?_, fun k hk => ?_, fun k hk => ?_, fun k hk => ?_, ⟨?_, ?_, ?_, ?_⟩, fun i hi => ?_⟩
  · rw [hs k (by omega)]; exact h1 k hk
  · rw [hs _ (by omega)]; exact h2 k hk
  · rw [hs _ (by omega)]; exact h3 k hk
  · rw [hs _ (by omega)]; exact h4 k hk
  · rw [hs _ (by omega)]; exact h5
  · rw [hs _ (by omega)]; exact h6
  · rw [hs _ (by omega)]; exact h7
  · rw [hs _ (by omega)]; exact h8
  · by_cases e9 : i = h
    · subst e9
      show CR _ (va_up e.2.2.2.2.2.2 i q' i)
      rw [up_s]
      exact hc
    · show CR _ (va_up e.2.2.2.2.2.2 h q' i)
      rw [up_n e9]
      exact (h9 i hi).cong fun j hj => hs _ (by omega)
theorem rFail_o {h c k : Nat} {g : Nat → Nat} (hk : k < 384 + 13 * h ∨ 384 + 13 * h + 13 ≤ k) : rFail h c g k = g k := by
  unfold rFail
  rw [up_n (by omega), up_n (by omega), up_n (by omega)]
theorem rEnd_o {h p k : Nat} {g : Nat → Nat} (hk : k < 384 + 13 * h ∨ 384 + 13 * h + 13 ≤ k) : rEnd h p g k = g k := by
  unfold rEnd
  rw [up_n (by omega), up_n (by omega)]
theorem rBegin_o {h p s k : Nat} {g : Nat → Nat} (hk : k < 384 + 13 * h ∨ 384 + 13 * h + 13 ≤ k) : rBegin h p s g k = g k := by
  unfold rBegin
  rw [up_n (by omega), up_n (by omega), up_n (by omega), up_n (by omega)]
theorem blk_fail {h c : Nat} {g : Nat → Nat} : blk h (rFail h c g) = va_up (va_up (va_up (blk h g) 0 3) 2 c) 4 0 := by
  unfold rFail
  rw [blk_up, blk_up, blk_up0]
theorem blk_end {h p : Nat} {g : Nat → Nat} : blk h (rEnd h p g) = va_up (va_up (blk h g) 1 p) 4 0 := by
  unfold rEnd
  rw [blk_up, blk_up]
theorem blk_begin {h p s : Nat} {g : Nat → Nat} : blk h (rBegin h p s g) = va_up (va_up (va_up (va_up (blk h g) 0 s) 1 p) 2 0) 4 0 := by
  unfold rBegin
  rw [blk_up, blk_up, blk_up, blk_up0]
theorem CR.fail {c q : Nat → Nat} {w : Nat} (h : CR c q) : CR (va_up (va_up (va_up c 0 3) 2 w) 4 0) (qFail w q) := by
  obtain ⟨⟨a0, a1, a2, a3⟩, a4, a5, a6, b⟩ := h
  exact ⟨⟨rfl, a1, a2, a3⟩, fun _ => rfl, fun z => absurd rfl z, Or.inl ⟨rfl, rfl⟩, b⟩
theorem CR.go {c q : Nat → Nat} {w : Nat} (h : CR c q) : CR (va_up (va_up c 1 w) 4 0) (qGo w q) := by
  obtain ⟨⟨a0, a1, a2, a3⟩, a4, a5, a6, b⟩ := h
  exact ⟨⟨a0, rfl, a2, a3⟩, a4, a5, Or.inl ⟨rfl, rfl⟩, b⟩
theorem CR.begin {c q : Nat → Nat} {w : Nat} (h : CR c q) : CR (va_up (va_up (va_up (va_up c 0 1) 1 w) 2 0) 4 0) (qBegin w q) := by
  obtain ⟨⟨a0, a1, a2, a3⟩, a4, a5, a6, b⟩ := h
  exact ⟨⟨rfl, rfl, a2, a3⟩, fun z => absurd z (by show ¬ (1 = 3); decide), fun _ => rfl, Or.inl ⟨rfl, rfl⟩, b⟩
theorem CR.idle {c q : Nat → Nat} {w : Nat} (h : CR c q) (hw : w = q 1) : CR (va_up (va_up (va_up (va_up c 0 0) 1 w) 2 0) 4 0) (qBc 0 q) := by
  obtain ⟨⟨a0, a1, a2, a3⟩, a4, a5, a6, b⟩ := h
  exact ⟨⟨rfl, hw, a2, a3⟩, fun z => absurd z (by show ¬ (0 = 3); decide), fun _ => rfl, Or.inl ⟨rfl, rfl⟩, b⟩
-- reading an order
theorem rMk_at {p k : Nat} {g : Nat → Nat} (hp : p ≤ 90) : rMk p g (192 + k) = if p ≤ k ∧ k < p + 6 then 1 else g (192 + k) := by
  unfold rMk va_up
  by_cases c : p ≤ k ∧ k < p + 6
  · rw [if_pos c]
    repeat' split
    all_goals first | rfl | (exfalso; omega)
  · rw [if_neg c, if_neg (by omega), if_neg (by omega), if_neg (by omega), if_neg (by omega), if_neg (by omega), if_neg (by omega)]
theorem rMk_hi {p k : Nat} {g : Nat → Nat} (hp : p ≤ 90) (hk : 288 ≤ k) : rMk p g k = g k := by
  unfold rMk
  rw [up_n (by omega), up_n (by omega), up_n (by omega), up_n (by omega), up_n (by omega), up_n (by omega)]
theorem Rel.marks {p : Nat} {g : Nat → Nat} {e : vE} (hr : Rel g e) (hp : p ≤ 90) : Rel (rMk p g) (e.1, e.2.1, (fun k => if p ≤ k ∧ k < p + 6 then 1 else e.2.2.1 k), e.2.2.2) := by
  obtain ⟨h1, h2, h3, h4, ⟨h5, h6, h7, h8⟩, h9⟩ := hr
  refine ⟨fun k hk => ?_, fun k hk => ?_, fun k hk => ?_, fun k hk => ?_, ⟨?_, ?_, ?_, ?_⟩, fun h hh => (h9 h hh).cong fun j hj => rMk_hi hp (by omega)⟩
  · rw [rMk_lo (by omega)]; exact h1 k hk
  · rw [rMk_lo (by omega)]; exact h2 k hk
  · rw [rMk_at hp, h3 k hk]
  · rw [rMk_hi hp (by omega)]; exact h4 k hk
  · rw [rMk_hi hp (by omega)]; exact h5
  · rw [rMk_hi hp (by omega)]; exact h6
  · rw [rMk_hi hp (by omega)]; exact h7
  · rw [rMk_hi hp (by omega)]; exact h8
theorem blk_mk {h p : Nat} {g : Nat → Nat} (hp : p ≤ 90) : blk h (rMk p g) = blk h g := by
  funext j
  exact rMk_hi hp (by omega)
theorem blk_G2 {h : Nat} {g : Nat → Nat} (hp : g (384 + 13 * h + 1) ≤ 90) : blk h (rG2 h g) = va_up (blk h g) 11 (blk h g 11 + 1) := by
  unfold rG2
  rw [blk_up, blk_mk hp]
  exact congrArg (fun v => va_up (blk h g) 11 (v + 1)) (rMk_hi hp (by omega))
theorem rG2_o {h k : Nat} {g : Nat → Nat} (hk : k < 384 + 13 * h ∨ 384 + 13 * h + 13 ≤ k) : rG2 h g k = rMk (g (384 + 13 * h + 1)) g k := by
  unfold rG2
  exact up_n (by omega)
theorem rCk_lo {h p i k : Nat} {g : Nat → Nat} (hk : k < 384) : rCk h p i g k = g k := by
  unfold rCk
  exact up_n (by omega)
theorem blk_Ck {h p i : Nat} {g : Nat → Nat} : blk h (rCk h p i g) = va_up (blk h g) (4 + i) (g (p + i)) := by
  unfold rCk
  rw [show 384 + 13 * h + 4 + i = 384 + 13 * h + (4 + i) by omega, blk_up]
theorem rG4_o {h k : Nat} {g : Nat → Nat} (hk : k < 384 + 13 * h ∨ 384 + 13 * h + 13 ≤ k) : rG4 h g k = rMk (g (384 + 13 * h + 1)) g k := by
  unfold rG4 rCk
  rw [up_n (by omega), up_n (by omega), up_n (by omega), up_n (by omega), up_n (by omega), up_n (by omega), up_n (by omega), up_n (by omega), rG2_o hk]
theorem blk_G4 {h p : Nat} {g : Nat → Nat} (hq : g (384 + 13 * h + 1) = p) (hp : p ≤ 90) : blk h (rG4 h g) = va_up (va_up (va_up (va_up (va_up (va_up (va_up (va_up (va_up (blk h g) 11 (blk h g 11 + 1)) 3 p) 10 0) 4 (g p)) 5 (g (p + 1))) 6 (g (p + 2))) 7 (g (p + 3))) 8 (g (p + 4))) 9 (g (p + 5)) := by
  unfold rG4
  rw [hq]
  have lo : ∀ k, k < 96 → va_up (va_up (rG2 h g) (384 + 13 * h + 3) p) (384 + 13 * h + 10) 0 k = g k := fun k hk => by
    rw [up_n (by omega), up_n (by omega), rG2_lo (by omega)]
  rw [blk_Ck, blk_Ck, blk_Ck, blk_Ck, blk_Ck, blk_Ck, blk_up, blk_up, blk_G2 (by omega)]
  rw [rCk_lo (by omega), rCk_lo (by omega), rCk_lo (by omega), rCk_lo (by omega), rCk_lo (by omega), lo _ (by omega)]
  rw [rCk_lo (by omega), rCk_lo (by omega), rCk_lo (by omega), rCk_lo (by omega), lo _ (by omega)]
  rw [rCk_lo (by omega), rCk_lo (by omega), rCk_lo (by omega), lo _ (by omega)]
  rw [rCk_lo (by omega), rCk_lo (by omega), lo _ (by omega)]
  rw [rCk_lo (by omega), lo _ (by omega)]
  rw [lo _ (by omega)]
  rfl
end REL1
