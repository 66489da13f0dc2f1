section REL3
theorem up_up {α : Type} {f : Nat → α} {i : Nat} {a b : α} : va_up (va_up f i a) i b = va_up f i b := by
  funext j
  unfold va_up
  split <;> rfl
theorem up_id {α : Type} {f : Nat → α} {i : Nat} : va_up f i (f i) = f := by
  funext j
  unfold va_up
  split
  · rename_i h; rw [h]
  · rfl
theorem Rel.valu {c v : Nat} {g : Nat → Nat} {e : vE} (hr : Rel g e) (hc : c < 96) : Rel (va_up g c v) (va_up e.1 c v, e.2) := by
  obtain ⟨h1, h2, h3, h4, ⟨h5, h6, h7, h8⟩, h9⟩ := hr
  refine ⟨fun k hk => ?_, fun k hk => ?_, fun k hk => ?_, fun k hk => ?_, ⟨?_, ?_, ?_, ?_⟩, fun h hh => by rw [blk_out (by omega)]; exact h9 h hh⟩
  · show va_up g c v k = va_up e.1 c v k
    unfold va_up
    split
    · rfl
    · exact h1 k hk
  · rw [up_n (by omega)]; exact h2 k hk
  · rw [up_n (by omega)]; exact h3 k hk
  · rw [up_n (by omega)]; exact h4 k hk
  · rw [up_n (by omega)]; exact h5
  · rw [up_n (by omega)]; exact h6
  · rw [up_n (by omega)]; exact h7
  · rw [up_n (by omega)]; exact h8
theorem blk_far {h i v : Nat} {g : Nat → Nat} (hh : h < 3) (hi : 423 ≤ i) : ∀ j, j < 13 → blk h (va_up g i v) j = blk h g j := fun j hj => by
  unfold blk
  exact up_n (by omega)
theorem Rel.edit {g : Nat → Nat} {e : vE} {bits s' : Nat → Nat} (hr : Rel g e) (s0 : s' 0 = e.2.2.2.2.2.1 0) (s1 : s' 1 = e.2.2.2.2.2.1 1) (s2 : s' 2 = e.2.2.2.2.2.1 2 + 1) (s3 : s' 3 = e.2.2.2.2.2.1 3) : Rel (va_up g 424 (g 424 + 1)) (e.1, e.2.1, e.2.2.1, e.2.2.2.1, bits, s', e.2.2.2.2.2.2) := by
  obtain ⟨h1, h2, h3, h4, ⟨h5, h6, h7, h8⟩, h9⟩ := hr
  refine ⟨fun k hk => ?_, fun k hk => ?_, fun k hk => ?_, fun k hk => ?_, ⟨?_, ?_, ?_, ?_⟩, fun h hh => (h9 h hh).cong (blk_far hh (by decide))⟩
  · rw [up_n (by omega)]; exact h1 k hk
  · rw [up_n (by omega)]; exact h2 k hk
  · rw [up_n (by omega)]; exact h3 k hk
  · rw [up_n (by omega)]; exact h4 k hk
  · rw [up_n (by decide)]; exact h5.trans s1.symm
  · rw [up_s, h6]; exact s2.symm
  · rw [up_n (by decide)]; exact h7.trans s3.symm
  · rw [up_n (by decide), h8]; show _ = (s' 0 + 1) % 3; rw [s0]
theorem rW2_288 {h c : Nat} {g : Nat → Nat} (hc : c < 96) : rW2 h c g (288 + c) = h + 1 := by
  unfold rW2
  rw [up_n (by omega), up_n (by omega), up_s]
theorem rW2_425 {h c : Nat} {g : Nat → Nat} (hc : c < 96) (hh : h < 3) : rW2 h c g 425 = g 425 + 1 := by
  unfold rW2
  rw [up_n (by omega), up_s, up_n (by omega)]
theorem rW2_12 {h c : Nat} {g : Nat → Nat} (hc : c < 96) (hh : h < 3) : rW2 h c g (384 + 13 * h + 12) = g (384 + 13 * h + 12) + 1 := by
  unfold rW2
  rw [up_s, up_n (by omega), up_n (by omega)]
theorem Rel.w2 {h c : Nat} {g : Nat → Nat} {e : vE} {bits s' : Nat → Nat} (hr : Rel g e) (hc : c < 96) (hh : h < 3) (s0 : s' 0 = e.2.2.2.2.2.1 0) (s1 : s' 1 = e.2.2.2.2.2.1 1) (s2 : s' 2 = e.2.2.2.2.2.1 2) (s3 : s' 3 = e.2.2.2.2.2.1 3 + 1) : Rel (rW2 h c g) (e.1, e.2.1, e.2.2.1, va_up e.2.2.2.1 c h, bits, s', va_up e.2.2.2.2.2.2 h (va_up (e.2.2.2.2.2.2 h) 4 (e.2.2.2.2.2.2 h 4 + 1))) := by
  obtain ⟨h1, h2, h3, h4, ⟨h5, h6, h7, h8⟩, h9⟩ := hr
  refine ⟨fun k hk => ?_, fun k hk => ?_, fun k hk => ?_, fun k hk => ?_, ⟨?_, ?_, ?_, ?_⟩, fun i hi => ?_⟩
  · rw [rW2_at (by omega) (by omega) (by omega)]; exact h1 k hk
  · rw [rW2_at (by omega) (by omega) (by omega)]; exact h2 k hk
  · rw [rW2_at (by omega) (by omega) (by omega)]; exact h3 k hk
  · show rW2 h c g (288 + k) = lwE (va_up e.2.2.2.1 c h k) ∧ lwE (va_up e.2.2.2.1 c h k) < 4
    by_cases z : k = c
    · subst z
      rw [rW2_288 hk, up_s]
      unfold lwE
      rw [if_neg (show ¬ h = 4294967287 by omega)]
      exact ⟨rfl, by omega⟩
    · rw [rW2_at (by omega) (by omega) (by omega), up_n z]
      exact h4 k hk
  · rw [rW2_at (by omega) (by omega) (by omega)]; exact h5.trans s1.symm
  · rw [rW2_at (by omega) (by omega) (by omega)]; exact h6.trans s2.symm
  · rw [rW2_425 hc hh, h7]; exact s3.symm
  · rw [rW2_at (by omega) (by omega) (by omega), h8]; show _ = (s' 0 + 1) % 3; rw [s0]
  · show CR (blk i (rW2 h c g)) (va_up e.2.2.2.2.2.2 h _ i)
    by_cases z : i = h
    · subst z
      rw [up_s]
      obtain ⟨⟨a0, a1, a2, a3⟩, a4, a5, a6, b⟩ := h9 i hi
      refine CR.cong (c := va_up (blk i g) 12 (blk i g 12 + 1)) ⟨⟨a0, a1, a2, congrArg (· + 1) a3⟩, a4, a5, a6, b⟩ (fun j hj => ?_)
      by_cases y : j = 12
      · subst y
        rw [up_s]
        exact rW2_12 hc hi
      · rw [up_n y]
        exact rW2_at (by omega) (by omega) (by omega)
    · rw [up_n z]
      exact (h9 i hi).cong fun j hj => rW2_at (by omega) (by omega) (by omega)
/-- what is watched -/
def Wt (z y : Nat → Nat) (e : vE) : Prop := (∀ k, k < 96 → y k = e.2.2.2.2.1 k) ∧ ((z 5 = 4294967287 ∧ e.2.2.2.2.2.1 4 = 4294967287) ∨ (z 5 < 96 ∧ z 4 < 3 ∧ e.2.2.2.2.2.1 4 = 100 * z 4 + z 5))
def RW (t : vR3) (e : vE) : Prop := Rel t.2.1 e ∧ Wt t.1 t.2.2 e
def mkE (e : vE) (h : Nat) (t : vT5) : vE := (t.1, e.2.1, e.2.2.1, t.2.1, t.2.2.1, t.2.2.2.1, va_up e.2.2.2.2.2.2 h t.2.2.2.2)
theorem wSx_0 (mark : Nat → Nat) (h c : Nat) (s : Nat → Nat) : wS mark h c s 0 = s 0 := by
  unfold wS
  rw [up_n (by decide)]
  split
  · split
    · rw [up_n (by decide), up_n (by decide)]
    · rw [up_n (by decide)]
  · rfl
theorem wSx_1 (mark : Nat → Nat) (h c : Nat) (s : Nat → Nat) : wS mark h c s 1 = s 1 := by
  unfold wS
  rw [up_n (by decide)]
  split
  · split
    · rw [up_n (by decide), up_n (by decide)]
    · rw [up_n (by decide)]
  · rfl
theorem wSx_2 (mark : Nat → Nat) (h c : Nat) (s : Nat → Nat) : wS mark h c s 2 = if mark c = 1 then s 2 + 1 else s 2 := by
  unfold wS
  rw [up_n (by decide)]
  split
  · split
    · rw [up_n (by decide), up_s]
    · rw [up_s]
  · rfl
theorem wSx_3 (mark : Nat → Nat) (h c : Nat) (s : Nat → Nat) : wS mark h c s 3 = s 3 + 1 := by
  unfold wS
  exact up_s
theorem wSx_4 (mark : Nat → Nat) (h c : Nat) (s : Nat → Nat) : wS mark h c s 4 = if mark c = 1 ∧ s 4 = 4294967287 then 100 * h + c else s 4 := by
  unfold wS
  rw [up_n (by decide)]
  by_cases m : mark c = 1
  · rw [if_pos m]
    by_cases n : s 4 = 4294967287
    · rw [if_pos n, if_pos ⟨m, n⟩, up_s]
    · rw [if_neg n, if_neg (fun z => n z.2), up_n (by decide)]
  · rw [if_neg m, if_neg (fun z => m z.1)]
theorem RW.write {h c v : Nat} {t : vR3} {e : vE} {u : vT5} (hr : RW t (mkE e h u)) (hc : c < 96) (hh : h < 3) : RW (rWr h c v t) (mkE e h (wrC e.2.2.1 h c v u)) := by
  obtain ⟨z, g, y⟩ := t
  obtain ⟨val, own, mark, lw, bits, s, ch⟩ := e
  obtain ⟨u1, u2, u3, u4, u5⟩ := u
  obtain ⟨hR, hy, hw⟩ := hr
  dsimp only at hR hy hw
  have hm : va_up g c v (192 + c) = mark c := by
    rw [up_n (by omega)]
    exact hR.2.2.1 c hc
  have hE : mkE (val, own, mark, lw, bits, s, ch) h (wrC mark h c v (u1, u2, u3, u4, u5)) = (va_up u1 c v, own, mark, va_up u2 c h, va_up u3 c (u3 c ||| 2 ^ h), wS mark h c u4, va_up (va_up ch h u5) h (va_up (va_up ch h u5 h) 4 (va_up ch h u5 h 4 + 1))) := by
    rw [up_up, up_s]
    rfl
  have hV := hR.valu (v := v) hc
  have hy9 : ∀ k, k < 96 → va_up y c (y c ||| 2 ^ h) k = va_up u3 c (u3 c ||| 2 ^ h) k := fun k hk => by
    unfold va_up
    split
    · rw [hy c hc]; rfl
    · exact hy k hk
  show RW _ (mkE (val, own, mark, lw, bits, s, ch) h (wrC mark h c v (u1, u2, u3, u4, u5)))
  rw [hE]
  have w0 := wSx_0 mark h c u4
  have w1 := wSx_1 mark h c u4
  have w2 := wSx_2 mark h c u4
  have w3' := wSx_3 mark h c u4
  have w4 := wSx_4 mark h c u4
  have hw9 : (z 5 = 4294967287 ∧ u4 4 = 4294967287) ∨ (z 5 < 96 ∧ z 4 < 3 ∧ u4 4 = 100 * z 4 + z 5) := hw
  by_cases m : mark c = 1
  · rw [if_pos m] at w2
    have hEd := hV.edit (bits := u3) (s' := va_up u4 2 (u4 2 + 1)) rfl rfl rfl rfl
    have hW2 := hEd.w2 (c := c) (h := h) (bits := va_up u3 c (u3 c ||| 2 ^ h)) (s' := wS mark h c u4) hc hh w0 w1 w2 w3'
    by_cases n : z 5 = 4294967287
    · rw [rWr_a (hm.trans m) n]
      refine ⟨hW2, hy9, Or.inr ⟨hc, hh, ?_⟩⟩
      show wS mark h c u4 4 = _
      rw [w4, if_pos ⟨m, (hw9.elim (fun q => q.2) (fun q => absurd n (by omega)))⟩]
      rfl
    · rw [rWr_b (hm.trans m) n]
      refine ⟨hW2, hy9, Or.inr ?_⟩
      have hw8 := hw9.resolve_left (fun q => n q.1)
      refine ⟨hw8.1, hw8.2.1, ?_⟩
      show wS mark h c u4 4 = _
      rw [w4, if_neg (by omega)]
      exact hw8.2.2
  · rw [if_neg m] at w2
    have hW2 := hV.w2 (c := c) (h := h) (bits := va_up u3 c (u3 c ||| 2 ^ h)) (s' := wS mark h c u4) hc hh w0 w1 w2 w3'
    rw [rWr_n (by rw [hm]; exact m)]
    refine ⟨hW2, hy9, ?_⟩
    show (z 5 = 4294967287 ∧ wS mark h c u4 4 = 4294967287) ∨ (z 5 < 96 ∧ z 4 < 3 ∧ wS mark h c u4 4 = 100 * z 4 + z 5)
    rw [w4, if_neg (fun q => m q.1)]
    exact hw9
end REL3
