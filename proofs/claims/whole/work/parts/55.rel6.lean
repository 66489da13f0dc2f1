section REL6
-- what a tick leaves of the object's own numbers
theorem rWr_z {h c v k : Nat} {t : vR3} (h4 : k ≠ 4) (h5 : k ≠ 5) : (rWr h c v t).1 k = t.1 k := by
  unfold rWr
  split
  · show (if t.1 5 = 4294967287 then va_up (va_up t.1 4 h) 5 c else t.1) k = _
    split
    · rw [up_n h5, up_n h4]
    · rfl
  · rfl
theorem rWK_z {K h a b k : Nat} {t : vR3} (h4 : k ≠ 4) (h5 : k ≠ 5) : (rWK K h a b t).1 k = t.1 k := by
  unfold rWK
  repeat' split
  all_goals first
    | rfl
    | exact rWr_z h4 h5
    | exact (rWr_z h4 h5).trans (rWr_z h4 h5)
theorem rUnK_z {K h k : Nat} {t : vR3} (h4 : k ≠ 4) (h5 : k ≠ 5) : (rUnK K h t).2.1 k = t.1 k := by
  unfold rUnK
  repeat' split
  all_goals first
    | rfl
    | exact rWK_z h4 h5
theorem rTk_z {k : Nat} {t : vR3} (h4 : k ≠ 4) (h5 : k ≠ 5) : (rTk t).1 k = t.1 k := by
  unfold rTk rSt
  repeat' split
  all_goals first
    | rfl
    | exact rUnK_z (t := (t.1, rG1 _ t.2.1, t.2.2)) h4 h5
/-- a running engine, and the object's other numbers -/
def QZ (z0 : Nat → Nat) (t : vR3) (e : vE) : Prop := QR t e ∧ ∀ k, k ≠ 4 → k ≠ 5 → t.1 k = z0 k
theorem QZ.tick {z0 : Nat → Nat} {t : vR3} {e : vE} (h : QZ z0 t e) : QZ z0 (rTk t) (tickC e) := ⟨h.1.tick, fun k h4 h5 => (rTk_z h4 h5).trans (h.2 k h4 h5)⟩
theorem QZ.run {z0 : Nat → Nat} : ∀ (n : Nat) {t : vR3} {e : vE}, QZ z0 t e → (rRun n t).1 = (runC n e).1 ∧ QZ z0 (rRun n t).2 (runC n e).2
  | 0, _, _, h => ⟨rfl, h⟩
  | n + 1, t, e, h => by
    have hT := rT_nT h.1.2.1 h.1.1.2.2.2.2.1
    show (if _ then _ else _ : Nat × vR3).1 = (if _ then _ else _ : Nat × vE).1 ∧ QZ z0 (if _ then _ else _ : Nat × vR3).2 (if _ then _ else _ : Nat × vE).2
    rw [hT]
    by_cases c : nT (e.2.2.2.2.2.1 0) e.2.2.2.2.2.2 = 4294967287
    · rw [if_pos c, if_pos c]
      exact ⟨rfl, h⟩
    · rw [if_neg c, if_neg c]
      have ih := QZ.run n h.tick
      exact ⟨congrArg (· + 1) ih.1, ih.2⟩
theorem Rel.same {g : Nat → Nat} {e e' : vE} (hr : Rel g e) (h1 : ∀ k, k < 96 → e'.1 k = e.1 k) (h2 : ∀ k, k < 96 → e'.2.1 k = e.2.1 k) (h3 : ∀ k, k < 96 → e'.2.2.1 k = e.2.2.1 k) (h4 : ∀ k, k < 96 → e'.2.2.2.1 k = e.2.2.2.1 k)
    (s : ∀ k, k < 4 → e'.2.2.2.2.2.1 k = e.2.2.2.2.2.1 k) (hc : e'.2.2.2.2.2.2 = e.2.2.2.2.2.2) : Rel g e' := by
  obtain ⟨g1, g2, g3, g4, ⟨g5, g6, g7, g8⟩, g9⟩ := hr
  refine ⟨fun k hk => ?_, fun k hk => ?_, fun k hk => ?_, fun k hk => ?_, ⟨?_, ?_, ?_, ?_⟩, fun h hh => by rw [hc]; exact g9 h hh⟩
  · rw [h1 k hk]; exact g1 k hk
  · rw [h2 k hk]; exact g2 k hk
  · rw [h3 k hk]; exact g3 k hk
  · rw [h4 k hk]; exact g4 k hk
  · rw [s 1 (by decide)]; exact g5
  · rw [s 2 (by decide)]; exact g6
  · rw [s 3 (by decide)]; exact g7
  · rw [s 0 (by decide)]; exact g8
theorem cp_at {f g : Nat → Nat} {k : Nat} (h : k < 96) : cp f g k = f k := if_pos h
theorem Rel.copy {g : Nat → Nat} {e f : vE} (hr : Rel g e) : Rel g (cpC f e) := by
  refine hr.same (fun k hk => cp_at hk) (fun k hk => cp_at hk) (fun k hk => cp_at hk) (fun k hk => cp_at hk) (fun k hk => ?_) rfl
  match k, hk with
  | 0, _ => rfl
  | 1, _ => rfl
  | 2, _ => rfl
  | 3, _ => rfl
  | _ + 4, h => exact absurd h (by omega)
theorem cpE_0427 {g t : Nat → Nat} {k : Nat} (h : k < 427) : cpE 427 g 0 t 0 k = g k := by
  rw [cpE_lt (by omega) (by omega)]
  congr 1
  omega
/-- a look ahead begins -/
theorem QZ.try {z g t b : Nat → Nat} {e f : vE} (hr : Rel g e) (he : eB e) : QZ z (rTry z g t b) (cpC f e) := by
  refine ⟨⟨eB_cp he, (hr.copy).cong fun k hk => cpE_0427 hk, fun k hk => ?_, Or.inl ⟨rfl, rfl⟩⟩, fun k h4 h5 => ?_⟩
  · show fiK 96 b k = fil 0 f.2.2.2.2.1 k
    unfold fiK fil
    rw [if_pos hk, if_pos hk]
  · show va_up (va_up z 4 4294967287) 5 4294967287 k = z k
    rw [up_n h5, up_n h4]
-- the answers of looks ahead
theorem QR.val {t : vR3} {e : vE} (h : QR t e) {p : Nat} (hp : p < 96) : t.2.1 p = e.1 p := h.2.1.1 p hp
theorem QR.endOf {t : vR3} {e : vE} (hq : QR t e) {h : Nat} (hh : h < 3) : (if t.2.1 (384 + 13 * h) = 3 then t.2.1 (384 + 13 * h + 2) else if t.2.1 (384 + 13 * h) = 2 then 0 else 4294967287) = (if e.2.2.2.2.2.2 h 0 = 2 then 0 else e.2.2.2.2.2.2 h 2) := by
  obtain ⟨⟨a0, -, -, -⟩, a4, a5, -⟩ := hq.2.1.2.2.2.2.2 h hh
  have e0 : t.2.1 (384 + 13 * h) = e.2.2.2.2.2.2 h 0 := a0
  rw [e0]
  by_cases c : e.2.2.2.2.2.2 h 0 = 3
  · rw [if_pos c, if_neg (show ¬ e.2.2.2.2.2.2 h 0 = 2 by omega)]
    exact a4 c
  · rw [if_neg c]
    split
    · rfl
    · exact (a5 c).symm
theorem bc8_many (v : Nat) (h : v < 8) : (if bc8 v ≤ 1 then 0 else 1) = (if 2 < v ∧ v ≠ 4 then 1 else 0) := by
  match v, h with
  | 0, _ => decide
  | 1, _ => decide
  | 2, _ => decide
  | 3, _ => decide
  | 4, _ => decide
  | 5, _ => decide
  | 6, _ => decide
  | 7, _ => decide
  | _ + 8, h => exact absurd h (by omega)
theorem QR.many {t : vR3} {e : vE} (hq : QR t e) : vsum (fun k => if bc8 (e.2.2.2.2.1 k) ≤ 1 then 0 else 1) 96 = rMany t.2.2 := vsum_cong fun k hk => by
  rw [hq.2.2.1 k hk]
  exact bc8_many _ (hq.1.2.2.2.1 k hk)
theorem QZ.ends {z0 : Nat → Nat} {h : Nat} (hh : h < 3) : ∀ (f b : Nat) {t : vR3} {e : vE}, QZ z0 t e → (rEn h f b t).1 = (enC h f b e).1 ∧ QZ z0 (rEn h f b t).2 (enC h f b e).2
  | 0, _, _, _, hq => ⟨rfl, hq⟩
  | f + 1, b, t, e, hq => by
    have e0 : t.2.1 (384 + 13 * h) = e.2.2.2.2.2.2 h 0 := (hq.1.2.1.2.2.2.2.2 h hh).1.1
    show (if _ then _ else _ : Nat × vR3).1 = (if _ then _ else _ : Nat × vE).1 ∧ QZ z0 (if _ then _ else _ : Nat × vR3).2 (if _ then _ else _ : Nat × vE).2
    rw [e0]
    by_cases c : e.2.2.2.2.2.2 h 0 = 1
    · rw [if_pos c, if_pos c]
      exact QZ.ends hh f (b + 1) hq.tick
    · rw [if_neg c, if_neg c]
      exact ⟨rfl, hq⟩
-- the first edit
theorem wrC_s4 {mark : Nat → Nat} {h c v : Nat} {u : vT5} (hs : u.2.2.2.1 4 ≠ 4294967287) : (wrC mark h c v u).2.2.2.1 4 = u.2.2.2.1 4 := by
  show wS mark h c u.2.2.2.1 4 = _
  rw [wSx_4, if_neg (fun z => hs z.2)]
theorem wuC_s4 {mark : Nat → Nat} {h sr tg : Nat} {u : vT5} (hs : u.2.2.2.1 4 ≠ 4294967287) : (wuC mark h sr tg u).2.2.2.1 4 = u.2.2.2.1 4 := by
  unfold wuC
  repeat' split
  all_goals first
    | rfl
    | exact wrC_s4 hs
    | exact (wrC_s4 (by rw [wrC_s4 hs]; exact hs)).trans (wrC_s4 hs)
theorem duC_s4 {own mark : Nat → Nat} {h : Nat} {u : vT5} (hs : u.2.2.2.1 4 ≠ 4294967287) : (duC own mark h u).2.2.2.1 4 = u.2.2.2.1 4 := by
  unfold duC unC
  repeat' split
  all_goals first
    | rfl
    | exact wuC_s4 hs
theorem tickC_s4 {e : vE} (hs : e.2.2.2.2.2.1 4 ≠ 4294967287) : (tickC e).2.2.2.2.2.1 4 = e.2.2.2.2.2.1 4 := by
  by_cases c : nT (e.2.2.2.2.2.1 0) e.2.2.2.2.2.2 = 4294967287
  · rw [tickC_n c]
  · obtain ⟨h, hh⟩ : ∃ h, h = nT (e.2.2.2.2.2.1 0) e.2.2.2.2.2.2 := ⟨_, rfl⟩
    by_cases d : e.2.2.2.2.2.2 h 5 = 4294967287
    · rw [tickC_r hh.symm (by rw [hh]; exact c) d]
      rfl
    · rw [tickC_u hh.symm (by rw [hh]; exact c) d]
      exact duC_s4 (u := (e.1, e.2.2.2.1, e.2.2.2.2.1, (tkE h e).2.2.2.2.2.1, e.2.2.2.2.2.2 h)) hs
theorem runC_s {n : Nat} {e : vE} : (runC (n + 1) e).2 = (runC n (tickC e)).2 := by
  show (if _ then _ else _ : Nat × vE).2 = _
  by_cases c : nT (e.2.2.2.2.2.1 0) e.2.2.2.2.2.2 = 4294967287
  · rw [if_pos c, tickC_n c, runC_idle c]
  · rw [if_neg c]
theorem runC_s4 : ∀ (n : Nat) {e : vE}, e.2.2.2.2.2.1 4 ≠ 4294967287 → (runC n e).2.2.2.2.2.2.1 4 = e.2.2.2.2.2.1 4
  | 0, _, _ => rfl
  | n + 1, e, hs => by
    rw [runC_s, runC_s4 n (by rw [tickC_s4 hs]; exact hs), tickC_s4 hs]
theorem QZ.first {z0 : Nat → Nat} : ∀ (f : Nat) {t : vR3} {e : vE}, QZ z0 t e → ∃ e', QZ z0 (rFE f t) e' ∧ (runC f e).2.2.2.2.2.2.1 4 = e'.2.2.2.2.2.1 4
  | 0, _, e, h => ⟨e, h, rfl⟩
  | f + 1, t, e, h => by
    by_cases c : t.1 5 = 4294967287
    · rw [rFE_t c, runC_s]
      exact QZ.first f h.tick
    · rw [rFE_f c]
      have hs : e.2.2.2.2.2.1 4 ≠ 4294967287 := by
        rcases h.1.2.2.2 with q | q
        · exact absurd q.1 c
        · omega
      exact ⟨e, h, runC_s4 _ hs⟩
theorem QR.edit4 {t : vR3} {e : vE} (h : QR t e) : (if t.1 5 = 4294967287 then 4294967287 else 100 * t.1 4 + t.1 5) = e.2.2.2.2.2.1 4 := by
  rcases h.2.2.2 with q | q
  · rw [if_pos q.1]; exact q.2.symm
  · rw [if_neg (by omega)]; exact q.2.2.symm
end REL6
