section REL10
theorem rDg_k {hi k : Nat} {z tx : Nat → Nat} (h : k ≠ 2) : (rDg hi z tx).2 k = z k := rDg_o h
theorem rPt_k {k : Nat} {z r tx : Nat → Nat} (h2 : k ≠ 2) (h6 : k ≠ 6) (h7 : k ≠ 7) : (rPt z r tx).2.1 k = z k := by
  unfold rPt
  repeat' split
  all_goals first
    | rfl
    | exact rTw_o h2
    | exact (rTw_o h2).trans (up_n h2)
    | exact (rDg_o h2).trans (up_n h2)
    | (show va_up _ 6 _ k = z k; rw [up_n h6]; first | exact rTw_o h2 | exact (rTw_o h2).trans (up_n h2))
    | (show va_up _ 7 _ k = z k; rw [up_n h7]; exact (rDg_o h2).trans (up_n h2))
    | (show va_up _ 2 _ k = z k; rw [up_n h2]; exact (rDg_o h2).trans (up_n h2))
    | exact (rTw_o h2).trans ((rDg_o h2).trans (up_n h2))
theorem rLp_k {k : Nat} (h2 : k ≠ 2) (h6 : k ≠ 6) (h7 : k ≠ 7) : ∀ (f : Nat) {z r tx : Nat → Nat}, (rLp f z r tx).2.1 k = z k
  | 0, _, _, _ => rfl
  | f + 1, z, r, tx => by
    unfold rLp
    repeat' split
    all_goals first
      | rfl
      | exact rPt_k h2 h6 h7
      | exact (rLp_k h2 h6 h7 f).trans (rPt_k h2 h6 h7)
theorem rEg_k {k : Nat} {z r tx : Nat → Nat} (h2 : k ≠ 2) (h6 : k ≠ 6) (h7 : k ≠ 7) : (rEg z r tx).2.1 k = z k := by
  have e0 : rZ0 z k = z k := by
    unfold rZ0
    rw [up_n h7, up_n h6, up_n h2]
  unfold rEg
  split
  · exact e0
  · exact (rLp_k h2 h6 h7 141).trans ((up_n h2).trans e0)
theorem Rel.fresh {r : Nat → Nat} {t : vE} : Rel (fiK 427 r) (rsC t) := by
  have f0 : ∀ k, k < 427 → fiK 427 r k = 0 := fun k hk => if_pos hk
  refine ⟨fun k hk => ?_, fun k hk => ?_, fun k hk => ?_, fun k hk => ?_, ⟨?_, ?_, ?_, ?_⟩, fun h hh => ?_⟩
  · rw [f0 k (by omega)]; exact (if_pos hk).symm
  · rw [f0 _ (by omega)]; exact (if_pos hk).symm
  · rw [f0 _ (by omega)]; exact (if_pos hk).symm
  · have e : lwE ((rsC t).2.2.2.1 k) = 0 := by
      show lwE (if k < 96 then 4294967287 else _) = 0
      rw [if_pos hk]
      exact if_pos rfl
    rw [f0 _ (by omega), e]
    exact ⟨rfl, by decide⟩
  · rw [f0 _ (by omega)]; rfl
  · rw [f0 _ (by omega)]; rfl
  · rw [f0 _ (by omega)]; rfl
  · rw [f0 _ (by omega)]
    show 0 = (2 + 1) % 3
    decide
  · refine CR.cong (c := fun _ => 0) ⟨⟨rfl, rfl, rfl, rfl⟩, fun z => absurd z (by show ¬ (0 = 3); decide), fun _ => rfl, Or.inl ⟨rfl, rfl⟩, by decide, by decide, by decide, by decide, by decide, by decide, by decide⟩ (fun j hj => f0 _ (by omega))
theorem rEg_psT {z r tx r0 : Nat → Nat} {t : vE} (h1 : z 1 ≤ 140) :
    ((rEg z r tx).1 = 0 ∧ (psT tx (z 1) 0 (va_up (va_up (va_up r0 0 0) 2 0) 3 0, rsC t)).1 = (rEg z r tx).2.1 2 ∧ (rEg z r tx).2.1 2 ≤ 140) ∨ ((rEg z r tx).1 = 1 ∧ (psT tx (z 1) 0 (va_up (va_up (va_up r0 0 0) 2 0) 3 0, rsC t)).1 = 4294967287 ∧ Rel (rEg z r tx).2.2 (psT tx (z 1) 0 (va_up (va_up (va_up r0 0 0) 2 0) 3 0, rsC t)).2.2) := by
  have e2 : rZ0 z 2 = 0 := by
    unfold rZ0
    rw [up_n (by decide), up_n (by decide), up_s]
  unfold rEg
  by_cases c : z 1 = 0 ∨ ¬ tx 0 = 69
  · rw [if_pos c]
    refine Or.inl ⟨rfl, ?_, by show rZ0 z 2 ≤ 140; rw [e2]; decide⟩
    show _ = rZ0 z 2
    rw [e2]
    by_cases c0 : z 1 = 0
    · rw [c0]
      exact psT_0 (by show ¬ 0 = 1; decide)
    · obtain ⟨n, hn⟩ : ∃ n, z 1 = n + 1 := ⟨z 1 - 1, by omega⟩
      rw [hn]
      refine psT_n ?_
      show (if (0 : Nat) = 0 then (if tx 0 = 69 then 1 else 0, _) else _ : Nat × vR).1 = 0
      rw [if_pos rfl, if_neg (by omega)]
  · rw [if_neg c]
    obtain ⟨n, hn⟩ : ∃ n, z 1 = n + 1 := ⟨z 1 - 1, by omega⟩
    have s1 : stT (tx 0) (va_up (va_up (va_up r0 0 0) 2 0) 3 0, rsC t) = (1, va_up (va_up (va_up (va_up r0 0 0) 2 0) 3 0) 0 1, rsC t) := by
      show (if (0 : Nat) = 0 then (if tx 0 = 69 then 1 else 0, _) else _ : Nat × vR) = _
      rw [if_pos rfl, if_pos (by omega)]
    have hz2 : va_up (rZ0 z) 2 1 2 = 1 := up_s
    have hz1 : va_up (rZ0 z) 2 1 1 = z 1 := by rw [up_n (by decide), rZ0_1]
    have hT : TP (va_up (rZ0 z) 2 1) (fiK 427 r) (va_up (va_up (va_up (va_up r0 0 0) 2 0) 3 0) 0 1, rsC t) := by
      refine ⟨rZ1_ok h1 (by omega), ?_, rfl, ?_, ?_, Rel.fresh, fun h hh => by show 0 < 2; decide⟩
      · show va_up (rZ0 z) 2 1 7 < 4
        rw [up_n (by decide)]
        unfold rZ0
        rw [up_s]
        decide
      · show 0 = va_up (rZ0 z) 2 1 6
        rw [up_n (by decide)]
        unfold rZ0
        rw [up_n (by decide), up_s]
      · show 0 = va_up (rZ0 z) 2 1 7
        rw [up_n (by decide)]
        unfold rZ0
        rw [up_s]
    have hl := hT.loop 141 (tx := tx) (n := n) (by rw [hz1, hz2]; omega) (by omega)
    rw [hz2] at hl
    have hp : psT tx (z 1) 0 (va_up (va_up (va_up r0 0 0) 2 0) 3 0, rsC t) = psT tx n 1 (va_up (va_up (va_up (va_up r0 0 0) 2 0) 3 0) 0 1, rsC t) := by
      rw [hn, psT_y s1]
    rw [hp]
    have hb := rLp_ok 141 (tx := tx) (rZ1_ok (r := r) h1 (by omega))
    rcases hl with ⟨a1, a2⟩ | a
    · exact Or.inl ⟨a1, a2, Nat.le_trans hb.2.1 hb.1⟩
    · exact Or.inr a
theorem flC_cong {f f' : Nat → Nat} (hf : ∀ k, k < 96 → f k = f' k) : ∀ (n : Nat) {s s' : Nat → Nat} (c p : Nat), (∀ k, k < 96 → s k = s' k) → (flC f n s c p).1 = (flC f' n s' c p).1 ∧ (flC f n s c p).2.1 = (flC f' n s' c p).2.1
  | 0, _, _, _, _, _ => ⟨rfl, rfl⟩
  | n + 1, s, s', c, p, hs => by
    unfold flC
    by_cases a : 90 < p
    · rw [if_pos a, if_pos a]; exact ⟨rfl, rfl⟩
    · rw [if_neg a, if_neg a, hs p (by omega), hf p (by omega), hf (p + 5) (by omega)]
      split
      · exact ⟨rfl, rfl⟩
      · split
        · exact ⟨rfl, rfl⟩
        · split
          · exact ⟨rfl, rfl⟩
          · refine flC_cong hf n (c + 1) (f' (p + 5)) (fun k hk => ?_)
            unfold va_up
            split
            · rfl
            · exact hs k hk
-- what is remembered
def HR (z d ho : Nat → Nat) (hs : Nat → vE) : Prop := ho 0 < 14 ∧ ho 1 < 15 ∧ z 3 = ho 1 ∧ ∀ k, k < ho 1 → Rel (fun j => d (427 * k + j)) (hs ((ho 0 + k) % 14)) ∧ eB (hs ((ho 0 + k) % 14))
theorem HR.cong {z z' d ho : Nat → Nat} {hs : Nat → vE} (h : HR z d ho hs) (hz : z' 3 = z 3) : HR z' d ho hs := ⟨h.1, h.2.1, hz.trans h.2.2.1, h.2.2.2⟩
theorem HR.forget {z d ho : Nat → Nat} {hs : Nat → vE} (h : HR z d ho hs) {z' : Nat → Nat} (hz : z' 3 = 0) : HR z' d (va_up ho 1 0) hs := ⟨h.1, by show 0 < 15; decide, hz, fun k hk => absurd hk (by show ¬ k < 0; omega)⟩
theorem HR.back {z d ho : Nat → Nat} {hs : Nat → vE} (h : HR z d ho hs) (hp : 0 < ho 1) {z' : Nat → Nat} (hz : z' 3 = z 3 - 1) : HR z' d (va_up ho 1 (ho 1 - 1)) hs := by
  obtain ⟨h1, h2, h3, h4⟩ := h
  refine ⟨h1, by show ho 1 - 1 < 15; omega, by show z' 3 = ho 1 - 1; omega, fun k hk => h4 k (by have : k < ho 1 - 1 := hk; omega)⟩
theorem HR.remember {z d ho g : Nat → Nat} {hs : Nat → vE} {e : vE} (h : HR z d ho hs) (hr : Rel g e) (he : eB e) {z' : Nat → Nat} (hz : z' 3 = rmA (z 3)) : HR z' (rmD (z 3) g d) (rmO ho) (rmH ho hs e) := by
  obtain ⟨h1, h2, h3, h4⟩ := h
  rw [h3] at hz ⊢
  by_cases c : ho 1 = 14
  · have eO : rmO ho = va_up ho 0 ((ho 0 + 1) % 14) := if_neg (by omega)
    have eA : rmA (ho 1) = 14 := if_pos c
    have eD : rmD (ho 1) g d = cpE 427 g 0 (shN 5551 d) (427 * 13) := if_pos c
    have o0 : rmO ho 0 = (ho 0 + 1) % 14 := by rw [eO, up_s]
    have o1 : rmO ho 1 = 14 := by rw [eO, up_n (by decide)]; exact c
    refine ⟨by omega, by omega, by omega, fun k hk => ?_⟩
    rw [o1] at hk
    rw [o0, eD]
    by_cases k13 : k = 13
    · subst k13
      have ei : ((ho 0 + 1) % 14 + 13) % 14 = (ho 0 + ho 1) % 14 := by omega
      rw [ei]
      unfold rmH
      rw [up_s]
      refine ⟨hr.copy.cong fun j hj => ?_, eB_cp he⟩
      show cpE 427 g 0 (shN 5551 d) (427 * 13) (427 * 13 + j) = g j
      rw [cpE_lt (by omega) (by omega)]
      exact congrArg g (by omega)
    · have ei : ((ho 0 + 1) % 14 + k) % 14 = (ho 0 + (k + 1)) % 14 := by omega
      have en : ¬ (ho 0 + (k + 1)) % 14 = (ho 0 + ho 1) % 14 := by omega
      rw [ei]
      unfold rmH
      rw [up_n en]
      obtain ⟨q1, q2⟩ := h4 (k + 1) (by omega)
      refine ⟨q1.cong fun j hj => ?_, q2⟩
      show cpE 427 g 0 (shN 5551 d) (427 * 13) (427 * k + j) = d (427 * (k + 1) + j)
      unfold cpE
      rw [if_neg (by omega)]
      unfold shN
      rw [if_pos (by omega)]
      exact congrArg d (by omega)
  · have eO : rmO ho = va_up ho 1 (ho 1 + 1) := if_pos (by omega)
    have eA : rmA (ho 1) = ho 1 + 1 := if_neg c
    have eD : rmD (ho 1) g d = cpE 427 g 0 d (427 * ho 1) := if_neg c
    have o0 : rmO ho 0 = ho 0 := by rw [eO, up_n (by decide)]
    have o1 : rmO ho 1 = ho 1 + 1 := by rw [eO, up_s]
    refine ⟨by omega, by omega, by omega, fun k hk => ?_⟩
    rw [o1] at hk
    rw [o0, eD]
    by_cases kn : k = ho 1
    · subst kn
      unfold rmH
      rw [up_s]
      refine ⟨hr.copy.cong fun j hj => ?_, eB_cp he⟩
      show cpE 427 g 0 d (427 * ho 1) (427 * ho 1 + j) = g j
      rw [cpE_lt (by omega) (by omega)]
      exact congrArg g (by omega)
    · have en : ¬ (ho 0 + k) % 14 = (ho 0 + ho 1) % 14 := by omega
      unfold rmH
      rw [up_n en]
      obtain ⟨q1, q2⟩ := h4 k (by omega)
      refine ⟨q1.cong fun j hj => ?_, q2⟩
      show cpE 427 g 0 d (427 * ho 1) (427 * k + j) = d (427 * k + j)
      unfold cpE
      rw [if_neg (by omega)]
-- what is saved
def SR (kp ik zf : Nat → Nat) (s0 s1 : vE) : Prop := (∀ k, k < 2 → ik k = zf k ∧ zf k < 2) ∧ (zf 0 = 1 → Rel (fun j => kp (427 * 0 + j)) s0 ∧ eB s0) ∧ (zf 1 = 1 → Rel (fun j => kp (427 * 1 + j)) s1 ∧ eB s1)
theorem SR.none {kp ik zf : Nat → Nat} {s0 s1 : vE} : SR kp (va_up (va_up ik 0 0) 1 0) (va_up (va_up zf 0 0) 1 0) s0 s1 := by
  refine ⟨fun k hk => ?_, fun h => absurd h (by show ¬ 0 = 1; decide), fun h => absurd h (by show ¬ 0 = 1; decide)⟩
  match k, hk with
  | 0, _ => exact ⟨rfl, by show 0 < 2; decide⟩
  | 1, _ => exact ⟨rfl, by show 0 < 2; decide⟩
  | _ + 2, h => exact absurd h (by omega)
theorem SR.save {kp ik zf g : Nat → Nat} {s0 s1 e : vE} {w : Nat} (h : SR kp ik zf s0 s1) (hr : Rel g e) (he : eB e) (hw : w < 2) : SR (cpE 427 g 0 kp (427 * w)) (va_up ik w 1) (va_up zf w 1) (if w = 0 then cpC s0 e else s0) (if w = 0 then s1 else cpC s1 e) := by
  obtain ⟨h1, h2, h3⟩ := h
  have own : ∀ f : vE, Rel (fun j => cpE 427 g 0 kp (427 * w) (427 * w + j)) (cpC f e) ∧ eB (cpC f e) := fun f => by
    refine ⟨hr.copy.cong fun j hj => ?_, eB_cp he⟩
    rw [cpE_lt (by omega) (by omega)]
    exact congrArg g (by omega)
  have oth : ∀ (k : Nat) (f : vE), k < 2 → k ≠ w → (Rel (fun j => kp (427 * k + j)) f ∧ eB f) → Rel (fun j => cpE 427 g 0 kp (427 * w) (427 * k + j)) f ∧ eB f := fun k f hk hn hq => by
    refine ⟨hq.1.cong fun j hj => ?_, hq.2⟩
    unfold cpE
    rw [if_neg (by omega)]
  refine ⟨fun k hk => ?_, fun q => ?_, fun q => ?_⟩
  · by_cases c : k = w
    · subst c
      rw [up_s, up_s]
      exact ⟨rfl, by decide⟩
    · rw [up_n c, up_n c]
      exact h1 k hk
  · by_cases c : w = 0
    · subst c
      rw [if_pos rfl]
      exact own s0
    · rw [if_neg c]
      rw [up_n (by omega)] at q
      exact oth 0 s0 (by decide) (by omega) (h2 q)
  · by_cases c : w = 0
    · rw [if_pos c]
      rw [up_n (by omega)] at q
      exact oth 1 s1 (by decide) (by omega) (h3 q)
    · have w1 : w = 1 := by omega
      subst w1
      rw [if_neg c]
      exact own s1
theorem SR.get {kp ik zf : Nat → Nat} {s0 s1 : vE} {w : Nat} (h : SR kp ik zf s0 s1) (hw : w < 2) (hf : zf w = 1) : Rel (fun j => kp (427 * w + j)) (if w = 0 then s0 else s1) ∧ eB (if w = 0 then s0 else s1) := by
  by_cases c : w = 0
  · subst c
    rw [if_pos rfl]
    exact h.2.1 hf
  · have w1 : w = 1 := by omega
    subst w1
    rw [if_neg c]
    exact h.2.2 hf
theorem cpE_back {d g : Nat → Nat} {a k : Nat} (h : k < 427) : cpE 427 d a g 0 k = d (a + k) := by
  rw [cpE_lt (by omega) (by omega), Nat.sub_zero]
-- plain answers
theorem Rel.about {g : Nat → Nat} {e : vE} (hr : Rel g e) (he : eB e) {w : Nat} : rAbout g w = aboutV e w := by
  have hT := rT_nT hr he.2.2.2.2.1
  have hc := fun s => hr.count s
  have hs := hr.sumv
  obtain ⟨h1, h2, h3, h4, ⟨h5, h6, h7, h8⟩, h9⟩ := hr
  have hm : vsum (fun k => g (192 + k)) 96 = vsum e.2.2.1 96 := vsum_cong fun k hk => h3 k hk
  have ho : vsum (fun k => if g (96 + k) = 0 then 0 else 1) 96 = vsum (fun k => if e.2.1 k = 0 then 0 else 1) 96 := vsum_cong fun k hk => by rw [h2 k hk]
  unfold rAbout aboutV
  rw [h5, hc, hc, hc, hT, hs, h6, h7, hm, ho]
theorem Rel.cell {g : Nat → Nat} {e : vE} (hr : Rel g e) {p w : Nat} (hp : p < 96) (hw : w < 4) : rCell g p w = cellV e p w := by
  obtain ⟨h1, h2, h3, h4, -⟩ := hr
  match w, hw with
  | 0, _ =>
    show g (96 * 0 + p) = e.1 p
    rw [show 96 * 0 + p = p by omega]
    exact h1 p hp
  | 1, _ => exact h2 p hp
  | 2, _ => exact h3 p hp
  | 3, _ =>
    show (if g (288 + p) = 0 then 4294967287 else g (288 + p) - 1) = e.2.2.2.1 p
    rw [(h4 p hp).1]
    unfold lwE
    by_cases c : e.2.2.2.1 p = 4294967287
    · rw [if_pos c, if_pos rfl, c]
    · rw [if_neg c, if_neg (by omega)]
      rfl
  | _ + 4, h => exact absurd h (by omega)
theorem Rel.chan {g : Nat → Nat} {e : vE} (hr : Rel g e) (he : eB e) {h w : Nat} (hh : h < 3) : rChan g h w = chanV (e.2.2.2.2.2.2 h) w := by
  obtain ⟨⟨a0, a1, a2, a3⟩, a4, a5, a6, -⟩ := hr.2.2.2.2.2 h hh
  have hB := (he.2.2.2.2.2.2 h hh).2.2.2.1
  have e0 : g (384 + 13 * h) = e.2.2.2.2.2.2 h 0 := a0
  have e1 : g (384 + 13 * h + 1) = e.2.2.2.2.2.2 h 1 := a1
  have e11 : g (384 + 13 * h + 11) = e.2.2.2.2.2.2 h 3 := a2
  have e12 : g (384 + 13 * h + 12) = e.2.2.2.2.2.2 h 4 := a3
  have e2 : (if g (384 + 13 * h) = 3 then g (384 + 13 * h + 2) else 4294967287) = e.2.2.2.2.2.2 h 2 := by
    rw [e0]
    by_cases c : e.2.2.2.2.2.2 h 0 = 3
    · rw [if_pos c]; exact a4 c
    · rw [if_neg c]; exact (a5 c).symm
  have e3 : (if 0 < g (384 + 13 * h + 4) then g (384 + 13 * h + 3) else 4294967287) = e.2.2.2.2.2.2 h 5 := by
    rcases a6 with q | q
    · have : g (384 + 13 * h + 4) = 0 := q.1
      rw [if_neg (by omega)]; exact q.2.symm
    · have : g (384 + 13 * h + 4) = e.2.2.2.2.2.2 h 7 := q.1
      rw [if_pos (by omega)]; exact q.2.2.2.2.1
  have e4 : (if 0 < g (384 + 13 * h + 4) then g (384 + 13 * h + 4) else 4294967287) = (if e.2.2.2.2.2.2 h 5 = 4294967287 then 4294967287 else e.2.2.2.2.2.2 h 7) := by
    rcases a6 with q | q
    · have : g (384 + 13 * h + 4) = 0 := q.1
      rw [if_neg (by omega), if_pos q.2]
    · have : g (384 + 13 * h + 4) = e.2.2.2.2.2.2 h 7 := q.1
      rw [if_pos (by omega), if_neg (by omega)]; exact this
  have e5 : (if 0 < g (384 + 13 * h + 4) then g (384 + 13 * h + 10) else 0) = e.2.2.2.2.2.2 h 6 := by
    rcases a6 with q | q
    · have : g (384 + 13 * h + 4) = 0 := q.1
      rw [if_neg (by omega)]
      rcases hB with b | b
      · exact b.2.symm
      · omega
    · have : g (384 + 13 * h + 4) = e.2.2.2.2.2.2 h 7 := q.1
      rw [if_pos (by omega)]; exact q.2.2.2.2.2.1
  unfold rChan chanV
  rw [e0] at e2 ⊢
  rw [e1, e2, e3, e4, e5, e11, e12]
theorem Rel.left {g : Nat → Nat} {e : vE} (hr : Rel g e) {h : Nat} (hh : h < 3) : rSo h g = (if e.2.2.2.2.2.2 h 5 = 4294967287 ∨ e.2.2.2.2.2.2 h 7 = 6 then 0 else e.2.2.2.2.2.2 h 10 - e.2.2.2.2.2.2 h 6) := by
  obtain ⟨-, -, -, a6, -⟩ := hr.2.2.2.2.2 h hh
  unfold rSo
  rcases a6 with q | q
  · have : g (384 + 13 * h + 4) = 0 := q.1
    rw [if_neg (by omega), if_pos (Or.inl q.2)]
  · obtain ⟨c4, c41, c46, c9, c3, c10, k5, k6, k7, k8, k9⟩ := q
    have x4 : g (384 + 13 * h + 4) = e.2.2.2.2.2.2 h 7 := c4
    have x7 : g (384 + 13 * h + 7) = e.2.2.2.2.2.2 h 10 := k7
    have x10 : g (384 + 13 * h + 10) = e.2.2.2.2.2.2 h 6 := c10
    rw [x4, x7, x10]
    by_cases c : e.2.2.2.2.2.2 h 7 = 6
    · rw [if_neg (by omega), if_pos (Or.inr c)]
    · rw [if_pos (by omega), if_neg (by omega)]
theorem Rel.owned {g : Nat → Nat} {e : vE} (hr : Rel g e) {c m o : Nat} (hm : m ≤ 96) : rOwN c m o g = gvN c m o e.2.1 := vsum_cong fun k hk => by
  show (if c ≤ k ∧ g (96 + k) ≠ o then 1 else 0) = _
  rw [hr.2.1 k (by omega)]
end REL10
