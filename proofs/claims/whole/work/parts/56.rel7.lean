section REL7
theorem eB_irr {e : vE} {v : Nat → Nat} (he : eB e) (hv : ∀ k, k < 96 → v k < 100) : eB (v, e.2) := ⟨hv, he.2⟩
theorem QZ.setV {z0 z g y : Nat → Nat} {e : vE} {c v : Nat} (h : QZ z0 (z, g, y) e) (hc : c < 96) (hv : v < 100) : QZ z0 (z, va_up g c v, y) (setV e c v) :=
  ⟨⟨eB_setV h.1.1 hv, h.1.2.1.valu hc, h.1.2.2⟩, h.2⟩
theorem QZ.begin {z0 z g y : Nat → Nat} {e : vE} {h p : Nat} (hq : QZ z0 (z, g, y) e) (hh : h < 3) (hp : p < 100) : QZ z0 (z, rBegin h p 1 g, y) (setC e h (qBegin p (e.2.2.2.2.2.2 h))) :=
  ⟨⟨eB_setC hq.1.1 (qB_begin (hq.1.1.2.2.2.2.2.2 h hh) hp), hq.1.2.1.setc hh (fun k hk => rBegin_o hk) (by rw [blk_begin]; exact (hq.1.2.1.2.2.2.2.2 h hh).begin), hq.1.2.2⟩, hq.2⟩
theorem QZ.idle {z0 z g y : Nat → Nat} {e : vE} {h p : Nat} (hq : QZ z0 (z, g, y) e) (hh : h < 3) (hp : p = e.2.2.2.2.2.2 h 1) : QZ z0 (z, rBegin h p 0 g, y) (setC e h (qBc 0 (e.2.2.2.2.2.2 h))) :=
  ⟨⟨eB_setC hq.1.1 (qB_bc (hq.1.1.2.2.2.2.2.2 h hh) (by decide)), hq.1.2.1.setc hh (fun k hk => rBegin_o hk) (by rw [blk_begin]; exact (hq.1.2.1.2.2.2.2.2 h hh).idle hp), hq.1.2.2⟩, hq.2⟩
theorem rOwF_hi {c m o k : Nat} {g : Nat → Nat} (hm : m ≤ 96) (hk : 192 ≤ k) : rOwF c m o g k = g k := by
  unfold rOwF
  rw [if_neg (by omega)]
theorem Rel.own {c m o : Nat} {g : Nat → Nat} {e : vE} (hr : Rel g e) (hm : m ≤ 96) : Rel (rOwF c m o g) (setO e (gvF c m o e.2.1)) := by
  obtain ⟨h1, h2, h3, h4, ⟨h5, h6, h7, h8⟩, h9⟩ := hr
  refine ⟨fun k hk => ?_, fun k hk => ?_, fun k hk => ?_, fun k hk => ?_, ⟨?_, ?_, ?_, ?_⟩, fun h hh => (h9 h hh).cong fun j hj => rOwF_hi hm (by omega)⟩
  · show rOwF c m o g k = e.1 k
    unfold rOwF
    rw [if_neg (by omega)]
    exact h1 k hk
  · show rOwF c m o g (96 + k) = gvF c m o e.2.1 k
    unfold rOwF gvF
    by_cases z : c ≤ k ∧ k < m
    · rw [if_pos z, if_pos (by omega)]
    · rw [if_neg z, if_neg (by omega)]
      exact h2 k hk
  · rw [rOwF_hi hm (by omega)]; exact h3 k hk
  · rw [rOwF_hi hm (by omega)]; exact h4 k hk
  · rw [rOwF_hi hm (by omega)]; exact h5
  · rw [rOwF_hi hm (by omega)]; exact h6
  · rw [rOwF_hi hm (by omega)]; exact h7
  · rw [rOwF_hi hm (by omega)]; exact h8
theorem sm_le (b n : Nat) : sm b n ≤ 96 := by
  unfold sm
  split <;> omega
theorem QZ.own {z0 z g y : Nat → Nat} {e : vE} {c m o : Nat} (hq : QZ z0 (z, g, y) e) (hm : m ≤ 96) (ho : o < 4) : QZ z0 (z, rOwF c m o g, y) (setO e (gvF c m o e.2.1)) :=
  ⟨⟨eB_setO hq.1.1 (gv_lt ho hq.1.1.2.1), hq.1.2.1.own hm, hq.1.2.2⟩, hq.2⟩
theorem ifp {α : Type} {c d : Prop} [Decidable c] [Decidable d] {a b a' b' : α} {P : α → α → Prop} (h : c ↔ d) (h1 : c → P a a') (h2 : ¬ c → P b b') : P (if c then a else b) (if d then a' else b') := by
  by_cases z : c
  · rw [if_pos z, if_pos (h.mp z)]; exact h1 z
  · rw [if_neg z, if_neg (fun y => z (h.mpr y))]; exact h2 z
/-- a command of a script -/
def CQ (z0 : Nat → Nat) (p : Nat × vR3) (q : Nat × vE) : Prop := p.1 = q.1 ∧ QZ z0 p.2 q.2
theorem CQ.if {z0 : Nat → Nat} {c d : Prop} [Decidable c] [Decidable d] {a b : Nat × vR3} {a' b' : Nat × vE} (h : c ↔ d) (h1 : c → CQ z0 a a') (h2 : ¬ c → CQ z0 b b') : CQ z0 (if c then a else b) (if d then a' else b') := by
  by_cases z : c
  · rw [if_pos z, if_pos (h.mp z)]; exact h1 z
  · rw [if_neg z, if_neg (fun y => z (h.mpr y))]; exact h2 z
theorem QZ.command {z0 : Nat → Nat} {t : vR3} {e : vE} {g : Nat} (hq : QZ z0 t e) (hg : g < 100000) : CQ z0 (rGc g t) (scC g e) := by
  obtain ⟨z, a, y⟩ := t
  have hR : Rel a e := hq.1.2.1
  have hc := hR.2.2.2.2.2
  have st : ∀ h, h < 3 → a (384 + 13 * h) = e.2.2.2.2.2.2 h 0 := fun h hh => (hc h hh).1.1
  have hd : ∀ h, h < 3 → a (384 + 13 * h + 1) = e.2.2.2.2.2.2 h 1 := fun h hh => (hc h hh).1.2.1
  have wr : ∀ h, h < 3 → a (384 + 13 * h + 12) = e.2.2.2.2.2.2 h 4 := fun h hh => (hc h hh).1.2.2.2
  unfold rGc cmR scC
  dsimp only
  refine CQ.if Iff.rfl (fun _ => CQ.if Iff.rfl (fun c => ⟨rfl, hq.setV c (by omega)⟩) (fun _ => ⟨rfl, hq⟩)) (fun _ => ?_)
  refine CQ.if Iff.rfl (fun _ => ?_) (fun _ => ?_)
  · have hT := rT_nT hR hq.1.1.2.2.2.2.1
    by_cases c : 10 * (g / 1000 % 10) + g / 100 % 10 = 0
    · rw [if_pos c]
      by_cases d : 0 < 10 * (g / 10 % 10) + g % 10 ∧ ¬ rT a = 4294967287
      · rw [if_pos ⟨c, d.1, d.2⟩]
        have hr := hq.run (10 * (g / 10 % 10) + g % 10)
        exact ⟨by dsimp only; rw [hr.1], hr.2⟩
      · rw [if_neg (fun q => d q.2)]
        by_cases k : 10 * (g / 10 % 10) + g % 10 = 0
        · rw [k]
          exact ⟨rfl, hq⟩
        · have hn : rT a = 4294967287 := by
            by_cases h9 : rT a = 4294967287
            · exact h9
            · exact absurd ⟨by omega, h9⟩ d
          rw [runC_idle (by rw [← hT]; exact hn)]
          exact ⟨rfl, hq⟩
    · rw [if_neg c, if_neg (fun q => c q.1)]
      exact ⟨rfl, hq⟩
  refine CQ.if Iff.rfl (fun _ => CQ.if Iff.rfl (fun c => ⟨rfl, hq.begin c.2.1 (by omega)⟩) (fun _ => ⟨rfl, hq⟩)) (fun _ => ?_)
  refine CQ.if Iff.rfl (fun _ => CQ.if ⟨fun c => ⟨by omega, by omega, c.2.1, by rw [← st _ c.2.1]; exact c.2.2⟩, fun c => ⟨by omega, c.2.2.1, by rw [st _ c.2.2.1]; exact c.2.2.2⟩⟩ (fun c => ⟨rfl, hq.idle c.2.1 (hd _ c.2.1)⟩) (fun _ => ⟨rfl, hq⟩)) (fun _ => ?_)
  refine CQ.if Iff.rfl (fun _ => CQ.if ⟨fun c => ⟨c.1, by omega, c.2.1⟩, fun c => ⟨c.1, c.2.2, by omega⟩⟩ (fun c => ⟨rfl, hq.own (sm_le _ _) c.2.1⟩) (fun _ => ⟨rfl, hq⟩)) (fun _ => ?_)
  refine CQ.if Iff.rfl (fun _ => CQ.if ⟨fun c => ⟨c.1, by rw [← hR.1 _ c.1]; exact c.2⟩, fun c => ⟨c.1, by rw [hR.1 _ c.1]; exact c.2⟩⟩ (fun c => ⟨rfl, hq⟩) (fun _ => ⟨rfl, hq⟩)) (fun _ => ?_)
  refine CQ.if Iff.rfl (fun _ => CQ.if ⟨fun c => ⟨c.1, c.2.1, by rw [← st _ c.2.1]; exact c.2.2⟩, fun c => ⟨c.1, c.2.1, by rw [st _ c.2.1]; exact c.2.2⟩⟩ (fun c => ⟨rfl, hq⟩) (fun _ => ⟨rfl, hq⟩)) (fun _ => ?_)
  refine CQ.if Iff.rfl (fun _ => CQ.if ⟨fun c => ⟨c.1, c.2.1, by rw [← wr _ c.2.1]; exact c.2.2⟩, fun c => ⟨c.1, c.2.1, by rw [wr _ c.2.1]; exact c.2.2⟩⟩ (fun c => ⟨rfl, hq⟩) (fun _ => ⟨rfl, hq⟩)) (fun _ => ?_)
  refine CQ.if Iff.rfl (fun _ => CQ.if ⟨fun c => ⟨c.1, by rw [← hR.2.2.2.2.1.2.1]; exact c.2⟩, fun c => ⟨c.1, by rw [hR.2.2.2.2.1.2.1]; exact c.2⟩⟩ (fun c => ⟨rfl, hq⟩) (fun _ => ⟨rfl, hq⟩)) (fun _ => ⟨rfl, hq⟩)
theorem QZ.script {z0 : Nat → Nat} (xs : Nat) : ∀ (f i : Nat) {t : vR3} {e : vE}, QZ z0 t e → CQ z0 (rLs xs f i t) (rsL xs f i e)
  | 0, _, _, _, hq => ⟨rfl, hq⟩
  | f + 1, i, t, e, hq => by
    have hg := hq.command (g := xs / 100000 ^ f % 100000) (Nat.mod_lt _ (by decide))
    show CQ z0 (if _ then _ else _ : Nat × vR3) (if _ then _ else _ : Nat × vE)
    exact CQ.if (by rw [hg.1]) (fun _ => ⟨rfl, hg.2⟩) (fun _ => QZ.script xs f (i + 1) hg.2)
theorem QZ.sg {z0 : Nat → Nat} {t : vR3} {e : vE} (r : Nat) (hq : QZ z0 t e) : QZ z0 (sgR r t) (siB r e) := by
  obtain ⟨z, a, y⟩ := t
  unfold sgR rSiB siB
  dsimp only
  have hv : QZ z0 (z, rSiV r a, y) (siV r e) := hq.setV (Nat.mod_lt _ (by decide)) (Nat.mod_lt _ (by decide))
  by_cases c : r / 16384 % 4 = 0
  · rw [if_pos c, if_pos c]
    have h3 : r / 65536 % 3 < 3 := Nat.mod_lt _ (by decide)
    have hp : r / 262144 % 91 < 100 := Nat.lt_of_lt_of_le (Nat.mod_lt _ (by decide)) (by decide)
    generalize r / 262144 % 91 = p9 at hp ⊢
    generalize r / 65536 % 3 = h9 at h3 ⊢
    exact hv.begin h3 hp
  · rw [if_neg c, if_neg c]
    exact hv
theorem QZ.sim {z0 : Nat → Nat} (F : Int64 → Int64) : ∀ (n : Nat) (x : Int64) {t : vR3} {e : vE}, QZ z0 t e → QZ z0 (siR F n x t) (siG F n x e)
  | 0, _, _, _, hq => hq
  | n + 1, x, t, e, hq => QZ.sim F n (F x) ((hq.sg (smR (F x))).run 8).2
theorem Rel.count {g : Nat → Nat} {e : vE} (hr : Rel g e) (s : Nat) : rCs s g = stC e s := vsum_cong fun h hh => by
  have : g (384 + 13 * h) = e.2.2.2.2.2.2 h 0 := (hr.2.2.2.2.2 h hh).1.1
  rw [this]
theorem Rel.sumv {g : Nat → Nat} {e : vE} (hr : Rel g e) : vsum (fun k => g (0 + k)) 96 = vsum e.1 96 := vsum_cong fun k hk => by rw [Nat.zero_add]; exact hr.1 k hk
theorem Rel.simul {g : Nat → Nat} {e : vE} (hr : Rel g e) : siM g = siN e := by
  unfold siM siN
  rw [hr.count, hr.sumv]
end REL7
