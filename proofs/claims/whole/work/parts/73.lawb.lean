section LAWB
variable {l : Launch} {G : vG} {M : vM} {Γ : vF} {k n pc : Nat} {L : List (Option Value)} {st : List Value} {X : List va_W}
/-- the script of Ls ints xs at b -/
def vScr (Γ : vF) (b Ls : Nat) (xs : Nat → Int32) : Prop := va_X b Ls xs Γ.2.2.1 Γ.2.2.1.heap ∧ b < Γ.2.2.1.heap.size ∧ ¬ Γ.2.2.2.2.2.2.2.2.2 b ∧ Ls ≤ 3072
theorem V_sld {b Ls j p : Nat} {xs : Nat → Int32} (hS9 : vScr Γ b Ls xs) (hj : j < Ls) (hv : xs j = nI p) (d : decode M.1 pc = .ok (.iaload, 1))
    (kk : V l G M Γ k n (pc + 1) L (.int (nI p) :: st) X) : V l G M Γ k n pc L (.int (nI j) :: .ref b :: st) X := by
  intro ok H locs ls hl hP hD hS
  obtain ⟨hx, hb, hml, hown, hts, ⟨hK, hNst⟩, hA, hlk⟩ := id ok
  obtain ⟨h1, h2, h3, h4⟩ := hS9
  refine va_sld hx hb h1 h2 h3 hS (nI_inA hj (by omega)) d ?_
  rw [nI_cl (by omega), hv]
  exact kk ok _ _ _ hl hP hD hS
theorem V_slen {b Ls : Nat} {xs : Nat → Int32} (hS9 : vScr Γ b Ls xs) (d : decode M.1 pc = .ok (.arraylength, 1))
    (kk : V l G M Γ k n (pc + 1) L (.int (nI Ls) :: st) X) : V l G M Γ k n pc L (.ref b :: st) X := by
  intro ok H locs ls hl hP hD hS
  obtain ⟨hx, hb, hml, hown, hts, ⟨hK, hNst⟩, hA, hlk⟩ := id ok
  obtain ⟨h1, h2, h3, h4⟩ := hS9
  refine va_slen hx hb h1 h2 h3 hS d ?_
  rw [show Int32.ofNat Ls = nI Ls from rfl]
  exact kk ok _ _ _ hl hP hD hS
theorem lcq {a b : Int32} {f : Nat → Int64} (h : a = b) : lg_cmp (vp_updL f 0 a.toInt64 0) b.toInt64 = nI 0 := by
  subst h
  show lg_cmp a.toInt64 a.toInt64 = nI 0
  rw [lcN_cmp]
  have : lcN a.toInt64 a.toInt64 = 0 := lcN_z.mpr rfl
  rw [this]
/-- the state of both objects between two calls -/
abbrev LSt : Type := Nat × (Nat → Nat) × (Nat → Nat) × (Nat → Nat) × (Nat → vE) × (Nat → Nat) × (Nat → Nat) × (Nat → Nat) × vE × vE × vE × vE × (Nat → Nat) × (Nat → Nat) × (Nat → Nat) × (Nat → Nat) × (Nat → Nat) × (Nat → Nat) × (Nat → Nat) × (Nat → Nat) × (Nat → Nat) × (Nat → Int64)
def LInv : LSt → Prop
  | (n, tx, r, ho, hs, zf, _, _, e, t, s0, s1, z, _, g, _, d, kp, ik, _, _, _) => z 1 = n ∧ n ≤ 140 ∧ (∀ k, k < 140 → tx k < 256) ∧ rB r ∧ eB e ∧ eB t ∧ Rel g e ∧ HR z d ho hs ∧ SR kp ik zf s0 s1
def W25 (G : vG) (A : Nat → Nat) (ea : Nat → Nat → Nat) (B : Nat → Nat) (ou : Nat) : LSt → List va_W
  | (n, tx, r, ho, hs, zf, wo, sn, e, t, s0, s1, z, rr, g, tr, d, kp, ik, y, mt, fo) => [oO A ea n, iA G (A 1) 140 tx, tR (A 2) r, eK G (ea 14) e, eK G (ea 15) t, hO (A 3) (A 7) ho, hA G (A 7) ea, hK G ea hs, sA G A ea, zA G (A 5) 2 zf, wO (A 6) (A 8) wo, iA G (A 8) 96 sn, eK G (ea 16) s0, eK G (ea 17) s1, mO B z, iA G (B 1) 140 tx, iA G (B 2) 427 rr, iA G (B 3) 427 g, iA G (B 4) 427 tr, iA G (B 5) 5978 d, iA G (B 6) 854 kp, zA G (B 7) 2 ik, iA G (B 8) 96 y, zA G (B 9) 96 mt, lA G ou fo]
theorem HR.upd {z d ho : Nat → Nat} {hs : Nat → vE} {i v : Nat} (h : HR z d ho hs) (hi : i ≠ 3) : HR (va_up z i v) d ho hs := h.cong (up_n (fun q => hi q.symm))
end LAWB
