section REF3
def rIK (K h : Nat) (g : Nat → Nat) : Nat := if K = 2 then g (384 + 13 * h + 7) - 1 - g (384 + 13 * h + 10) else g (384 + 13 * h + 10)
def rAK (K h : Nat) (g : Nat → Nat) : Nat := if K = 3 ∨ K = 4 then 0 else g (384 + 13 * h + 5) + rIK K h g
def rBK (K h : Nat) (g : Nat → Nat) : Nat := g (384 + 13 * h + 6) + (if K = 3 ∨ K = 4 then rIK K h g * g (384 + 13 * h + 8) else rIK K h g)
def sR (f : (Nat → Nat) → Nat → Nat) (t : vR3) : vR3 := (t.1, f t.2.1, t.2.2)
def rWK (K h a b : Nat) (t : vR3) : vR3 := if K < 3 then rWr h b (t.2.1 a) t else if K = 3 then rWr h b (t.2.1 (384 + 13 * h + 5)) t else if K = 4 then rWr h b ((t.2.1 b + t.2.1 (384 + 13 * h + 5)) % 100) t else if a = b then t else rWr h b (t.2.1 a) (rWr h a (t.2.1 b) t)
def rUnK (K h : Nat) (t : vR3) : Nat × vR3 :=
  if 96 ≤ rAK K h t.2.1 ∨ 96 ≤ rBK K h t.2.1 then (0, sR (rFail h 3) t)
  else if ¬ (K = 5 ∧ rAK K h t.2.1 = rBK K h t.2.1) ∧ (rOw h (rBK K h t.2.1) t.2.1 = 0 ∨ (K = 5 ∧ rOw h (rAK K h t.2.1) t.2.1 = 0)) then (0, sR (rFail h 4) t)
  else (1, rWK K h (rAK K h t.2.1) (rBK K h t.2.1) t)
def rUn (h : Nat) (t : vR3) : Nat × vR3 := rUnK (t.2.1 (384 + 13 * h + 4)) h t
theorem rUnE {K h : Nat} {z g b : Nat → Nat} (e : g (384 + 13 * h + 4) = K) : rUn h (z, g, b) = rUnK K h (z, g, b) := congrArg (fun K => rUnK K h (z, g, b)) e
theorem rUn_1 {K h : Nat} {t : vR3} (c : 96 ≤ rAK K h t.2.1 ∨ 96 ≤ rBK K h t.2.1) : rUnK K h t = (0, sR (rFail h 3) t) := if_pos c
theorem rUn_2 {K h : Nat} {t : vR3} (c : ¬ (96 ≤ rAK K h t.2.1 ∨ 96 ≤ rBK K h t.2.1)) (d : ¬ (K = 5 ∧ rAK K h t.2.1 = rBK K h t.2.1) ∧ (rOw h (rBK K h t.2.1) t.2.1 = 0 ∨ (K = 5 ∧ rOw h (rAK K h t.2.1) t.2.1 = 0))) : rUnK K h t = (0, sR (rFail h 4) t) := (if_neg c).trans (if_pos d)
theorem rUn_3 {K h : Nat} {t : vR3} (c : ¬ (96 ≤ rAK K h t.2.1 ∨ 96 ≤ rBK K h t.2.1)) (d : ¬ (¬ (K = 5 ∧ rAK K h t.2.1 = rBK K h t.2.1) ∧ (rOw h (rBK K h t.2.1) t.2.1 = 0 ∨ (K = 5 ∧ rOw h (rAK K h t.2.1) t.2.1 = 0)))) : rUnK K h t = (1, rWK K h (rAK K h t.2.1) (rBK K h t.2.1) t) := (if_neg c).trans (if_neg d)
theorem rW2_at {h c k : Nat} {g : Nat → Nat} (h1 : k ≠ 288 + c) (h2 : k ≠ 425) (h3 : k ≠ 384 + 13 * h + 12) : rW2 h c g k = g k := by
  unfold rW2
  rw [up_n h3, up_n h2, up_n h1]
theorem rWr_mk {h c v k : Nat} {t : vR3} (hc : c < 96) (hk : k < 96) : (rWr h c v t).2.1 (192 + k) = t.2.1 (192 + k) := by
  unfold rWr
  split
  · show rW2 h c (va_up (va_up t.2.1 c v) 424 _) (192 + k) = _
    rw [rW2_at (by omega) (by omega) (by omega), up_n (by omega), up_n (by omega)]
  · show rW2 h c (va_up t.2.1 c v) (192 + k) = _
    rw [rW2_at (by omega) (by omega) (by omega), up_n (by omega)]
theorem rWr_z5 {h c v : Nat} {t : vR3} (hc : c < 96) (hz : t.1 5 < 4294967296) : (rWr h c v t).1 5 < 4294967296 := by
  unfold rWr
  split
  · show (if _ then _ else _ : Nat → Nat) 5 < _
    split
    · rw [up_s]; omega
    · exact hz
  · exact hz
/-- what a channel's part of a row keeps -/
def cB (h : Nat) (g : Nat → Nat) : Prop := g (384 + 13 * h) < 4 ∧ g (384 + 13 * h + 1) < 100 ∧ g (384 + 13 * h + 3) ≤ 90 ∧ g (384 + 13 * h + 4) ≤ 6 ∧ g (384 + 13 * h + 5) < 100 ∧ g (384 + 13 * h + 6) < 100 ∧ g (384 + 13 * h + 7) < 100 ∧ g (384 + 13 * h + 8) < 100 ∧ g (384 + 13 * h + 9) < 100 ∧ g (384 + 13 * h + 10) < 100 ∧ (1 ≤ g (384 + 13 * h + 4) → g (384 + 13 * h + 4) < 6 → g (384 + 13 * h + 10) < g (384 + 13 * h + 7))
def gB (g : Nat → Nat) : Prop := (∀ k, k < 96 → g k < 100) ∧ (∀ k, k < 96 → g (96 + k) < 4) ∧ (∀ k, k < 96 → g (192 + k) < 2) ∧ g 426 < 3 ∧ ∀ h, h < 3 → cB h g

abbrev rX7_unit : Room := { frames := 2, cells := 0, slots := 0, locals := 44 }
theorem vy_X7_unit : vY yX7_unit wsX7_unit cX7_unit 11 (some .boolean) 2 := ⟨⟨_, rfl⟩, by decide +kernel, by decide +kernel, by decide +kernel⟩
set_option maxHeartbeats 4000000 in
set_option maxRecDepth 100000 in
/-- unit -/
theorem c_X7_unit (l : Launch) (G : vG) (B z b : Nat → Nat) (a : Nat) (g : Nat → Nat) (h : Nat) (hh : h < 3) (hg : gB g) (hk4 : 1 ≤ g (384 + 13 * h + 4)) (hk6 : g (384 + 13 * h + 4) < 6) (hz : z 5 < 4294967296) : Kc l G yX7_unit wsX7_unit rX7_unit [.ref (B 0), .ref a, .int (nI h)] [mO B z, iA G a 427 g, iA G (B 8) 96 b] (fun v Y => v = some (.int (nI (rUn h (z, g, b)).1)) ∧ Y = w3 G B a (rUn h (z, g, b)).2) 0 0 := by
  refine V_enter (own := RX7) [some (.ref (B 0)), some (.ref a), some (.int (nI h)), none, none, none, none, none, none, none, none] (by decide +kernel) rfl rfl (Nat.le_of_ble_eq_true rfl) rfl (fun Γ hR hin => ?_)
  have hkc : 0 ≤ 0 := Nat.le_refl 0
  have hks : 0 ≤ 0 := Nat.le_refl 0
  obtain ⟨hv, ho, hm, h426, hc⟩ := id hg
  obtain ⟨c0, c1, c3, c4, c5, c6, c7, c8, c9, c10, cu⟩ := id (hc h hh)
  have hcu := cu hk4 hk6
  have hmul : g (384 + 13 * h + 10) * g (384 + 13 * h + 8) ≤ 99 * 99 := Nat.mul_le_mul (by omega) (by omega)
  refine V_iload_n (i := 2) dX7_unit_0 rfl rfl ?_
  refine V_callS (As := _) (rest := []) [] (c_X7_at l G (h)) vy_X7_at gX7_unit_X7_at rfl rfl rfl rfl ⟨rfl, rfl⟩ ⟨rfl, rfl⟩ ⟨Nat.zero_le _, Nat.zero_le _⟩ rfl dX7_unit_1 (fun v Y hE => ?_)
  obtain ⟨rfl, rfl⟩ := hE
  refine ⟨rfl, ?_⟩
  dsimp only [vfill, List.set_cons_zero, List.set_cons_succ, Option.toList, List.cons_append, List.nil_append, Nat.add_zero]
  refine V_istore_n (i := 3) dX7_unit_4 rfl rfl rfl ?_
  dsimp only [List.set_cons_zero, List.set_cons_succ]
  refine V_aload_n (i := 1) dX7_unit_5 rfl rfl ?_
  refine V_iload_n (i := 3) dX7_unit_6 rfl rfl ?_
  refine V_iconst (v := 4) dX7_unit_7 rfl ?_
  refine V_iadd dX7_unit_8 ?_
  refine V_iald (q := 1) rfl (by omega) rfl dX7_unit_9 ?_
  rcases (show g (384 + 13 * h + 4) = 1 ∨ g (384 + 13 * h + 4) = 2 ∨ g (384 + 13 * h + 4) = 3 ∨ g (384 + 13 * h + 4) = 4 ∨ g (384 + 13 * h + 4) = 5 by omega) with e7 | e7 | e7 | e7 | e7
  · refine V_top (b := 1) e7 ?_
    refine V_istore (i := 4) dX7_unit_10 rfl rfl ?_
    dsimp only [List.set_cons_zero, List.set_cons_succ]
    refine V_iload (i := 4) dX7_unit_12 rfl ?_
    refine V_iconst (v := 2) dX7_unit_14 rfl ?_
    refine V_icmp_ne (tgt := 36) (by omega) (by omega) dX7_unit_15 rfl (fun h_15 => ?_) (fun h_15 => ?_)
    · refine V_aload_n (i := 1) dX7_unit_36 rfl rfl ?_
      refine V_iload_n (i := 3) dX7_unit_37 rfl rfl ?_
      refine V_bipush (v := 10) dX7_unit_38 (by decide) ?_
      refine V_iadd dX7_unit_40 ?_
      refine V_iald (q := 1) rfl (by omega) rfl dX7_unit_41 ?_
      refine V_istore (i := 5) dX7_unit_42 rfl rfl ?_
      dsimp only [List.set_cons_zero, List.set_cons_succ]
      refine V_iload (i := 4) dX7_unit_44 rfl ?_
      refine V_iconst (v := 3) dX7_unit_46 rfl ?_
      refine V_icmp_lt (tgt := 56) (by omega) (by omega) dX7_unit_47 rfl (fun h_47 => ?_) (fun h_47 => ?_)
      · refine V_iconst (v := 1) dX7_unit_56 rfl ?_
        refine V_goto (tgt := 61) dX7_unit_57 rfl ?_
        refine V_istore (i := 6) dX7_unit_61 rfl rfl ?_
        dsimp only [List.set_cons_zero, List.set_cons_succ]
        refine V_iload (i := 6) dX7_unit_63 rfl ?_
        refine V_if_eq (tgt := 79) (by omega) dX7_unit_65 rfl (fun h_65 => ?_) (fun h_65 => ?_)
        · exfalso; omega
        · refine V_aload_n (i := 1) dX7_unit_68 rfl rfl ?_
          refine V_iload_n (i := 3) dX7_unit_69 rfl rfl ?_
          refine V_iconst (v := 5) dX7_unit_70 rfl ?_
          refine V_iadd dX7_unit_71 ?_
          refine V_iald (q := 1) rfl (by omega) rfl dX7_unit_72 ?_
          refine V_iload (i := 5) dX7_unit_73 rfl ?_
          refine V_iadd dX7_unit_75 ?_
          refine V_goto (tgt := 80) dX7_unit_76 rfl ?_
          refine V_istore (i := 7) dX7_unit_80 rfl rfl ?_
          dsimp only [List.set_cons_zero, List.set_cons_succ]
          refine V_aload_n (i := 1) dX7_unit_82 rfl rfl ?_
          refine V_iload_n (i := 3) dX7_unit_83 rfl rfl ?_
          refine V_bipush (v := 6) dX7_unit_84 (by decide) ?_
          refine V_iadd dX7_unit_86 ?_
          refine V_iald (q := 1) rfl (by omega) rfl dX7_unit_87 ?_
          refine V_iload (i := 6) dX7_unit_88 rfl ?_
          refine V_if_eq (tgt := 98) (by omega) dX7_unit_90 rfl (fun h_90 => ?_) (fun h_90 => ?_)
          · exfalso; omega
          · refine V_iload (i := 5) dX7_unit_93 rfl ?_
            refine V_goto (tgt := 107) dX7_unit_95 rfl ?_
            refine V_iadd dX7_unit_107 ?_
            refine V_istore (i := 8) dX7_unit_108 rfl rfl ?_
            dsimp only [List.set_cons_zero, List.set_cons_succ]
            refine V_iload (i := 7) dX7_unit_110 rfl ?_
            refine V_bipush (v := 96) dX7_unit_112 (by decide) ?_
            refine V_icmp_ge (tgt := 124) (by omega) (by omega) dX7_unit_114 rfl (fun h_114 => ?_) (fun h_114 => ?_)
            · refine V_aload_n (i := 1) dX7_unit_124 rfl rfl ?_
              refine V_iload_n (i := 2) dX7_unit_125 rfl rfl ?_
              refine V_iconst (v := 3) dX7_unit_126 rfl ?_
              refine V_callS (As := _) (rest := []) [1] (c_X7_fail l G a g h 3 hh) vy_X7_fail gX7_unit_X7_fail rfl rfl rfl rfl ⟨rfl, rfl⟩ ⟨rfl, rfl⟩ ⟨Nat.zero_le _, Nat.zero_le _⟩ rfl dX7_unit_127 (fun v Y hE => ?_)
              obtain ⟨rfl, rfl⟩ := hE
              refine ⟨rfl, ?_⟩
              dsimp only [vfill, List.set_cons_zero, List.set_cons_succ, Option.toList, List.cons_append, List.nil_append, Nat.add_zero]
              refine V_iconst (v := 0) dX7_unit_130 rfl ?_
              refine V_zret hR dX7_unit_131 (by first | exact Or.inl rfl | exact Or.inr rfl | omega) hkc hks ?_
              first | (have e8 := rUn_1 (K := 1) (h := h) (t := (z, g, b)) (Or.inl (show 96 ≤ (g (384 + 13 * h + 5) + g (384 + 13 * h + 10)) by omega)); rw [rUnE (K := 1) e7, e8]; exact ⟨rfl, rfl⟩) | (have e8 := rUn_1 (K := 1) (h := h) (t := (z, g, b)) (Or.inr (show 96 ≤ (g (384 + 13 * h + 6) + g (384 + 13 * h + 10)) by omega)); rw [rUnE (K := 1) e7, e8]; exact ⟨rfl, rfl⟩) | (have e8 := rUn_2 (K := 1) (h := h) (t := (z, g, b)) (fun z9 => by rcases z9 with z9 | z9 <;> revert z9 <;> first | exact (fun z9 : 96 ≤ (g (384 + 13 * h + 5) + g (384 + 13 * h + 10)) => by omega) | exact (fun z9 : 96 ≤ (g (384 + 13 * h + 6) + g (384 + 13 * h + 10)) => by omega)) ⟨(fun z9 => absurd z9.1 (by decide)), Or.inl h_164⟩; rw [rUnE (K := 1) e7, e8]; exact ⟨rfl, rfl⟩) | (have e8 := rUn_3 (K := 1) (h := h) (t := (z, g, b)) (fun z9 => by rcases z9 with z9 | z9 <;> revert z9 <;> first | exact (fun z9 : 96 ≤ (g (384 + 13 * h + 5) + g (384 + 13 * h + 10)) => by omega) | exact (fun z9 : 96 ≤ (g (384 + 13 * h + 6) + g (384 + 13 * h + 10)) => by omega)) (fun z9 => z9.2.elim h_164 (fun y9 => absurd y9.1 (by decide))); rw [rUnE (K := 1) e7, e8]; exact ⟨rfl, rfl⟩)
            · refine V_iload (i := 8) dX7_unit_117 rfl ?_
              refine V_bipush (v := 96) dX7_unit_119 (by decide) ?_
              refine V_icmp_lt (tgt := 132) (by omega) (by omega) dX7_unit_121 rfl (fun h_121 => ?_) (fun h_121 => ?_)
              · refine V_iload (i := 4) dX7_unit_132 rfl ?_
                refine V_iconst (v := 5) dX7_unit_134 rfl ?_
                refine V_icmp_ne (tgt := 149) (by omega) (by omega) dX7_unit_135 rfl (fun h_135 => ?_) (fun h_135 => ?_)
                · refine V_iconst (v := 0) dX7_unit_149 rfl ?_
                  refine V_istore (i := 9) dX7_unit_150 rfl rfl ?_
                  dsimp only [List.set_cons_zero, List.set_cons_succ]
                  refine V_iload (i := 9) dX7_unit_152 rfl ?_
                  refine V_if_ne (tgt := 191) (by omega) dX7_unit_154 rfl (fun h_154 => ?_) (fun h_154 => ?_)
                  · exfalso; omega
                  · refine V_aload_n (i := 1) dX7_unit_157 rfl rfl ?_
                    refine V_iload_n (i := 2) dX7_unit_158 rfl rfl ?_
                    refine V_iload (i := 8) dX7_unit_159 rfl ?_
                    refine V_callS (As := _) (rest := []) [1] (c_X7_isOwn l G a g h (g (384 + 13 * h + 6) + g (384 + 13 * h + 10)) hh (by omega) (ho _ (by omega))) vy_X7_isOwn gX7_unit_X7_isOwn rfl rfl rfl rfl ⟨rfl, rfl⟩ ⟨rfl, rfl⟩ ⟨Nat.zero_le _, Nat.zero_le _⟩ rfl dX7_unit_161 (fun v Y hE => ?_)
                    obtain ⟨rfl, rfl⟩ := hE
                    refine ⟨rfl, ?_⟩
                    dsimp only [vfill, List.set_cons_zero, List.set_cons_succ, Option.toList, List.cons_append, List.nil_append, Nat.add_zero]
                    refine V_if_eq (tgt := 183) (by unfold rOw; split <;> decide) dX7_unit_164 rfl (fun h_164 => ?_) (fun h_164 => ?_)
                    · refine V_aload_n (i := 1) dX7_unit_183 rfl rfl ?_
                      refine V_iload_n (i := 2) dX7_unit_184 rfl rfl ?_
                      refine V_iconst (v := 4) dX7_unit_185 rfl ?_
                      refine V_callS (As := _) (rest := []) [1] (c_X7_fail l G a g h 4 hh) vy_X7_fail gX7_unit_X7_fail rfl rfl rfl rfl ⟨rfl, rfl⟩ ⟨rfl, rfl⟩ ⟨Nat.zero_le _, Nat.zero_le _⟩ rfl dX7_unit_186 (fun v Y hE => ?_)
                      obtain ⟨rfl, rfl⟩ := hE
                      refine ⟨rfl, ?_⟩
                      dsimp only [vfill, List.set_cons_zero, List.set_cons_succ, Option.toList, List.cons_append, List.nil_append, Nat.add_zero]
                      refine V_iconst (v := 0) dX7_unit_189 rfl ?_
                      refine V_zret hR dX7_unit_190 (by first | exact Or.inl rfl | exact Or.inr rfl | omega) hkc hks ?_
                      first | (have e8 := rUn_1 (K := 1) (h := h) (t := (z, g, b)) (Or.inl (show 96 ≤ (g (384 + 13 * h + 5) + g (384 + 13 * h + 10)) by omega)); rw [rUnE (K := 1) e7, e8]; exact ⟨rfl, rfl⟩) | (have e8 := rUn_1 (K := 1) (h := h) (t := (z, g, b)) (Or.inr (show 96 ≤ (g (384 + 13 * h + 6) + g (384 + 13 * h + 10)) by omega)); rw [rUnE (K := 1) e7, e8]; exact ⟨rfl, rfl⟩) | (have e8 := rUn_2 (K := 1) (h := h) (t := (z, g, b)) (fun z9 => by rcases z9 with z9 | z9 <;> revert z9 <;> first | exact (fun z9 : 96 ≤ (g (384 + 13 * h + 5) + g (384 + 13 * h + 10)) => by omega) | exact (fun z9 : 96 ≤ (g (384 + 13 * h + 6) + g (384 + 13 * h + 10)) => by omega)) ⟨(fun z9 => absurd z9.1 (by decide)), Or.inl h_164⟩; rw [rUnE (K := 1) e7, e8]; exact ⟨rfl, rfl⟩) | (have e8 := rUn_3 (K := 1) (h := h) (t := (z, g, b)) (fun z9 => by rcases z9 with z9 | z9 <;> revert z9 <;> first | exact (fun z9 : 96 ≤ (g (384 + 13 * h + 5) + g (384 + 13 * h + 10)) => by omega) | exact (fun z9 : 96 ≤ (g (384 + 13 * h + 6) + g (384 + 13 * h + 10)) => by omega)) (fun z9 => z9.2.elim h_164 (fun y9 => absurd y9.1 (by decide))); rw [rUnE (K := 1) e7, e8]; exact ⟨rfl, rfl⟩)
                    · refine V_iload (i := 4) dX7_unit_167 rfl ?_
                      refine V_iconst (v := 5) dX7_unit_169 rfl ?_
                      refine V_icmp_ne (tgt := 191) (by omega) (by omega) dX7_unit_170 rfl (fun h_170 => ?_) (fun h_170 => ?_)
                      · refine V_iload (i := 4) dX7_unit_191 rfl ?_
                        refine V_iconst (v := 3) dX7_unit_193 rfl ?_
                        refine V_icmp_ge (tgt := 212) (by omega) (by omega) dX7_unit_194 rfl (fun h_194 => ?_) (fun h_194 => ?_)
                        · exfalso; omega
                        · refine V_aload_n (i := 0) dX7_unit_197 rfl rfl ?_
                          refine V_aload_n (i := 1) dX7_unit_198 rfl rfl ?_
                          refine V_iload_n (i := 2) dX7_unit_199 rfl rfl ?_
                          refine V_iload (i := 8) dX7_unit_200 rfl ?_
                          refine V_aload_n (i := 1) dX7_unit_202 rfl rfl ?_
                          refine V_iload (i := 7) dX7_unit_203 rfl ?_
                          refine V_iald (q := 1) rfl (by omega) rfl dX7_unit_205 ?_
                          refine V_callV (C := RX7) (q := 0) (ci := 6) (As := _) (rest := []) [0, 1, 2] (c_X7_write l G B z b a g h ((g (384 + 13 * h + 6) + g (384 + 13 * h + 10))) (g (g (384 + 13 * h + 5) + g (384 + 13 * h + 10))) hh (by omega) (hm _ (by omega)) hz) vy_X7_write gX7_unit_X7_write rfl rfl rfl rfl rfl rfl rfl ⟨rfl, rfl⟩ ⟨rfl, rfl⟩ ⟨Nat.zero_le _, Nat.zero_le _⟩ rfl dX7_unit_206 (fun v Y hE => ?_)
                          obtain ⟨rfl, rfl⟩ := hE
                          refine ⟨rfl, ?_⟩
                          dsimp only [vfill, w3, List.set_cons_zero, List.set_cons_succ, Option.toList, List.cons_append, List.nil_append, Nat.add_zero]
                          refine V_goto (tgt := 297) dX7_unit_209 rfl ?_
                          refine V_iconst (v := 1) dX7_unit_297 rfl ?_
                          refine V_zret hR dX7_unit_298 (by first | exact Or.inl rfl | exact Or.inr rfl | omega) hkc hks ?_
                          first | (have e8 := rUn_1 (K := 1) (h := h) (t := (z, g, b)) (Or.inl (show 96 ≤ (g (384 + 13 * h + 5) + g (384 + 13 * h + 10)) by omega)); rw [rUnE (K := 1) e7, e8]; exact ⟨rfl, rfl⟩) | (have e8 := rUn_1 (K := 1) (h := h) (t := (z, g, b)) (Or.inr (show 96 ≤ (g (384 + 13 * h + 6) + g (384 + 13 * h + 10)) by omega)); rw [rUnE (K := 1) e7, e8]; exact ⟨rfl, rfl⟩) | (have e8 := rUn_2 (K := 1) (h := h) (t := (z, g, b)) (fun z9 => by rcases z9 with z9 | z9 <;> revert z9 <;> first | exact (fun z9 : 96 ≤ (g (384 + 13 * h + 5) + g (384 + 13 * h + 10)) => by omega) | exact (fun z9 : 96 ≤ (g (384 + 13 * h + 6) + g (384 + 13 * h + 10)) => by omega)) ⟨(fun z9 => absurd z9.1 (by decide)), Or.inl h_164⟩; rw [rUnE (K := 1) e7, e8]; exact ⟨rfl, rfl⟩) | (have e8 := rUn_3 (K := 1) (h := h) (t := (z, g, b)) (fun z9 => by rcases z9 with z9 | z9 <;> revert z9 <;> first | exact (fun z9 : 96 ≤ (g (384 + 13 * h + 5) + g (384 + 13 * h + 10)) => by omega) | exact (fun z9 : 96 ≤ (g (384 + 13 * h + 6) + g (384 + 13 * h + 10)) => by omega)) (fun z9 => z9.2.elim h_164 (fun y9 => absurd y9.1 (by decide))); rw [rUnE (K := 1) e7, e8]; exact ⟨rfl, rfl⟩)
                      · exfalso; omega
                · exfalso; omega
              · refine V_aload_n (i := 1) dX7_unit_124 rfl rfl ?_
                refine V_iload_n (i := 2) dX7_unit_125 rfl rfl ?_
                refine V_iconst (v := 3) dX7_unit_126 rfl ?_
                refine V_callS (As := _) (rest := []) [1] (c_X7_fail l G a g h 3 hh) vy_X7_fail gX7_unit_X7_fail rfl rfl rfl rfl ⟨rfl, rfl⟩ ⟨rfl, rfl⟩ ⟨Nat.zero_le _, Nat.zero_le _⟩ rfl dX7_unit_127 (fun v Y hE => ?_)
                obtain ⟨rfl, rfl⟩ := hE
                refine ⟨rfl, ?_⟩
                dsimp only [vfill, List.set_cons_zero, List.set_cons_succ, Option.toList, List.cons_append, List.nil_append, Nat.add_zero]
                refine V_iconst (v := 0) dX7_unit_130 rfl ?_
                refine V_zret hR dX7_unit_131 (by first | exact Or.inl rfl | exact Or.inr rfl | omega) hkc hks ?_
                first | (have e8 := rUn_1 (K := 1) (h := h) (t := (z, g, b)) (Or.inl (show 96 ≤ (g (384 + 13 * h + 5) + g (384 + 13 * h + 10)) by omega)); rw [rUnE (K := 1) e7, e8]; exact ⟨rfl, rfl⟩) | (have e8 := rUn_1 (K := 1) (h := h) (t := (z, g, b)) (Or.inr (show 96 ≤ (g (384 + 13 * h + 6) + g (384 + 13 * h + 10)) by omega)); rw [rUnE (K := 1) e7, e8]; exact ⟨rfl, rfl⟩) | (have e8 := rUn_2 (K := 1) (h := h) (t := (z, g, b)) (fun z9 => by rcases z9 with z9 | z9 <;> revert z9 <;> first | exact (fun z9 : 96 ≤ (g (384 + 13 * h + 5) + g (384 + 13 * h + 10)) => by omega) | exact (fun z9 : 96 ≤ (g (384 + 13 * h + 6) + g (384 + 13 * h + 10)) => by omega)) ⟨(fun z9 => absurd z9.1 (by decide)), Or.inl h_164⟩; rw [rUnE (K := 1) e7, e8]; exact ⟨rfl, rfl⟩) | (have e8 := rUn_3 (K := 1) (h := h) (t := (z, g, b)) (fun z9 => by rcases z9 with z9 | z9 <;> revert z9 <;> first | exact (fun z9 : 96 ≤ (g (384 + 13 * h + 5) + g (384 + 13 * h + 10)) => by omega) | exact (fun z9 : 96 ≤ (g (384 + 13 * h + 6) + g (384 + 13 * h + 10)) => by omega)) (fun z9 => z9.2.elim h_164 (fun y9 => absurd y9.1 (by decide))); rw [rUnE (K := 1) e7, e8]; exact ⟨rfl, rfl⟩)
      · exfalso; omega
    · exfalso; omega
  · refine V_top (b := 2) e7 ?_
    refine V_istore (i := 4) dX7_unit_10 rfl rfl ?_
    dsimp only [List.set_cons_zero, List.set_cons_succ]
    refine V_iload (i := 4) dX7_unit_12 rfl ?_
    refine V_iconst (v := 2) dX7_unit_14 rfl ?_
    refine V_icmp_ne (tgt := 36) (by omega) (by omega) dX7_unit_15 rfl (fun h_15 => ?_) (fun h_15 => ?_)
    · exfalso; omega
    · refine V_aload_n (i := 1) dX7_unit_18 rfl rfl ?_
      refine V_iload_n (i := 3) dX7_unit_19 rfl rfl ?_
      refine V_bipush (v := 7) dX7_unit_20 (by decide) ?_
      refine V_iadd dX7_unit_22 ?_
      refine V_iald (q := 1) rfl (by omega) rfl dX7_unit_23 ?_
      refine V_iconst (v := 1) dX7_unit_24 rfl ?_
      refine V_isub dX7_unit_25 (by omega) ?_
      refine V_aload_n (i := 1) dX7_unit_26 rfl rfl ?_
      refine V_iload_n (i := 3) dX7_unit_27 rfl rfl ?_
      refine V_bipush (v := 10) dX7_unit_28 (by decide) ?_
      refine V_iadd dX7_unit_30 ?_
      refine V_iald (q := 1) rfl (by omega) rfl dX7_unit_31 ?_
      refine V_isub dX7_unit_32 (by omega) ?_
      refine V_goto (tgt := 42) dX7_unit_33 rfl ?_
      refine V_istore (i := 5) dX7_unit_42 rfl rfl ?_
      dsimp only [List.set_cons_zero, List.set_cons_succ]
      refine V_iload (i := 4) dX7_unit_44 rfl ?_
      refine V_iconst (v := 3) dX7_unit_46 rfl ?_
      refine V_icmp_lt (tgt := 56) (by omega) (by omega) dX7_unit_47 rfl (fun h_47 => ?_) (fun h_47 => ?_)
      · refine V_iconst (v := 1) dX7_unit_56 rfl ?_
        refine V_goto (tgt := 61) dX7_unit_57 rfl ?_
        refine V_istore (i := 6) dX7_unit_61 rfl rfl ?_
        dsimp only [List.set_cons_zero, List.set_cons_succ]
        refine V_iload (i := 6) dX7_unit_63 rfl ?_
        refine V_if_eq (tgt := 79) (by omega) dX7_unit_65 rfl (fun h_65 => ?_) (fun h_65 => ?_)
        · exfalso; omega
        · refine V_aload_n (i := 1) dX7_unit_68 rfl rfl ?_
          refine V_iload_n (i := 3) dX7_unit_69 rfl rfl ?_
          refine V_iconst (v := 5) dX7_unit_70 rfl ?_
          refine V_iadd dX7_unit_71 ?_
          refine V_iald (q := 1) rfl (by omega) rfl dX7_unit_72 ?_
          refine V_iload (i := 5) dX7_unit_73 rfl ?_
          refine V_iadd dX7_unit_75 ?_
          refine V_goto (tgt := 80) dX7_unit_76 rfl ?_
          refine V_istore (i := 7) dX7_unit_80 rfl rfl ?_
          dsimp only [List.set_cons_zero, List.set_cons_succ]
          refine V_aload_n (i := 1) dX7_unit_82 rfl rfl ?_
          refine V_iload_n (i := 3) dX7_unit_83 rfl rfl ?_
          refine V_bipush (v := 6) dX7_unit_84 (by decide) ?_
          refine V_iadd dX7_unit_86 ?_
          refine V_iald (q := 1) rfl (by omega) rfl dX7_unit_87 ?_
          refine V_iload (i := 6) dX7_unit_88 rfl ?_
          refine V_if_eq (tgt := 98) (by omega) dX7_unit_90 rfl (fun h_90 => ?_) (fun h_90 => ?_)
          · exfalso; omega
          · refine V_iload (i := 5) dX7_unit_93 rfl ?_
            refine V_goto (tgt := 107) dX7_unit_95 rfl ?_
            refine V_iadd dX7_unit_107 ?_
            refine V_istore (i := 8) dX7_unit_108 rfl rfl ?_
            dsimp only [List.set_cons_zero, List.set_cons_succ]
            refine V_iload (i := 7) dX7_unit_110 rfl ?_
            refine V_bipush (v := 96) dX7_unit_112 (by decide) ?_
            refine V_icmp_ge (tgt := 124) (by omega) (by omega) dX7_unit_114 rfl (fun h_114 => ?_) (fun h_114 => ?_)
            · refine V_aload_n (i := 1) dX7_unit_124 rfl rfl ?_
              refine V_iload_n (i := 2) dX7_unit_125 rfl rfl ?_
              refine V_iconst (v := 3) dX7_unit_126 rfl ?_
              refine V_callS (As := _) (rest := []) [1] (c_X7_fail l G a g h 3 hh) vy_X7_fail gX7_unit_X7_fail rfl rfl rfl rfl ⟨rfl, rfl⟩ ⟨rfl, rfl⟩ ⟨Nat.zero_le _, Nat.zero_le _⟩ rfl dX7_unit_127 (fun v Y hE => ?_)
              obtain ⟨rfl, rfl⟩ := hE
              refine ⟨rfl, ?_⟩
              dsimp only [vfill, List.set_cons_zero, List.set_cons_succ, Option.toList, List.cons_append, List.nil_append, Nat.add_zero]
              refine V_iconst (v := 0) dX7_unit_130 rfl ?_
              refine V_zret hR dX7_unit_131 (by first | exact Or.inl rfl | exact Or.inr rfl | omega) hkc hks ?_
              first | (have e8 := rUn_1 (K := 2) (h := h) (t := (z, g, b)) (Or.inl (show 96 ≤ (g (384 + 13 * h + 5) + (g (384 + 13 * h + 7) - 1 - g (384 + 13 * h + 10))) by omega)); rw [rUnE (K := 2) e7, e8]; exact ⟨rfl, rfl⟩) | (have e8 := rUn_1 (K := 2) (h := h) (t := (z, g, b)) (Or.inr (show 96 ≤ (g (384 + 13 * h + 6) + (g (384 + 13 * h + 7) - 1 - g (384 + 13 * h + 10))) by omega)); rw [rUnE (K := 2) e7, e8]; exact ⟨rfl, rfl⟩) | (have e8 := rUn_2 (K := 2) (h := h) (t := (z, g, b)) (fun z9 => by rcases z9 with z9 | z9 <;> revert z9 <;> first | exact (fun z9 : 96 ≤ (g (384 + 13 * h + 5) + (g (384 + 13 * h + 7) - 1 - g (384 + 13 * h + 10))) => by omega) | exact (fun z9 : 96 ≤ (g (384 + 13 * h + 6) + (g (384 + 13 * h + 7) - 1 - g (384 + 13 * h + 10))) => by omega)) ⟨(fun z9 => absurd z9.1 (by decide)), Or.inl h_164⟩; rw [rUnE (K := 2) e7, e8]; exact ⟨rfl, rfl⟩) | (have e8 := rUn_3 (K := 2) (h := h) (t := (z, g, b)) (fun z9 => by rcases z9 with z9 | z9 <;> revert z9 <;> first | exact (fun z9 : 96 ≤ (g (384 + 13 * h + 5) + (g (384 + 13 * h + 7) - 1 - g (384 + 13 * h + 10))) => by omega) | exact (fun z9 : 96 ≤ (g (384 + 13 * h + 6) + (g (384 + 13 * h + 7) - 1 - g (384 + 13 * h + 10))) => by omega)) (fun z9 => z9.2.elim h_164 (fun y9 => absurd y9.1 (by decide))); rw [rUnE (K := 2) e7, e8]; exact ⟨rfl, rfl⟩)
            · refine V_iload (i := 8) dX7_unit_117 rfl ?_
              refine V_bipush (v := 96) dX7_unit_119 (by decide) ?_
              refine V_icmp_lt (tgt := 132) (by omega) (by omega) dX7_unit_121 rfl (fun h_121 => ?_) (fun h_121 => ?_)
              · refine V_iload (i := 4) dX7_unit_132 rfl ?_
                refine V_iconst (v := 5) dX7_unit_134 rfl ?_
                refine V_icmp_ne (tgt := 149) (by omega) (by omega) dX7_unit_135 rfl (fun h_135 => ?_) (fun h_135 => ?_)
                · refine V_iconst (v := 0) dX7_unit_149 rfl ?_
                  refine V_istore (i := 9) dX7_unit_150 rfl rfl ?_
                  dsimp only [List.set_cons_zero, List.set_cons_succ]
                  refine V_iload (i := 9) dX7_unit_152 rfl ?_
                  refine V_if_ne (tgt := 191) (by omega) dX7_unit_154 rfl (fun h_154 => ?_) (fun h_154 => ?_)
                  · exfalso; omega
                  · refine V_aload_n (i := 1) dX7_unit_157 rfl rfl ?_
                    refine V_iload_n (i := 2) dX7_unit_158 rfl rfl ?_
                    refine V_iload (i := 8) dX7_unit_159 rfl ?_
                    refine V_callS (As := _) (rest := []) [1] (c_X7_isOwn l G a g h (g (384 + 13 * h + 6) + (g (384 + 13 * h + 7) - 1 - g (384 + 13 * h + 10))) hh (by omega) (ho _ (by omega))) vy_X7_isOwn gX7_unit_X7_isOwn rfl rfl rfl rfl ⟨rfl, rfl⟩ ⟨rfl, rfl⟩ ⟨Nat.zero_le _, Nat.zero_le _⟩ rfl dX7_unit_161 (fun v Y hE => ?_)
                    obtain ⟨rfl, rfl⟩ := hE
                    refine ⟨rfl, ?_⟩
                    dsimp only [vfill, List.set_cons_zero, List.set_cons_succ, Option.toList, List.cons_append, List.nil_append, Nat.add_zero]
                    refine V_if_eq (tgt := 183) (by unfold rOw; split <;> decide) dX7_unit_164 rfl (fun h_164 => ?_) (fun h_164 => ?_)
                    · refine V_aload_n (i := 1) dX7_unit_183 rfl rfl ?_
                      refine V_iload_n (i := 2) dX7_unit_184 rfl rfl ?_
                      refine V_iconst (v := 4) dX7_unit_185 rfl ?_
                      refine V_callS (As := _) (rest := []) [1] (c_X7_fail l G a g h 4 hh) vy_X7_fail gX7_unit_X7_fail rfl rfl rfl rfl ⟨rfl, rfl⟩ ⟨rfl, rfl⟩ ⟨Nat.zero_le _, Nat.zero_le _⟩ rfl dX7_unit_186 (fun v Y hE => ?_)
                      obtain ⟨rfl, rfl⟩ := hE
                      refine ⟨rfl, ?_⟩
                      dsimp only [vfill, List.set_cons_zero, List.set_cons_succ, Option.toList, List.cons_append, List.nil_append, Nat.add_zero]
                      refine V_iconst (v := 0) dX7_unit_189 rfl ?_
                      refine V_zret hR dX7_unit_190 (by first | exact Or.inl rfl | exact Or.inr rfl | omega) hkc hks ?_
                      first | (have e8 := rUn_1 (K := 2) (h := h) (t := (z, g, b)) (Or.inl (show 96 ≤ (g (384 + 13 * h + 5) + (g (384 + 13 * h + 7) - 1 - g (384 + 13 * h + 10))) by omega)); rw [rUnE (K := 2) e7, e8]; exact ⟨rfl, rfl⟩) | (have e8 := rUn_1 (K := 2) (h := h) (t := (z, g, b)) (Or.inr (show 96 ≤ (g (384 + 13 * h + 6) + (g (384 + 13 * h + 7) - 1 - g (384 + 13 * h + 10))) by omega)); rw [rUnE (K := 2) e7, e8]; exact ⟨rfl, rfl⟩) | (have e8 := rUn_2 (K := 2) (h := h) (t := (z, g, b)) (fun z9 => by rcases z9 with z9 | z9 <;> revert z9 <;> first | exact (fun z9 : 96 ≤ (g (384 + 13 * h + 5) + (g (384 + 13 * h + 7) - 1 - g (384 + 13 * h + 10))) => by omega) | exact (fun z9 : 96 ≤ (g (384 + 13 * h + 6) + (g (384 + 13 * h + 7) - 1 - g (384 + 13 * h + 10))) => by omega)) ⟨(fun z9 => absurd z9.1 (by decide)), Or.inl h_164⟩; rw [rUnE (K := 2) e7, e8]; exact ⟨rfl, rfl⟩) | (have e8 := rUn_3 (K := 2) (h := h) (t := (z, g, b)) (fun z9 => by rcases z9 with z9 | z9 <;> revert z9 <;> first | exact (fun z9 : 96 ≤ (g (384 + 13 * h + 5) + (g (384 + 13 * h + 7) - 1 - g (384 + 13 * h + 10))) => by omega) | exact (fun z9 : 96 ≤ (g (384 + 13 * h + 6) + (g (384 + 13 * h + 7) - 1 - g (384 + 13 * h + 10))) => by omega)) (fun z9 => z9.2.elim h_164 (fun y9 => absurd y9.1 (by decide))); rw [rUnE (K := 2) e7, e8]; exact ⟨rfl, rfl⟩)
                    · refine V_iload (i := 4) dX7_unit_167 rfl ?_
                      refine V_iconst (v := 5) dX7_unit_169 rfl ?_
                      refine V_icmp_ne (tgt := 191) (by omega) (by omega) dX7_unit_170 rfl (fun h_170 => ?_) (fun h_170 => ?_)
                      · refine V_iload (i := 4) dX7_unit_191 rfl ?_
                        refine V_iconst (v := 3) dX7_unit_193 rfl ?_
                        refine V_icmp_ge (tgt := 212) (by omega) (by omega) dX7_unit_194 rfl (fun h_194 => ?_) (fun h_194 => ?_)
                        · exfalso; omega
                        · refine V_aload_n (i := 0) dX7_unit_197 rfl rfl ?_
                          refine V_aload_n (i := 1) dX7_unit_198 rfl rfl ?_
                          refine V_iload_n (i := 2) dX7_unit_199 rfl rfl ?_
                          refine V_iload (i := 8) dX7_unit_200 rfl ?_
                          refine V_aload_n (i := 1) dX7_unit_202 rfl rfl ?_
                          refine V_iload (i := 7) dX7_unit_203 rfl ?_
                          refine V_iald (q := 1) rfl (by omega) rfl dX7_unit_205 ?_
                          refine V_callV (C := RX7) (q := 0) (ci := 6) (As := _) (rest := []) [0, 1, 2] (c_X7_write l G B z b a g h ((g (384 + 13 * h + 6) + (g (384 + 13 * h + 7) - 1 - g (384 + 13 * h + 10)))) (g (g (384 + 13 * h + 5) + (g (384 + 13 * h + 7) - 1 - g (384 + 13 * h + 10)))) hh (by omega) (hm _ (by omega)) hz) vy_X7_write gX7_unit_X7_write rfl rfl rfl rfl rfl rfl rfl ⟨rfl, rfl⟩ ⟨rfl, rfl⟩ ⟨Nat.zero_le _, Nat.zero_le _⟩ rfl dX7_unit_206 (fun v Y hE => ?_)
                          obtain ⟨rfl, rfl⟩ := hE
                          refine ⟨rfl, ?_⟩
                          dsimp only [vfill, w3, List.set_cons_zero, List.set_cons_succ, Option.toList, List.cons_append, List.nil_append, Nat.add_zero]
                          refine V_goto (tgt := 297) dX7_unit_209 rfl ?_
                          refine V_iconst (v := 1) dX7_unit_297 rfl ?_
                          refine V_zret hR dX7_unit_298 (by first | exact Or.inl rfl | exact Or.inr rfl | omega) hkc hks ?_
                          first | (have e8 := rUn_1 (K := 2) (h := h) (t := (z, g, b)) (Or.inl (show 96 ≤ (g (384 + 13 * h + 5) + (g (384 + 13 * h + 7) - 1 - g (384 + 13 * h + 10))) by omega)); rw [rUnE (K := 2) e7, e8]; exact ⟨rfl, rfl⟩) | (have e8 := rUn_1 (K := 2) (h := h) (t := (z, g, b)) (Or.inr (show 96 ≤ (g (384 + 13 * h + 6) + (g (384 + 13 * h + 7) - 1 - g (384 + 13 * h + 10))) by omega)); rw [rUnE (K := 2) e7, e8]; exact ⟨rfl, rfl⟩) | (have e8 := rUn_2 (K := 2) (h := h) (t := (z, g, b)) (fun z9 => by rcases z9 with z9 | z9 <;> revert z9 <;> first | exact (fun z9 : 96 ≤ (g (384 + 13 * h + 5) + (g (384 + 13 * h + 7) - 1 - g (384 + 13 * h + 10))) => by omega) | exact (fun z9 : 96 ≤ (g (384 + 13 * h + 6) + (g (384 + 13 * h + 7) - 1 - g (384 + 13 * h + 10))) => by omega)) ⟨(fun z9 => absurd z9.1 (by decide)), Or.inl h_164⟩; rw [rUnE (K := 2) e7, e8]; exact ⟨rfl, rfl⟩) | (have e8 := rUn_3 (K := 2) (h := h) (t := (z, g, b)) (fun z9 => by rcases z9 with z9 | z9 <;> revert z9 <;> first | exact (fun z9 : 96 ≤ (g (384 + 13 * h + 5) + (g (384 + 13 * h + 7) - 1 - g (384 + 13 * h + 10))) => by omega) | exact (fun z9 : 96 ≤ (g (384 + 13 * h + 6) + (g (384 + 13 * h + 7) - 1 - g (384 + 13 * h + 10))) => by omega)) (fun z9 => z9.2.elim h_164 (fun y9 => absurd y9.1 (by decide))); rw [rUnE (K := 2) e7, e8]; exact ⟨rfl, rfl⟩)
                      · exfalso; omega
                · exfalso; omega
              · refine V_aload_n (i := 1) dX7_unit_124 rfl rfl ?_
                refine V_iload_n (i := 2) dX7_unit_125 rfl rfl ?_
                refine V_iconst (v := 3) dX7_unit_126 rfl ?_
                refine V_callS (As := _) (rest := []) [1] (c_X7_fail l G a g h 3 hh) vy_X7_fail gX7_unit_X7_fail rfl rfl rfl rfl ⟨rfl, rfl⟩ ⟨rfl, rfl⟩ ⟨Nat.zero_le _, Nat.zero_le _⟩ rfl dX7_unit_127 (fun v Y hE => ?_)
                obtain ⟨rfl, rfl⟩ := hE
                refine ⟨rfl, ?_⟩
                dsimp only [vfill, List.set_cons_zero, List.set_cons_succ, Option.toList, List.cons_append, List.nil_append, Nat.add_zero]
                refine V_iconst (v := 0) dX7_unit_130 rfl ?_
                refine V_zret hR dX7_unit_131 (by first | exact Or.inl rfl | exact Or.inr rfl | omega) hkc hks ?_
                first | (have e8 := rUn_1 (K := 2) (h := h) (t := (z, g, b)) (Or.inl (show 96 ≤ (g (384 + 13 * h + 5) + (g (384 + 13 * h + 7) - 1 - g (384 + 13 * h + 10))) by omega)); rw [rUnE (K := 2) e7, e8]; exact ⟨rfl, rfl⟩) | (have e8 := rUn_1 (K := 2) (h := h) (t := (z, g, b)) (Or.inr (show 96 ≤ (g (384 + 13 * h + 6) + (g (384 + 13 * h + 7) - 1 - g (384 + 13 * h + 10))) by omega)); rw [rUnE (K := 2) e7, e8]; exact ⟨rfl, rfl⟩) | (have e8 := rUn_2 (K := 2) (h := h) (t := (z, g, b)) (fun z9 => by rcases z9 with z9 | z9 <;> revert z9 <;> first | exact (fun z9 : 96 ≤ (g (384 + 13 * h + 5) + (g (384 + 13 * h + 7) - 1 - g (384 + 13 * h + 10))) => by omega) | exact (fun z9 : 96 ≤ (g (384 + 13 * h + 6) + (g (384 + 13 * h + 7) - 1 - g (384 + 13 * h + 10))) => by omega)) ⟨(fun z9 => absurd z9.1 (by decide)), Or.inl h_164⟩; rw [rUnE (K := 2) e7, e8]; exact ⟨rfl, rfl⟩) | (have e8 := rUn_3 (K := 2) (h := h) (t := (z, g, b)) (fun z9 => by rcases z9 with z9 | z9 <;> revert z9 <;> first | exact (fun z9 : 96 ≤ (g (384 + 13 * h + 5) + (g (384 + 13 * h + 7) - 1 - g (384 + 13 * h + 10))) => by omega) | exact (fun z9 : 96 ≤ (g (384 + 13 * h + 6) + (g (384 + 13 * h + 7) - 1 - g (384 + 13 * h + 10))) => by omega)) (fun z9 => z9.2.elim h_164 (fun y9 => absurd y9.1 (by decide))); rw [rUnE (K := 2) e7, e8]; exact ⟨rfl, rfl⟩)
      · exfalso; omega
  · refine V_top (b := 3) e7 ?_
    refine V_istore (i := 4) dX7_unit_10 rfl rfl ?_
    dsimp only [List.set_cons_zero, List.set_cons_succ]
    refine V_iload (i := 4) dX7_unit_12 rfl ?_
    refine V_iconst (v := 2) dX7_unit_14 rfl ?_
    refine V_icmp_ne (tgt := 36) (by omega) (by omega) dX7_unit_15 rfl (fun h_15 => ?_) (fun h_15 => ?_)
    · refine V_aload_n (i := 1) dX7_unit_36 rfl rfl ?_
      refine V_iload_n (i := 3) dX7_unit_37 rfl rfl ?_
      refine V_bipush (v := 10) dX7_unit_38 (by decide) ?_
      refine V_iadd dX7_unit_40 ?_
      refine V_iald (q := 1) rfl (by omega) rfl dX7_unit_41 ?_
      refine V_istore (i := 5) dX7_unit_42 rfl rfl ?_
      dsimp only [List.set_cons_zero, List.set_cons_succ]
      refine V_iload (i := 4) dX7_unit_44 rfl ?_
      refine V_iconst (v := 3) dX7_unit_46 rfl ?_
      refine V_icmp_lt (tgt := 56) (by omega) (by omega) dX7_unit_47 rfl (fun h_47 => ?_) (fun h_47 => ?_)
      · exfalso; omega
      · refine V_iload (i := 4) dX7_unit_50 rfl ?_
        refine V_iconst (v := 5) dX7_unit_52 rfl ?_
        refine V_icmp_ne (tgt := 60) (by omega) (by omega) dX7_unit_53 rfl (fun h_53 => ?_) (fun h_53 => ?_)
        · refine V_iconst (v := 0) dX7_unit_60 rfl ?_
          refine V_istore (i := 6) dX7_unit_61 rfl rfl ?_
          dsimp only [List.set_cons_zero, List.set_cons_succ]
          refine V_iload (i := 6) dX7_unit_63 rfl ?_
          refine V_if_eq (tgt := 79) (by omega) dX7_unit_65 rfl (fun h_65 => ?_) (fun h_65 => ?_)
          · refine V_iconst (v := 0) dX7_unit_79 rfl ?_
            refine V_istore (i := 7) dX7_unit_80 rfl rfl ?_
            dsimp only [List.set_cons_zero, List.set_cons_succ]
            refine V_aload_n (i := 1) dX7_unit_82 rfl rfl ?_
            refine V_iload_n (i := 3) dX7_unit_83 rfl rfl ?_
            refine V_bipush (v := 6) dX7_unit_84 (by decide) ?_
            refine V_iadd dX7_unit_86 ?_
            refine V_iald (q := 1) rfl (by omega) rfl dX7_unit_87 ?_
            refine V_iload (i := 6) dX7_unit_88 rfl ?_
            refine V_if_eq (tgt := 98) (by omega) dX7_unit_90 rfl (fun h_90 => ?_) (fun h_90 => ?_)
            · refine V_iload (i := 5) dX7_unit_98 rfl ?_
              refine V_aload_n (i := 1) dX7_unit_100 rfl rfl ?_
              refine V_iload_n (i := 3) dX7_unit_101 rfl rfl ?_
              refine V_bipush (v := 8) dX7_unit_102 (by decide) ?_
              refine V_iadd dX7_unit_104 ?_
              refine V_iald (q := 1) rfl (by omega) rfl dX7_unit_105 ?_
              refine V_imul dX7_unit_106 ?_
              refine V_iadd dX7_unit_107 ?_
              refine V_istore (i := 8) dX7_unit_108 rfl rfl ?_
              dsimp only [List.set_cons_zero, List.set_cons_succ]
              refine V_iload (i := 7) dX7_unit_110 rfl ?_
              refine V_bipush (v := 96) dX7_unit_112 (by decide) ?_
              refine V_icmp_ge (tgt := 124) (by omega) (by omega) dX7_unit_114 rfl (fun h_114 => ?_) (fun h_114 => ?_)
              · exfalso; omega
              · refine V_iload (i := 8) dX7_unit_117 rfl ?_
                refine V_bipush (v := 96) dX7_unit_119 (by decide) ?_
                refine V_icmp_lt (tgt := 132) (by omega) (by omega) dX7_unit_121 rfl (fun h_121 => ?_) (fun h_121 => ?_)
                · refine V_iload (i := 4) dX7_unit_132 rfl ?_
                  refine V_iconst (v := 5) dX7_unit_134 rfl ?_
                  refine V_icmp_ne (tgt := 149) (by omega) (by omega) dX7_unit_135 rfl (fun h_135 => ?_) (fun h_135 => ?_)
                  · refine V_iconst (v := 0) dX7_unit_149 rfl ?_
                    refine V_istore (i := 9) dX7_unit_150 rfl rfl ?_
                    dsimp only [List.set_cons_zero, List.set_cons_succ]
                    refine V_iload (i := 9) dX7_unit_152 rfl ?_
                    refine V_if_ne (tgt := 191) (by omega) dX7_unit_154 rfl (fun h_154 => ?_) (fun h_154 => ?_)
                    · exfalso; omega
                    · refine V_aload_n (i := 1) dX7_unit_157 rfl rfl ?_
                      refine V_iload_n (i := 2) dX7_unit_158 rfl rfl ?_
                      refine V_iload (i := 8) dX7_unit_159 rfl ?_
                      refine V_callS (As := _) (rest := []) [1] (c_X7_isOwn l G a g h (g (384 + 13 * h + 6) + g (384 + 13 * h + 10) * g (384 + 13 * h + 8)) hh (by omega) (ho _ (by omega))) vy_X7_isOwn gX7_unit_X7_isOwn rfl rfl rfl rfl ⟨rfl, rfl⟩ ⟨rfl, rfl⟩ ⟨Nat.zero_le _, Nat.zero_le _⟩ rfl dX7_unit_161 (fun v Y hE => ?_)
                      obtain ⟨rfl, rfl⟩ := hE
                      refine ⟨rfl, ?_⟩
                      dsimp only [vfill, List.set_cons_zero, List.set_cons_succ, Option.toList, List.cons_append, List.nil_append, Nat.add_zero]
                      refine V_if_eq (tgt := 183) (by unfold rOw; split <;> decide) dX7_unit_164 rfl (fun h_164 => ?_) (fun h_164 => ?_)
                      · refine V_aload_n (i := 1) dX7_unit_183 rfl rfl ?_
                        refine V_iload_n (i := 2) dX7_unit_184 rfl rfl ?_
                        refine V_iconst (v := 4) dX7_unit_185 rfl ?_
                        refine V_callS (As := _) (rest := []) [1] (c_X7_fail l G a g h 4 hh) vy_X7_fail gX7_unit_X7_fail rfl rfl rfl rfl ⟨rfl, rfl⟩ ⟨rfl, rfl⟩ ⟨Nat.zero_le _, Nat.zero_le _⟩ rfl dX7_unit_186 (fun v Y hE => ?_)
                        obtain ⟨rfl, rfl⟩ := hE
                        refine ⟨rfl, ?_⟩
                        dsimp only [vfill, List.set_cons_zero, List.set_cons_succ, Option.toList, List.cons_append, List.nil_append, Nat.add_zero]
                        refine V_iconst (v := 0) dX7_unit_189 rfl ?_
                        refine V_zret hR dX7_unit_190 (by first | exact Or.inl rfl | exact Or.inr rfl | omega) hkc hks ?_
                        first | (have e8 := rUn_1 (K := 3) (h := h) (t := (z, g, b)) (Or.inl (show 96 ≤ 0 by omega)); rw [rUnE (K := 3) e7, e8]; exact ⟨rfl, rfl⟩) | (have e8 := rUn_1 (K := 3) (h := h) (t := (z, g, b)) (Or.inr (show 96 ≤ (g (384 + 13 * h + 6) + g (384 + 13 * h + 10) * g (384 + 13 * h + 8)) by omega)); rw [rUnE (K := 3) e7, e8]; exact ⟨rfl, rfl⟩) | (have e8 := rUn_2 (K := 3) (h := h) (t := (z, g, b)) (fun z9 => by rcases z9 with z9 | z9 <;> revert z9 <;> first | exact (fun z9 : 96 ≤ 0 => by omega) | exact (fun z9 : 96 ≤ (g (384 + 13 * h + 6) + g (384 + 13 * h + 10) * g (384 + 13 * h + 8)) => by omega)) ⟨(fun z9 => absurd z9.1 (by decide)), Or.inl h_164⟩; rw [rUnE (K := 3) e7, e8]; exact ⟨rfl, rfl⟩) | (have e8 := rUn_3 (K := 3) (h := h) (t := (z, g, b)) (fun z9 => by rcases z9 with z9 | z9 <;> revert z9 <;> first | exact (fun z9 : 96 ≤ 0 => by omega) | exact (fun z9 : 96 ≤ (g (384 + 13 * h + 6) + g (384 + 13 * h + 10) * g (384 + 13 * h + 8)) => by omega)) (fun z9 => z9.2.elim h_164 (fun y9 => absurd y9.1 (by decide))); rw [rUnE (K := 3) e7, e8]; exact ⟨rfl, rfl⟩)
                      · refine V_iload (i := 4) dX7_unit_167 rfl ?_
                        refine V_iconst (v := 5) dX7_unit_169 rfl ?_
                        refine V_icmp_ne (tgt := 191) (by omega) (by omega) dX7_unit_170 rfl (fun h_170 => ?_) (fun h_170 => ?_)
                        · refine V_iload (i := 4) dX7_unit_191 rfl ?_
                          refine V_iconst (v := 3) dX7_unit_193 rfl ?_
                          refine V_icmp_ge (tgt := 212) (by omega) (by omega) dX7_unit_194 rfl (fun h_194 => ?_) (fun h_194 => ?_)
                          · refine V_iload (i := 4) dX7_unit_212 rfl ?_
                            refine V_iconst (v := 3) dX7_unit_214 rfl ?_
                            refine V_icmp_ne (tgt := 234) (by omega) (by omega) dX7_unit_215 rfl (fun h_215 => ?_) (fun h_215 => ?_)
                            · exfalso; omega
                            · refine V_aload_n (i := 0) dX7_unit_218 rfl rfl ?_
                              refine V_aload_n (i := 1) dX7_unit_219 rfl rfl ?_
                              refine V_iload_n (i := 2) dX7_unit_220 rfl rfl ?_
                              refine V_iload (i := 8) dX7_unit_221 rfl ?_
                              refine V_aload_n (i := 1) dX7_unit_223 rfl rfl ?_
                              refine V_iload_n (i := 3) dX7_unit_224 rfl rfl ?_
                              refine V_iconst (v := 5) dX7_unit_225 rfl ?_
                              refine V_iadd dX7_unit_226 ?_
                              refine V_iald (q := 1) rfl (by omega) rfl dX7_unit_227 ?_
                              refine V_callV (C := RX7) (q := 0) (ci := 6) (As := _) (rest := []) [0, 1, 2] (c_X7_write l G B z b a g h ((g (384 + 13 * h + 6) + g (384 + 13 * h + 10) * g (384 + 13 * h + 8))) (g (384 + 13 * h + 5)) hh (by omega) (hm _ (by omega)) hz) vy_X7_write gX7_unit_X7_write rfl rfl rfl rfl rfl rfl rfl ⟨rfl, rfl⟩ ⟨rfl, rfl⟩ ⟨Nat.zero_le _, Nat.zero_le _⟩ rfl dX7_unit_228 (fun v Y hE => ?_)
                              obtain ⟨rfl, rfl⟩ := hE
                              refine ⟨rfl, ?_⟩
                              dsimp only [vfill, w3, List.set_cons_zero, List.set_cons_succ, Option.toList, List.cons_append, List.nil_append, Nat.add_zero]
                              refine V_goto (tgt := 297) dX7_unit_231 rfl ?_
                              refine V_iconst (v := 1) dX7_unit_297 rfl ?_
                              refine V_zret hR dX7_unit_298 (by first | exact Or.inl rfl | exact Or.inr rfl | omega) hkc hks ?_
                              first | (have e8 := rUn_1 (K := 3) (h := h) (t := (z, g, b)) (Or.inl (show 96 ≤ 0 by omega)); rw [rUnE (K := 3) e7, e8]; exact ⟨rfl, rfl⟩) | (have e8 := rUn_1 (K := 3) (h := h) (t := (z, g, b)) (Or.inr (show 96 ≤ (g (384 + 13 * h + 6) + g (384 + 13 * h + 10) * g (384 + 13 * h + 8)) by omega)); rw [rUnE (K := 3) e7, e8]; exact ⟨rfl, rfl⟩) | (have e8 := rUn_2 (K := 3) (h := h) (t := (z, g, b)) (fun z9 => by rcases z9 with z9 | z9 <;> revert z9 <;> first | exact (fun z9 : 96 ≤ 0 => by omega) | exact (fun z9 : 96 ≤ (g (384 + 13 * h + 6) + g (384 + 13 * h + 10) * g (384 + 13 * h + 8)) => by omega)) ⟨(fun z9 => absurd z9.1 (by decide)), Or.inl h_164⟩; rw [rUnE (K := 3) e7, e8]; exact ⟨rfl, rfl⟩) | (have e8 := rUn_3 (K := 3) (h := h) (t := (z, g, b)) (fun z9 => by rcases z9 with z9 | z9 <;> revert z9 <;> first | exact (fun z9 : 96 ≤ 0 => by omega) | exact (fun z9 : 96 ≤ (g (384 + 13 * h + 6) + g (384 + 13 * h + 10) * g (384 + 13 * h + 8)) => by omega)) (fun z9 => z9.2.elim h_164 (fun y9 => absurd y9.1 (by decide))); rw [rUnE (K := 3) e7, e8]; exact ⟨rfl, rfl⟩)
                          · exfalso; omega
                        · exfalso; omega
                  · exfalso; omega
                · refine V_aload_n (i := 1) dX7_unit_124 rfl rfl ?_
                  refine V_iload_n (i := 2) dX7_unit_125 rfl rfl ?_
                  refine V_iconst (v := 3) dX7_unit_126 rfl ?_
                  refine V_callS (As := _) (rest := []) [1] (c_X7_fail l G a g h 3 hh) vy_X7_fail gX7_unit_X7_fail rfl rfl rfl rfl ⟨rfl, rfl⟩ ⟨rfl, rfl⟩ ⟨Nat.zero_le _, Nat.zero_le _⟩ rfl dX7_unit_127 (fun v Y hE => ?_)
                  obtain ⟨rfl, rfl⟩ := hE
                  refine ⟨rfl, ?_⟩
                  dsimp only [vfill, List.set_cons_zero, List.set_cons_succ, Option.toList, List.cons_append, List.nil_append, Nat.add_zero]
                  refine V_iconst (v := 0) dX7_unit_130 rfl ?_
                  refine V_zret hR dX7_unit_131 (by first | exact Or.inl rfl | exact Or.inr rfl | omega) hkc hks ?_
                  first | (have e8 := rUn_1 (K := 3) (h := h) (t := (z, g, b)) (Or.inl (show 96 ≤ 0 by omega)); rw [rUnE (K := 3) e7, e8]; exact ⟨rfl, rfl⟩) | (have e8 := rUn_1 (K := 3) (h := h) (t := (z, g, b)) (Or.inr (show 96 ≤ (g (384 + 13 * h + 6) + g (384 + 13 * h + 10) * g (384 + 13 * h + 8)) by omega)); rw [rUnE (K := 3) e7, e8]; exact ⟨rfl, rfl⟩) | (have e8 := rUn_2 (K := 3) (h := h) (t := (z, g, b)) (fun z9 => by rcases z9 with z9 | z9 <;> revert z9 <;> first | exact (fun z9 : 96 ≤ 0 => by omega) | exact (fun z9 : 96 ≤ (g (384 + 13 * h + 6) + g (384 + 13 * h + 10) * g (384 + 13 * h + 8)) => by omega)) ⟨(fun z9 => absurd z9.1 (by decide)), Or.inl h_164⟩; rw [rUnE (K := 3) e7, e8]; exact ⟨rfl, rfl⟩) | (have e8 := rUn_3 (K := 3) (h := h) (t := (z, g, b)) (fun z9 => by rcases z9 with z9 | z9 <;> revert z9 <;> first | exact (fun z9 : 96 ≤ 0 => by omega) | exact (fun z9 : 96 ≤ (g (384 + 13 * h + 6) + g (384 + 13 * h + 10) * g (384 + 13 * h + 8)) => by omega)) (fun z9 => z9.2.elim h_164 (fun y9 => absurd y9.1 (by decide))); rw [rUnE (K := 3) e7, e8]; exact ⟨rfl, rfl⟩)
            · exfalso; omega
          · exfalso; omega
        · exfalso; omega
    · exfalso; omega
  · refine V_top (b := 4) e7 ?_
    refine V_istore (i := 4) dX7_unit_10 rfl rfl ?_
    dsimp only [List.set_cons_zero, List.set_cons_succ]
    refine V_iload (i := 4) dX7_unit_12 rfl ?_
    refine V_iconst (v := 2) dX7_unit_14 rfl ?_
    refine V_icmp_ne (tgt := 36) (by omega) (by omega) dX7_unit_15 rfl (fun h_15 => ?_) (fun h_15 => ?_)
    · refine V_aload_n (i := 1) dX7_unit_36 rfl rfl ?_
      refine V_iload_n (i := 3) dX7_unit_37 rfl rfl ?_
      refine V_bipush (v := 10) dX7_unit_38 (by decide) ?_
      refine V_iadd dX7_unit_40 ?_
      refine V_iald (q := 1) rfl (by omega) rfl dX7_unit_41 ?_
      refine V_istore (i := 5) dX7_unit_42 rfl rfl ?_
      dsimp only [List.set_cons_zero, List.set_cons_succ]
      refine V_iload (i := 4) dX7_unit_44 rfl ?_
      refine V_iconst (v := 3) dX7_unit_46 rfl ?_
      refine V_icmp_lt (tgt := 56) (by omega) (by omega) dX7_unit_47 rfl (fun h_47 => ?_) (fun h_47 => ?_)
      · exfalso; omega
      · refine V_iload (i := 4) dX7_unit_50 rfl ?_
        refine V_iconst (v := 5) dX7_unit_52 rfl ?_
        refine V_icmp_ne (tgt := 60) (by omega) (by omega) dX7_unit_53 rfl (fun h_53 => ?_) (fun h_53 => ?_)
        · refine V_iconst (v := 0) dX7_unit_60 rfl ?_
          refine V_istore (i := 6) dX7_unit_61 rfl rfl ?_
          dsimp only [List.set_cons_zero, List.set_cons_succ]
          refine V_iload (i := 6) dX7_unit_63 rfl ?_
          refine V_if_eq (tgt := 79) (by omega) dX7_unit_65 rfl (fun h_65 => ?_) (fun h_65 => ?_)
          · refine V_iconst (v := 0) dX7_unit_79 rfl ?_
            refine V_istore (i := 7) dX7_unit_80 rfl rfl ?_
            dsimp only [List.set_cons_zero, List.set_cons_succ]
            refine V_aload_n (i := 1) dX7_unit_82 rfl rfl ?_
            refine V_iload_n (i := 3) dX7_unit_83 rfl rfl ?_
            refine V_bipush (v := 6) dX7_unit_84 (by decide) ?_
            refine V_iadd dX7_unit_86 ?_
            refine V_iald (q := 1) rfl (by omega) rfl dX7_unit_87 ?_
            refine V_iload (i := 6) dX7_unit_88 rfl ?_
            refine V_if_eq (tgt := 98) (by omega) dX7_unit_90 rfl (fun h_90 => ?_) (fun h_90 => ?_)
            · refine V_iload (i := 5) dX7_unit_98 rfl ?_
              refine V_aload_n (i := 1) dX7_unit_100 rfl rfl ?_
              refine V_iload_n (i := 3) dX7_unit_101 rfl rfl ?_
              refine V_bipush (v := 8) dX7_unit_102 (by decide) ?_
              refine V_iadd dX7_unit_104 ?_
              refine V_iald (q := 1) rfl (by omega) rfl dX7_unit_105 ?_
              refine V_imul dX7_unit_106 ?_
              refine V_iadd dX7_unit_107 ?_
              refine V_istore (i := 8) dX7_unit_108 rfl rfl ?_
              dsimp only [List.set_cons_zero, List.set_cons_succ]
              refine V_iload (i := 7) dX7_unit_110 rfl ?_
              refine V_bipush (v := 96) dX7_unit_112 (by decide) ?_
              refine V_icmp_ge (tgt := 124) (by omega) (by omega) dX7_unit_114 rfl (fun h_114 => ?_) (fun h_114 => ?_)
              · exfalso; omega
              · refine V_iload (i := 8) dX7_unit_117 rfl ?_
                refine V_bipush (v := 96) dX7_unit_119 (by decide) ?_
                refine V_icmp_lt (tgt := 132) (by omega) (by omega) dX7_unit_121 rfl (fun h_121 => ?_) (fun h_121 => ?_)
                · refine V_iload (i := 4) dX7_unit_132 rfl ?_
                  refine V_iconst (v := 5) dX7_unit_134 rfl ?_
                  refine V_icmp_ne (tgt := 149) (by omega) (by omega) dX7_unit_135 rfl (fun h_135 => ?_) (fun h_135 => ?_)
                  · refine V_iconst (v := 0) dX7_unit_149 rfl ?_
                    refine V_istore (i := 9) dX7_unit_150 rfl rfl ?_
                    dsimp only [List.set_cons_zero, List.set_cons_succ]
                    refine V_iload (i := 9) dX7_unit_152 rfl ?_
                    refine V_if_ne (tgt := 191) (by omega) dX7_unit_154 rfl (fun h_154 => ?_) (fun h_154 => ?_)
                    · exfalso; omega
                    · refine V_aload_n (i := 1) dX7_unit_157 rfl rfl ?_
                      refine V_iload_n (i := 2) dX7_unit_158 rfl rfl ?_
                      refine V_iload (i := 8) dX7_unit_159 rfl ?_
                      refine V_callS (As := _) (rest := []) [1] (c_X7_isOwn l G a g h (g (384 + 13 * h + 6) + g (384 + 13 * h + 10) * g (384 + 13 * h + 8)) hh (by omega) (ho _ (by omega))) vy_X7_isOwn gX7_unit_X7_isOwn rfl rfl rfl rfl ⟨rfl, rfl⟩ ⟨rfl, rfl⟩ ⟨Nat.zero_le _, Nat.zero_le _⟩ rfl dX7_unit_161 (fun v Y hE => ?_)
                      obtain ⟨rfl, rfl⟩ := hE
                      refine ⟨rfl, ?_⟩
                      dsimp only [vfill, List.set_cons_zero, List.set_cons_succ, Option.toList, List.cons_append, List.nil_append, Nat.add_zero]
                      refine V_if_eq (tgt := 183) (by unfold rOw; split <;> decide) dX7_unit_164 rfl (fun h_164 => ?_) (fun h_164 => ?_)
                      · refine V_aload_n (i := 1) dX7_unit_183 rfl rfl ?_
                        refine V_iload_n (i := 2) dX7_unit_184 rfl rfl ?_
                        refine V_iconst (v := 4) dX7_unit_185 rfl ?_
                        refine V_callS (As := _) (rest := []) [1] (c_X7_fail l G a g h 4 hh) vy_X7_fail gX7_unit_X7_fail rfl rfl rfl rfl ⟨rfl, rfl⟩ ⟨rfl, rfl⟩ ⟨Nat.zero_le _, Nat.zero_le _⟩ rfl dX7_unit_186 (fun v Y hE => ?_)
                        obtain ⟨rfl, rfl⟩ := hE
                        refine ⟨rfl, ?_⟩
                        dsimp only [vfill, List.set_cons_zero, List.set_cons_succ, Option.toList, List.cons_append, List.nil_append, Nat.add_zero]
                        refine V_iconst (v := 0) dX7_unit_189 rfl ?_
                        refine V_zret hR dX7_unit_190 (by first | exact Or.inl rfl | exact Or.inr rfl | omega) hkc hks ?_
                        first | (have e8 := rUn_1 (K := 4) (h := h) (t := (z, g, b)) (Or.inl (show 96 ≤ 0 by omega)); rw [rUnE (K := 4) e7, e8]; exact ⟨rfl, rfl⟩) | (have e8 := rUn_1 (K := 4) (h := h) (t := (z, g, b)) (Or.inr (show 96 ≤ (g (384 + 13 * h + 6) + g (384 + 13 * h + 10) * g (384 + 13 * h + 8)) by omega)); rw [rUnE (K := 4) e7, e8]; exact ⟨rfl, rfl⟩) | (have e8 := rUn_2 (K := 4) (h := h) (t := (z, g, b)) (fun z9 => by rcases z9 with z9 | z9 <;> revert z9 <;> first | exact (fun z9 : 96 ≤ 0 => by omega) | exact (fun z9 : 96 ≤ (g (384 + 13 * h + 6) + g (384 + 13 * h + 10) * g (384 + 13 * h + 8)) => by omega)) ⟨(fun z9 => absurd z9.1 (by decide)), Or.inl h_164⟩; rw [rUnE (K := 4) e7, e8]; exact ⟨rfl, rfl⟩) | (have e8 := rUn_3 (K := 4) (h := h) (t := (z, g, b)) (fun z9 => by rcases z9 with z9 | z9 <;> revert z9 <;> first | exact (fun z9 : 96 ≤ 0 => by omega) | exact (fun z9 : 96 ≤ (g (384 + 13 * h + 6) + g (384 + 13 * h + 10) * g (384 + 13 * h + 8)) => by omega)) (fun z9 => z9.2.elim h_164 (fun y9 => absurd y9.1 (by decide))); rw [rUnE (K := 4) e7, e8]; exact ⟨rfl, rfl⟩)
                      · refine V_iload (i := 4) dX7_unit_167 rfl ?_
                        refine V_iconst (v := 5) dX7_unit_169 rfl ?_
                        refine V_icmp_ne (tgt := 191) (by omega) (by omega) dX7_unit_170 rfl (fun h_170 => ?_) (fun h_170 => ?_)
                        · refine V_iload (i := 4) dX7_unit_191 rfl ?_
                          refine V_iconst (v := 3) dX7_unit_193 rfl ?_
                          refine V_icmp_ge (tgt := 212) (by omega) (by omega) dX7_unit_194 rfl (fun h_194 => ?_) (fun h_194 => ?_)
                          · refine V_iload (i := 4) dX7_unit_212 rfl ?_
                            refine V_iconst (v := 3) dX7_unit_214 rfl ?_
                            refine V_icmp_ne (tgt := 234) (by omega) (by omega) dX7_unit_215 rfl (fun h_215 => ?_) (fun h_215 => ?_)
                            · refine V_iload (i := 4) dX7_unit_234 rfl ?_
                              refine V_iconst (v := 4) dX7_unit_236 rfl ?_
                              refine V_icmp_ne (tgt := 264) (by omega) (by omega) dX7_unit_237 rfl (fun h_237 => ?_) (fun h_237 => ?_)
                              · exfalso; omega
                              · refine V_aload_n (i := 0) dX7_unit_240 rfl rfl ?_
                                refine V_aload_n (i := 1) dX7_unit_241 rfl rfl ?_
                                refine V_iload_n (i := 2) dX7_unit_242 rfl rfl ?_
                                refine V_iload (i := 8) dX7_unit_243 rfl ?_
                                refine V_aload_n (i := 1) dX7_unit_245 rfl rfl ?_
                                refine V_iload (i := 8) dX7_unit_246 rfl ?_
                                refine V_iald (q := 1) rfl (by omega) rfl dX7_unit_248 ?_
                                refine V_aload_n (i := 1) dX7_unit_249 rfl rfl ?_
                                refine V_iload_n (i := 3) dX7_unit_250 rfl rfl ?_
                                refine V_iconst (v := 5) dX7_unit_251 rfl ?_
                                refine V_iadd dX7_unit_252 ?_
                                refine V_iald (q := 1) rfl (by omega) rfl dX7_unit_253 ?_
                                refine V_iadd dX7_unit_254 ?_
                                refine V_bipush (v := 100) dX7_unit_255 (by decide) ?_
                                refine V_irem dX7_unit_257 (by have := hv _ (show (g (384 + 13 * h + 6) + g (384 + 13 * h + 10) * g (384 + 13 * h + 8)) < 96 by omega); omega) (by omega) (by omega) ?_
                                refine V_callV (C := RX7) (q := 0) (ci := 6) (As := _) (rest := []) [0, 1, 2] (c_X7_write l G B z b a g h ((g (384 + 13 * h + 6) + g (384 + 13 * h + 10) * g (384 + 13 * h + 8))) ((g (g (384 + 13 * h + 6) + g (384 + 13 * h + 10) * g (384 + 13 * h + 8)) + g (384 + 13 * h + 5)) % 100) hh (by omega) (hm _ (by omega)) hz) vy_X7_write gX7_unit_X7_write rfl rfl rfl rfl rfl rfl rfl ⟨rfl, rfl⟩ ⟨rfl, rfl⟩ ⟨Nat.zero_le _, Nat.zero_le _⟩ rfl dX7_unit_258 (fun v Y hE => ?_)
                                obtain ⟨rfl, rfl⟩ := hE
                                refine ⟨rfl, ?_⟩
                                dsimp only [vfill, w3, List.set_cons_zero, List.set_cons_succ, Option.toList, List.cons_append, List.nil_append, Nat.add_zero]
                                refine V_goto (tgt := 297) dX7_unit_261 rfl ?_
                                refine V_iconst (v := 1) dX7_unit_297 rfl ?_
                                refine V_zret hR dX7_unit_298 (by first | exact Or.inl rfl | exact Or.inr rfl | omega) hkc hks ?_
                                first | (have e8 := rUn_1 (K := 4) (h := h) (t := (z, g, b)) (Or.inl (show 96 ≤ 0 by omega)); rw [rUnE (K := 4) e7, e8]; exact ⟨rfl, rfl⟩) | (have e8 := rUn_1 (K := 4) (h := h) (t := (z, g, b)) (Or.inr (show 96 ≤ (g (384 + 13 * h + 6) + g (384 + 13 * h + 10) * g (384 + 13 * h + 8)) by omega)); rw [rUnE (K := 4) e7, e8]; exact ⟨rfl, rfl⟩) | (have e8 := rUn_2 (K := 4) (h := h) (t := (z, g, b)) (fun z9 => by rcases z9 with z9 | z9 <;> revert z9 <;> first | exact (fun z9 : 96 ≤ 0 => by omega) | exact (fun z9 : 96 ≤ (g (384 + 13 * h + 6) + g (384 + 13 * h + 10) * g (384 + 13 * h + 8)) => by omega)) ⟨(fun z9 => absurd z9.1 (by decide)), Or.inl h_164⟩; rw [rUnE (K := 4) e7, e8]; exact ⟨rfl, rfl⟩) | (have e8 := rUn_3 (K := 4) (h := h) (t := (z, g, b)) (fun z9 => by rcases z9 with z9 | z9 <;> revert z9 <;> first | exact (fun z9 : 96 ≤ 0 => by omega) | exact (fun z9 : 96 ≤ (g (384 + 13 * h + 6) + g (384 + 13 * h + 10) * g (384 + 13 * h + 8)) => by omega)) (fun z9 => z9.2.elim h_164 (fun y9 => absurd y9.1 (by decide))); rw [rUnE (K := 4) e7, e8]; exact ⟨rfl, rfl⟩)
                            · exfalso; omega
                          · exfalso; omega
                        · exfalso; omega
                  · exfalso; omega
                · refine V_aload_n (i := 1) dX7_unit_124 rfl rfl ?_
                  refine V_iload_n (i := 2) dX7_unit_125 rfl rfl ?_
                  refine V_iconst (v := 3) dX7_unit_126 rfl ?_
                  refine V_callS (As := _) (rest := []) [1] (c_X7_fail l G a g h 3 hh) vy_X7_fail gX7_unit_X7_fail rfl rfl rfl rfl ⟨rfl, rfl⟩ ⟨rfl, rfl⟩ ⟨Nat.zero_le _, Nat.zero_le _⟩ rfl dX7_unit_127 (fun v Y hE => ?_)
                  obtain ⟨rfl, rfl⟩ := hE
                  refine ⟨rfl, ?_⟩
                  dsimp only [vfill, List.set_cons_zero, List.set_cons_succ, Option.toList, List.cons_append, List.nil_append, Nat.add_zero]
                  refine V_iconst (v := 0) dX7_unit_130 rfl ?_
                  refine V_zret hR dX7_unit_131 (by first | exact Or.inl rfl | exact Or.inr rfl | omega) hkc hks ?_
                  first | (have e8 := rUn_1 (K := 4) (h := h) (t := (z, g, b)) (Or.inl (show 96 ≤ 0 by omega)); rw [rUnE (K := 4) e7, e8]; exact ⟨rfl, rfl⟩) | (have e8 := rUn_1 (K := 4) (h := h) (t := (z, g, b)) (Or.inr (show 96 ≤ (g (384 + 13 * h + 6) + g (384 + 13 * h + 10) * g (384 + 13 * h + 8)) by omega)); rw [rUnE (K := 4) e7, e8]; exact ⟨rfl, rfl⟩) | (have e8 := rUn_2 (K := 4) (h := h) (t := (z, g, b)) (fun z9 => by rcases z9 with z9 | z9 <;> revert z9 <;> first | exact (fun z9 : 96 ≤ 0 => by omega) | exact (fun z9 : 96 ≤ (g (384 + 13 * h + 6) + g (384 + 13 * h + 10) * g (384 + 13 * h + 8)) => by omega)) ⟨(fun z9 => absurd z9.1 (by decide)), Or.inl h_164⟩; rw [rUnE (K := 4) e7, e8]; exact ⟨rfl, rfl⟩) | (have e8 := rUn_3 (K := 4) (h := h) (t := (z, g, b)) (fun z9 => by rcases z9 with z9 | z9 <;> revert z9 <;> first | exact (fun z9 : 96 ≤ 0 => by omega) | exact (fun z9 : 96 ≤ (g (384 + 13 * h + 6) + g (384 + 13 * h + 10) * g (384 + 13 * h + 8)) => by omega)) (fun z9 => z9.2.elim h_164 (fun y9 => absurd y9.1 (by decide))); rw [rUnE (K := 4) e7, e8]; exact ⟨rfl, rfl⟩)
            · exfalso; omega
          · exfalso; omega
        · exfalso; omega
    · exfalso; omega
  · refine V_top (b := 5) e7 ?_
    refine V_istore (i := 4) dX7_unit_10 rfl rfl ?_
    dsimp only [List.set_cons_zero, List.set_cons_succ]
    refine V_iload (i := 4) dX7_unit_12 rfl ?_
    refine V_iconst (v := 2) dX7_unit_14 rfl ?_
    refine V_icmp_ne (tgt := 36) (by omega) (by omega) dX7_unit_15 rfl (fun h_15 => ?_) (fun h_15 => ?_)
    · refine V_aload_n (i := 1) dX7_unit_36 rfl rfl ?_
      refine V_iload_n (i := 3) dX7_unit_37 rfl rfl ?_
      refine V_bipush (v := 10) dX7_unit_38 (by decide) ?_
      refine V_iadd dX7_unit_40 ?_
      refine V_iald (q := 1) rfl (by omega) rfl dX7_unit_41 ?_
      refine V_istore (i := 5) dX7_unit_42 rfl rfl ?_
      dsimp only [List.set_cons_zero, List.set_cons_succ]
      refine V_iload (i := 4) dX7_unit_44 rfl ?_
      refine V_iconst (v := 3) dX7_unit_46 rfl ?_
      refine V_icmp_lt (tgt := 56) (by omega) (by omega) dX7_unit_47 rfl (fun h_47 => ?_) (fun h_47 => ?_)
      · exfalso; omega
      · refine V_iload (i := 4) dX7_unit_50 rfl ?_
        refine V_iconst (v := 5) dX7_unit_52 rfl ?_
        refine V_icmp_ne (tgt := 60) (by omega) (by omega) dX7_unit_53 rfl (fun h_53 => ?_) (fun h_53 => ?_)
        · exfalso; omega
        · refine V_iconst (v := 1) dX7_unit_56 rfl ?_
          refine V_goto (tgt := 61) dX7_unit_57 rfl ?_
          refine V_istore (i := 6) dX7_unit_61 rfl rfl ?_
          dsimp only [List.set_cons_zero, List.set_cons_succ]
          refine V_iload (i := 6) dX7_unit_63 rfl ?_
          refine V_if_eq (tgt := 79) (by omega) dX7_unit_65 rfl (fun h_65 => ?_) (fun h_65 => ?_)
          · exfalso; omega
          · refine V_aload_n (i := 1) dX7_unit_68 rfl rfl ?_
            refine V_iload_n (i := 3) dX7_unit_69 rfl rfl ?_
            refine V_iconst (v := 5) dX7_unit_70 rfl ?_
            refine V_iadd dX7_unit_71 ?_
            refine V_iald (q := 1) rfl (by omega) rfl dX7_unit_72 ?_
            refine V_iload (i := 5) dX7_unit_73 rfl ?_
            refine V_iadd dX7_unit_75 ?_
            refine V_goto (tgt := 80) dX7_unit_76 rfl ?_
            refine V_istore (i := 7) dX7_unit_80 rfl rfl ?_
            dsimp only [List.set_cons_zero, List.set_cons_succ]
            refine V_aload_n (i := 1) dX7_unit_82 rfl rfl ?_
            refine V_iload_n (i := 3) dX7_unit_83 rfl rfl ?_
            refine V_bipush (v := 6) dX7_unit_84 (by decide) ?_
            refine V_iadd dX7_unit_86 ?_
            refine V_iald (q := 1) rfl (by omega) rfl dX7_unit_87 ?_
            refine V_iload (i := 6) dX7_unit_88 rfl ?_
            refine V_if_eq (tgt := 98) (by omega) dX7_unit_90 rfl (fun h_90 => ?_) (fun h_90 => ?_)
            · exfalso; omega
            · refine V_iload (i := 5) dX7_unit_93 rfl ?_
              refine V_goto (tgt := 107) dX7_unit_95 rfl ?_
              refine V_iadd dX7_unit_107 ?_
              refine V_istore (i := 8) dX7_unit_108 rfl rfl ?_
              dsimp only [List.set_cons_zero, List.set_cons_succ]
              refine V_iload (i := 7) dX7_unit_110 rfl ?_
              refine V_bipush (v := 96) dX7_unit_112 (by decide) ?_
              refine V_icmp_ge (tgt := 124) (by omega) (by omega) dX7_unit_114 rfl (fun h_114 => ?_) (fun h_114 => ?_)
              · refine V_aload_n (i := 1) dX7_unit_124 rfl rfl ?_
                refine V_iload_n (i := 2) dX7_unit_125 rfl rfl ?_
                refine V_iconst (v := 3) dX7_unit_126 rfl ?_
                refine V_callS (As := _) (rest := []) [1] (c_X7_fail l G a g h 3 hh) vy_X7_fail gX7_unit_X7_fail rfl rfl rfl rfl ⟨rfl, rfl⟩ ⟨rfl, rfl⟩ ⟨Nat.zero_le _, Nat.zero_le _⟩ rfl dX7_unit_127 (fun v Y hE => ?_)
                obtain ⟨rfl, rfl⟩ := hE
                refine ⟨rfl, ?_⟩
                dsimp only [vfill, List.set_cons_zero, List.set_cons_succ, Option.toList, List.cons_append, List.nil_append, Nat.add_zero]
                refine V_iconst (v := 0) dX7_unit_130 rfl ?_
                refine V_zret hR dX7_unit_131 (by first | exact Or.inl rfl | exact Or.inr rfl | omega) hkc hks ?_
                first | (have e8 := rUn_1 (K := 5) (h := h) (t := (z, g, b)) (Or.inl (show 96 ≤ (g (384 + 13 * h + 5) + g (384 + 13 * h + 10)) by omega)); rw [rUnE (K := 5) e7, e8]; exact ⟨rfl, rfl⟩) | (have e8 := rUn_1 (K := 5) (h := h) (t := (z, g, b)) (Or.inr (show 96 ≤ (g (384 + 13 * h + 6) + g (384 + 13 * h + 10)) by omega)); rw [rUnE (K := 5) e7, e8]; exact ⟨rfl, rfl⟩) | (have e8 := rUn_2 (K := 5) (h := h) (t := (z, g, b)) (fun z9 => by rcases z9 with z9 | z9 <;> revert z9 <;> first | exact (fun z9 : 96 ≤ (g (384 + 13 * h + 5) + g (384 + 13 * h + 10)) => by omega) | exact (fun z9 : 96 ≤ (g (384 + 13 * h + 6) + g (384 + 13 * h + 10)) => by omega)) ⟨(fun z9 => h_142 z9.2), Or.inl h_164⟩; rw [rUnE (K := 5) e7, e8]; exact ⟨rfl, rfl⟩) | (have e8 := rUn_2 (K := 5) (h := h) (t := (z, g, b)) (fun z9 => by rcases z9 with z9 | z9 <;> revert z9 <;> first | exact (fun z9 : 96 ≤ (g (384 + 13 * h + 5) + g (384 + 13 * h + 10)) => by omega) | exact (fun z9 : 96 ≤ (g (384 + 13 * h + 6) + g (384 + 13 * h + 10)) => by omega)) ⟨(fun z9 => h_142 z9.2), Or.inr ⟨rfl, h_180⟩⟩; rw [rUnE (K := 5) e7, e8]; exact ⟨rfl, rfl⟩) | (have e8 := rUn_3 (K := 5) (h := h) (t := (z, g, b)) (fun z9 => by rcases z9 with z9 | z9 <;> revert z9 <;> first | exact (fun z9 : 96 ≤ (g (384 + 13 * h + 5) + g (384 + 13 * h + 10)) => by omega) | exact (fun z9 : 96 ≤ (g (384 + 13 * h + 6) + g (384 + 13 * h + 10)) => by omega)) (fun z9 => z9.1 ⟨rfl, h_142⟩); have e9 : rWK 5 h (g (384 + 13 * h + 5) + g (384 + 13 * h + 10)) (g (384 + 13 * h + 6) + g (384 + 13 * h + 10)) (z, g, b) = (z, g, b) := if_pos h_142; rw [rUnE (K := 5) e7, e8]; exact ⟨rfl, (congrArg (w3 G B a) e9).symm⟩) | (have e8 := rUn_3 (K := 5) (h := h) (t := (z, g, b)) (fun z9 => by rcases z9 with z9 | z9 <;> revert z9 <;> first | exact (fun z9 : 96 ≤ (g (384 + 13 * h + 5) + g (384 + 13 * h + 10)) => by omega) | exact (fun z9 : 96 ≤ (g (384 + 13 * h + 6) + g (384 + 13 * h + 10)) => by omega)) (fun z9 => z9.2.elim h_164 (fun y9 => h_180 y9.2)); have e9 : rWK 5 h (g (384 + 13 * h + 5) + g (384 + 13 * h + 10)) (g (384 + 13 * h + 6) + g (384 + 13 * h + 10)) (z, g, b) = rWr h (g (384 + 13 * h + 6) + g (384 + 13 * h + 10)) (g (g (384 + 13 * h + 5) + g (384 + 13 * h + 10))) (rWr h (g (384 + 13 * h + 5) + g (384 + 13 * h + 10)) (g (g (384 + 13 * h + 6) + g (384 + 13 * h + 10))) (z, g, b)) := if_neg h_142; rw [rUnE (K := 5) e7, e8]; exact ⟨rfl, (congrArg (w3 G B a) e9).symm⟩)
              · refine V_iload (i := 8) dX7_unit_117 rfl ?_
                refine V_bipush (v := 96) dX7_unit_119 (by decide) ?_
                refine V_icmp_lt (tgt := 132) (by omega) (by omega) dX7_unit_121 rfl (fun h_121 => ?_) (fun h_121 => ?_)
                · refine V_iload (i := 4) dX7_unit_132 rfl ?_
                  refine V_iconst (v := 5) dX7_unit_134 rfl ?_
                  refine V_icmp_ne (tgt := 149) (by omega) (by omega) dX7_unit_135 rfl (fun h_135 => ?_) (fun h_135 => ?_)
                  · exfalso; omega
                  · refine V_iload (i := 7) dX7_unit_138 rfl ?_
                    refine V_iload (i := 8) dX7_unit_140 rfl ?_
                    refine V_icmp_ne (tgt := 149) (by omega) (by omega) dX7_unit_142 rfl (fun h_142 => ?_) (fun h_142 => ?_)
                    · refine V_iconst (v := 0) dX7_unit_149 rfl ?_
                      refine V_istore (i := 9) dX7_unit_150 rfl rfl ?_
                      dsimp only [List.set_cons_zero, List.set_cons_succ]
                      refine V_iload (i := 9) dX7_unit_152 rfl ?_
                      refine V_if_ne (tgt := 191) (by omega) dX7_unit_154 rfl (fun h_154 => ?_) (fun h_154 => ?_)
                      · exfalso; omega
                      · refine V_aload_n (i := 1) dX7_unit_157 rfl rfl ?_
                        refine V_iload_n (i := 2) dX7_unit_158 rfl rfl ?_
                        refine V_iload (i := 8) dX7_unit_159 rfl ?_
                        refine V_callS (As := _) (rest := []) [1] (c_X7_isOwn l G a g h (g (384 + 13 * h + 6) + g (384 + 13 * h + 10)) hh (by omega) (ho _ (by omega))) vy_X7_isOwn gX7_unit_X7_isOwn rfl rfl rfl rfl ⟨rfl, rfl⟩ ⟨rfl, rfl⟩ ⟨Nat.zero_le _, Nat.zero_le _⟩ rfl dX7_unit_161 (fun v Y hE => ?_)
                        obtain ⟨rfl, rfl⟩ := hE
                        refine ⟨rfl, ?_⟩
                        dsimp only [vfill, List.set_cons_zero, List.set_cons_succ, Option.toList, List.cons_append, List.nil_append, Nat.add_zero]
                        refine V_if_eq (tgt := 183) (by unfold rOw; split <;> decide) dX7_unit_164 rfl (fun h_164 => ?_) (fun h_164 => ?_)
                        · refine V_aload_n (i := 1) dX7_unit_183 rfl rfl ?_
                          refine V_iload_n (i := 2) dX7_unit_184 rfl rfl ?_
                          refine V_iconst (v := 4) dX7_unit_185 rfl ?_
                          refine V_callS (As := _) (rest := []) [1] (c_X7_fail l G a g h 4 hh) vy_X7_fail gX7_unit_X7_fail rfl rfl rfl rfl ⟨rfl, rfl⟩ ⟨rfl, rfl⟩ ⟨Nat.zero_le _, Nat.zero_le _⟩ rfl dX7_unit_186 (fun v Y hE => ?_)
                          obtain ⟨rfl, rfl⟩ := hE
                          refine ⟨rfl, ?_⟩
                          dsimp only [vfill, List.set_cons_zero, List.set_cons_succ, Option.toList, List.cons_append, List.nil_append, Nat.add_zero]
                          refine V_iconst (v := 0) dX7_unit_189 rfl ?_
                          refine V_zret hR dX7_unit_190 (by first | exact Or.inl rfl | exact Or.inr rfl | omega) hkc hks ?_
                          first | (have e8 := rUn_1 (K := 5) (h := h) (t := (z, g, b)) (Or.inl (show 96 ≤ (g (384 + 13 * h + 5) + g (384 + 13 * h + 10)) by omega)); rw [rUnE (K := 5) e7, e8]; exact ⟨rfl, rfl⟩) | (have e8 := rUn_1 (K := 5) (h := h) (t := (z, g, b)) (Or.inr (show 96 ≤ (g (384 + 13 * h + 6) + g (384 + 13 * h + 10)) by omega)); rw [rUnE (K := 5) e7, e8]; exact ⟨rfl, rfl⟩) | (have e8 := rUn_2 (K := 5) (h := h) (t := (z, g, b)) (fun z9 => by rcases z9 with z9 | z9 <;> revert z9 <;> first | exact (fun z9 : 96 ≤ (g (384 + 13 * h + 5) + g (384 + 13 * h + 10)) => by omega) | exact (fun z9 : 96 ≤ (g (384 + 13 * h + 6) + g (384 + 13 * h + 10)) => by omega)) ⟨(fun z9 => h_142 z9.2), Or.inl h_164⟩; rw [rUnE (K := 5) e7, e8]; exact ⟨rfl, rfl⟩) | (have e8 := rUn_2 (K := 5) (h := h) (t := (z, g, b)) (fun z9 => by rcases z9 with z9 | z9 <;> revert z9 <;> first | exact (fun z9 : 96 ≤ (g (384 + 13 * h + 5) + g (384 + 13 * h + 10)) => by omega) | exact (fun z9 : 96 ≤ (g (384 + 13 * h + 6) + g (384 + 13 * h + 10)) => by omega)) ⟨(fun z9 => h_142 z9.2), Or.inr ⟨rfl, h_180⟩⟩; rw [rUnE (K := 5) e7, e8]; exact ⟨rfl, rfl⟩) | (have e8 := rUn_3 (K := 5) (h := h) (t := (z, g, b)) (fun z9 => by rcases z9 with z9 | z9 <;> revert z9 <;> first | exact (fun z9 : 96 ≤ (g (384 + 13 * h + 5) + g (384 + 13 * h + 10)) => by omega) | exact (fun z9 : 96 ≤ (g (384 + 13 * h + 6) + g (384 + 13 * h + 10)) => by omega)) (fun z9 => z9.1 ⟨rfl, h_142⟩); have e9 : rWK 5 h (g (384 + 13 * h + 5) + g (384 + 13 * h + 10)) (g (384 + 13 * h + 6) + g (384 + 13 * h + 10)) (z, g, b) = (z, g, b) := if_pos h_142; rw [rUnE (K := 5) e7, e8]; exact ⟨rfl, (congrArg (w3 G B a) e9).symm⟩) | (have e8 := rUn_3 (K := 5) (h := h) (t := (z, g, b)) (fun z9 => by rcases z9 with z9 | z9 <;> revert z9 <;> first | exact (fun z9 : 96 ≤ (g (384 + 13 * h + 5) + g (384 + 13 * h + 10)) => by omega) | exact (fun z9 : 96 ≤ (g (384 + 13 * h + 6) + g (384 + 13 * h + 10)) => by omega)) (fun z9 => z9.2.elim h_164 (fun y9 => h_180 y9.2)); have e9 : rWK 5 h (g (384 + 13 * h + 5) + g (384 + 13 * h + 10)) (g (384 + 13 * h + 6) + g (384 + 13 * h + 10)) (z, g, b) = rWr h (g (384 + 13 * h + 6) + g (384 + 13 * h + 10)) (g (g (384 + 13 * h + 5) + g (384 + 13 * h + 10))) (rWr h (g (384 + 13 * h + 5) + g (384 + 13 * h + 10)) (g (g (384 + 13 * h + 6) + g (384 + 13 * h + 10))) (z, g, b)) := if_neg h_142; rw [rUnE (K := 5) e7, e8]; exact ⟨rfl, (congrArg (w3 G B a) e9).symm⟩)
                        · refine V_iload (i := 4) dX7_unit_167 rfl ?_
                          refine V_iconst (v := 5) dX7_unit_169 rfl ?_
                          refine V_icmp_ne (tgt := 191) (by omega) (by omega) dX7_unit_170 rfl (fun h_170 => ?_) (fun h_170 => ?_)
                          · exfalso; omega
                          · refine V_aload_n (i := 1) dX7_unit_173 rfl rfl ?_
                            refine V_iload_n (i := 2) dX7_unit_174 rfl rfl ?_
                            refine V_iload (i := 7) dX7_unit_175 rfl ?_
                            refine V_callS (As := _) (rest := []) [1] (c_X7_isOwn l G a g h (g (384 + 13 * h + 5) + g (384 + 13 * h + 10)) hh (by omega) (ho _ (by omega))) vy_X7_isOwn gX7_unit_X7_isOwn rfl rfl rfl rfl ⟨rfl, rfl⟩ ⟨rfl, rfl⟩ ⟨Nat.zero_le _, Nat.zero_le _⟩ rfl dX7_unit_177 (fun v Y hE => ?_)
                            obtain ⟨rfl, rfl⟩ := hE
                            refine ⟨rfl, ?_⟩
                            dsimp only [vfill, List.set_cons_zero, List.set_cons_succ, Option.toList, List.cons_append, List.nil_append, Nat.add_zero]
                            refine V_if_ne (tgt := 191) (by unfold rOw; split <;> decide) dX7_unit_180 rfl (fun h_180 => ?_) (fun h_180 => ?_)
                            · refine V_iload (i := 4) dX7_unit_191 rfl ?_
                              refine V_iconst (v := 3) dX7_unit_193 rfl ?_
                              refine V_icmp_ge (tgt := 212) (by omega) (by omega) dX7_unit_194 rfl (fun h_194 => ?_) (fun h_194 => ?_)
                              · refine V_iload (i := 4) dX7_unit_212 rfl ?_
                                refine V_iconst (v := 3) dX7_unit_214 rfl ?_
                                refine V_icmp_ne (tgt := 234) (by omega) (by omega) dX7_unit_215 rfl (fun h_215 => ?_) (fun h_215 => ?_)
                                · refine V_iload (i := 4) dX7_unit_234 rfl ?_
                                  refine V_iconst (v := 4) dX7_unit_236 rfl ?_
                                  refine V_icmp_ne (tgt := 264) (by omega) (by omega) dX7_unit_237 rfl (fun h_237 => ?_) (fun h_237 => ?_)
                                  · refine V_iload (i := 9) dX7_unit_264 rfl ?_
                                    refine V_if_ne (tgt := 297) (by omega) dX7_unit_266 rfl (fun h_266 => ?_) (fun h_266 => ?_)
                                    · exfalso; omega
                                    · refine V_aload_n (i := 1) dX7_unit_269 rfl rfl ?_
                                      refine V_iload (i := 7) dX7_unit_270 rfl ?_
                                      refine V_iald (q := 1) rfl (by omega) rfl dX7_unit_272 ?_
                                      refine V_istore (i := 10) dX7_unit_273 rfl rfl ?_
                                      dsimp only [List.set_cons_zero, List.set_cons_succ]
                                      refine V_aload_n (i := 0) dX7_unit_275 rfl rfl ?_
                                      refine V_aload_n (i := 1) dX7_unit_276 rfl rfl ?_
                                      refine V_iload_n (i := 2) dX7_unit_277 rfl rfl ?_
                                      refine V_iload (i := 7) dX7_unit_278 rfl ?_
                                      refine V_aload_n (i := 1) dX7_unit_280 rfl rfl ?_
                                      refine V_iload (i := 8) dX7_unit_281 rfl ?_
                                      refine V_iald (q := 1) rfl (by omega) rfl dX7_unit_283 ?_
                                      refine V_callV (C := RX7) (q := 0) (ci := 6) (As := _) (rest := []) [0, 1, 2] (c_X7_write l G B z b a g h ((g (384 + 13 * h + 5) + g (384 + 13 * h + 10))) (g (g (384 + 13 * h + 6) + g (384 + 13 * h + 10))) hh (by omega) (hm _ (by omega)) hz) vy_X7_write gX7_unit_X7_write rfl rfl rfl rfl rfl rfl rfl ⟨rfl, rfl⟩ ⟨rfl, rfl⟩ ⟨Nat.zero_le _, Nat.zero_le _⟩ rfl dX7_unit_284 (fun v Y hE => ?_)
                                      obtain ⟨rfl, rfl⟩ := hE
                                      refine ⟨rfl, ?_⟩
                                      dsimp only [vfill, w3, List.set_cons_zero, List.set_cons_succ, Option.toList, List.cons_append, List.nil_append, Nat.add_zero]
                                      refine V_aload_n (i := 0) dX7_unit_287 rfl rfl ?_
                                      refine V_aload_n (i := 1) dX7_unit_288 rfl rfl ?_
                                      refine V_iload_n (i := 2) dX7_unit_289 rfl rfl ?_
                                      refine V_iload (i := 8) dX7_unit_290 rfl ?_
                                      refine V_iload (i := 10) dX7_unit_292 rfl ?_
                                      refine V_callV (C := RX7) (q := 0) (ci := 6) (As := _) (rest := []) [0, 1, 2] (c_X7_write l G B (rWr h (g (384 + 13 * h + 5) + g (384 + 13 * h + 10)) (g (g (384 + 13 * h + 6) + g (384 + 13 * h + 10))) (z, g, b)).1 (rWr h (g (384 + 13 * h + 5) + g (384 + 13 * h + 10)) (g (g (384 + 13 * h + 6) + g (384 + 13 * h + 10))) (z, g, b)).2.2 a (rWr h (g (384 + 13 * h + 5) + g (384 + 13 * h + 10)) (g (g (384 + 13 * h + 6) + g (384 + 13 * h + 10))) (z, g, b)).2.1 h ((g (384 + 13 * h + 6) + g (384 + 13 * h + 10))) (g (g (384 + 13 * h + 5) + g (384 + 13 * h + 10))) hh (by omega) (by rw [rWr_mk (by omega) (by omega)]; exact hm _ (by omega)) (rWr_z5 (by omega) hz)) vy_X7_write gX7_unit_X7_write rfl rfl rfl rfl rfl rfl rfl ⟨rfl, rfl⟩ ⟨rfl, rfl⟩ ⟨Nat.zero_le _, Nat.zero_le _⟩ rfl dX7_unit_294 (fun v Y hE => ?_)
                                      obtain ⟨rfl, rfl⟩ := hE
                                      refine ⟨rfl, ?_⟩
                                      dsimp only [vfill, w3, List.set_cons_zero, List.set_cons_succ, Option.toList, List.cons_append, List.nil_append, Nat.add_zero]
                                      refine V_iconst (v := 1) dX7_unit_297 rfl ?_
                                      refine V_zret hR dX7_unit_298 (by first | exact Or.inl rfl | exact Or.inr rfl | omega) hkc hks ?_
                                      first | (have e8 := rUn_1 (K := 5) (h := h) (t := (z, g, b)) (Or.inl (show 96 ≤ (g (384 + 13 * h + 5) + g (384 + 13 * h + 10)) by omega)); rw [rUnE (K := 5) e7, e8]; exact ⟨rfl, rfl⟩) | (have e8 := rUn_1 (K := 5) (h := h) (t := (z, g, b)) (Or.inr (show 96 ≤ (g (384 + 13 * h + 6) + g (384 + 13 * h + 10)) by omega)); rw [rUnE (K := 5) e7, e8]; exact ⟨rfl, rfl⟩) | (have e8 := rUn_2 (K := 5) (h := h) (t := (z, g, b)) (fun z9 => by rcases z9 with z9 | z9 <;> revert z9 <;> first | exact (fun z9 : 96 ≤ (g (384 + 13 * h + 5) + g (384 + 13 * h + 10)) => by omega) | exact (fun z9 : 96 ≤ (g (384 + 13 * h + 6) + g (384 + 13 * h + 10)) => by omega)) ⟨(fun z9 => h_142 z9.2), Or.inl h_164⟩; rw [rUnE (K := 5) e7, e8]; exact ⟨rfl, rfl⟩) | (have e8 := rUn_2 (K := 5) (h := h) (t := (z, g, b)) (fun z9 => by rcases z9 with z9 | z9 <;> revert z9 <;> first | exact (fun z9 : 96 ≤ (g (384 + 13 * h + 5) + g (384 + 13 * h + 10)) => by omega) | exact (fun z9 : 96 ≤ (g (384 + 13 * h + 6) + g (384 + 13 * h + 10)) => by omega)) ⟨(fun z9 => h_142 z9.2), Or.inr ⟨rfl, h_180⟩⟩; rw [rUnE (K := 5) e7, e8]; exact ⟨rfl, rfl⟩) | (have e8 := rUn_3 (K := 5) (h := h) (t := (z, g, b)) (fun z9 => by rcases z9 with z9 | z9 <;> revert z9 <;> first | exact (fun z9 : 96 ≤ (g (384 + 13 * h + 5) + g (384 + 13 * h + 10)) => by omega) | exact (fun z9 : 96 ≤ (g (384 + 13 * h + 6) + g (384 + 13 * h + 10)) => by omega)) (fun z9 => z9.1 ⟨rfl, h_142⟩); have e9 : rWK 5 h (g (384 + 13 * h + 5) + g (384 + 13 * h + 10)) (g (384 + 13 * h + 6) + g (384 + 13 * h + 10)) (z, g, b) = (z, g, b) := if_pos h_142; rw [rUnE (K := 5) e7, e8]; exact ⟨rfl, (congrArg (w3 G B a) e9).symm⟩) | (have e8 := rUn_3 (K := 5) (h := h) (t := (z, g, b)) (fun z9 => by rcases z9 with z9 | z9 <;> revert z9 <;> first | exact (fun z9 : 96 ≤ (g (384 + 13 * h + 5) + g (384 + 13 * h + 10)) => by omega) | exact (fun z9 : 96 ≤ (g (384 + 13 * h + 6) + g (384 + 13 * h + 10)) => by omega)) (fun z9 => z9.2.elim h_164 (fun y9 => h_180 y9.2)); have e9 : rWK 5 h (g (384 + 13 * h + 5) + g (384 + 13 * h + 10)) (g (384 + 13 * h + 6) + g (384 + 13 * h + 10)) (z, g, b) = rWr h (g (384 + 13 * h + 6) + g (384 + 13 * h + 10)) (g (g (384 + 13 * h + 5) + g (384 + 13 * h + 10))) (rWr h (g (384 + 13 * h + 5) + g (384 + 13 * h + 10)) (g (g (384 + 13 * h + 6) + g (384 + 13 * h + 10))) (z, g, b)) := if_neg h_142; rw [rUnE (K := 5) e7, e8]; exact ⟨rfl, (congrArg (w3 G B a) e9).symm⟩)
                                  · exfalso; omega
                                · exfalso; omega
                              · exfalso; omega
                            · refine V_aload_n (i := 1) dX7_unit_183 rfl rfl ?_
                              refine V_iload_n (i := 2) dX7_unit_184 rfl rfl ?_
                              refine V_iconst (v := 4) dX7_unit_185 rfl ?_
                              refine V_callS (As := _) (rest := []) [1] (c_X7_fail l G a g h 4 hh) vy_X7_fail gX7_unit_X7_fail rfl rfl rfl rfl ⟨rfl, rfl⟩ ⟨rfl, rfl⟩ ⟨Nat.zero_le _, Nat.zero_le _⟩ rfl dX7_unit_186 (fun v Y hE => ?_)
                              obtain ⟨rfl, rfl⟩ := hE
                              refine ⟨rfl, ?_⟩
                              dsimp only [vfill, List.set_cons_zero, List.set_cons_succ, Option.toList, List.cons_append, List.nil_append, Nat.add_zero]
                              refine V_iconst (v := 0) dX7_unit_189 rfl ?_
                              refine V_zret hR dX7_unit_190 (by first | exact Or.inl rfl | exact Or.inr rfl | omega) hkc hks ?_
                              first | (have e8 := rUn_1 (K := 5) (h := h) (t := (z, g, b)) (Or.inl (show 96 ≤ (g (384 + 13 * h + 5) + g (384 + 13 * h + 10)) by omega)); rw [rUnE (K := 5) e7, e8]; exact ⟨rfl, rfl⟩) | (have e8 := rUn_1 (K := 5) (h := h) (t := (z, g, b)) (Or.inr (show 96 ≤ (g (384 + 13 * h + 6) + g (384 + 13 * h + 10)) by omega)); rw [rUnE (K := 5) e7, e8]; exact ⟨rfl, rfl⟩) | (have e8 := rUn_2 (K := 5) (h := h) (t := (z, g, b)) (fun z9 => by rcases z9 with z9 | z9 <;> revert z9 <;> first | exact (fun z9 : 96 ≤ (g (384 + 13 * h + 5) + g (384 + 13 * h + 10)) => by omega) | exact (fun z9 : 96 ≤ (g (384 + 13 * h + 6) + g (384 + 13 * h + 10)) => by omega)) ⟨(fun z9 => h_142 z9.2), Or.inl h_164⟩; rw [rUnE (K := 5) e7, e8]; exact ⟨rfl, rfl⟩) | (have e8 := rUn_2 (K := 5) (h := h) (t := (z, g, b)) (fun z9 => by rcases z9 with z9 | z9 <;> revert z9 <;> first | exact (fun z9 : 96 ≤ (g (384 + 13 * h + 5) + g (384 + 13 * h + 10)) => by omega) | exact (fun z9 : 96 ≤ (g (384 + 13 * h + 6) + g (384 + 13 * h + 10)) => by omega)) ⟨(fun z9 => h_142 z9.2), Or.inr ⟨rfl, h_180⟩⟩; rw [rUnE (K := 5) e7, e8]; exact ⟨rfl, rfl⟩) | (have e8 := rUn_3 (K := 5) (h := h) (t := (z, g, b)) (fun z9 => by rcases z9 with z9 | z9 <;> revert z9 <;> first | exact (fun z9 : 96 ≤ (g (384 + 13 * h + 5) + g (384 + 13 * h + 10)) => by omega) | exact (fun z9 : 96 ≤ (g (384 + 13 * h + 6) + g (384 + 13 * h + 10)) => by omega)) (fun z9 => z9.1 ⟨rfl, h_142⟩); have e9 : rWK 5 h (g (384 + 13 * h + 5) + g (384 + 13 * h + 10)) (g (384 + 13 * h + 6) + g (384 + 13 * h + 10)) (z, g, b) = (z, g, b) := if_pos h_142; rw [rUnE (K := 5) e7, e8]; exact ⟨rfl, (congrArg (w3 G B a) e9).symm⟩) | (have e8 := rUn_3 (K := 5) (h := h) (t := (z, g, b)) (fun z9 => by rcases z9 with z9 | z9 <;> revert z9 <;> first | exact (fun z9 : 96 ≤ (g (384 + 13 * h + 5) + g (384 + 13 * h + 10)) => by omega) | exact (fun z9 : 96 ≤ (g (384 + 13 * h + 6) + g (384 + 13 * h + 10)) => by omega)) (fun z9 => z9.2.elim h_164 (fun y9 => h_180 y9.2)); have e9 : rWK 5 h (g (384 + 13 * h + 5) + g (384 + 13 * h + 10)) (g (384 + 13 * h + 6) + g (384 + 13 * h + 10)) (z, g, b) = rWr h (g (384 + 13 * h + 6) + g (384 + 13 * h + 10)) (g (g (384 + 13 * h + 5) + g (384 + 13 * h + 10))) (rWr h (g (384 + 13 * h + 5) + g (384 + 13 * h + 10)) (g (g (384 + 13 * h + 6) + g (384 + 13 * h + 10))) (z, g, b)) := if_neg h_142; rw [rUnE (K := 5) e7, e8]; exact ⟨rfl, (congrArg (w3 G B a) e9).symm⟩)
                    · refine V_iconst (v := 1) dX7_unit_145 rfl ?_
                      refine V_goto (tgt := 150) dX7_unit_146 rfl ?_
                      refine V_istore (i := 9) dX7_unit_150 rfl rfl ?_
                      dsimp only [List.set_cons_zero, List.set_cons_succ]
                      refine V_iload (i := 9) dX7_unit_152 rfl ?_
                      refine V_if_ne (tgt := 191) (by omega) dX7_unit_154 rfl (fun h_154 => ?_) (fun h_154 => ?_)
                      · refine V_iload (i := 4) dX7_unit_191 rfl ?_
                        refine V_iconst (v := 3) dX7_unit_193 rfl ?_
                        refine V_icmp_ge (tgt := 212) (by omega) (by omega) dX7_unit_194 rfl (fun h_194 => ?_) (fun h_194 => ?_)
                        · refine V_iload (i := 4) dX7_unit_212 rfl ?_
                          refine V_iconst (v := 3) dX7_unit_214 rfl ?_
                          refine V_icmp_ne (tgt := 234) (by omega) (by omega) dX7_unit_215 rfl (fun h_215 => ?_) (fun h_215 => ?_)
                          · refine V_iload (i := 4) dX7_unit_234 rfl ?_
                            refine V_iconst (v := 4) dX7_unit_236 rfl ?_
                            refine V_icmp_ne (tgt := 264) (by omega) (by omega) dX7_unit_237 rfl (fun h_237 => ?_) (fun h_237 => ?_)
                            · refine V_iload (i := 9) dX7_unit_264 rfl ?_
                              refine V_if_ne (tgt := 297) (by omega) dX7_unit_266 rfl (fun h_266 => ?_) (fun h_266 => ?_)
                              · refine V_iconst (v := 1) dX7_unit_297 rfl ?_
                                refine V_zret hR dX7_unit_298 (by first | exact Or.inl rfl | exact Or.inr rfl | omega) hkc hks ?_
                                first | (have e8 := rUn_1 (K := 5) (h := h) (t := (z, g, b)) (Or.inl (show 96 ≤ (g (384 + 13 * h + 5) + g (384 + 13 * h + 10)) by omega)); rw [rUnE (K := 5) e7, e8]; exact ⟨rfl, rfl⟩) | (have e8 := rUn_1 (K := 5) (h := h) (t := (z, g, b)) (Or.inr (show 96 ≤ (g (384 + 13 * h + 6) + g (384 + 13 * h + 10)) by omega)); rw [rUnE (K := 5) e7, e8]; exact ⟨rfl, rfl⟩) | (have e8 := rUn_2 (K := 5) (h := h) (t := (z, g, b)) (fun z9 => by rcases z9 with z9 | z9 <;> revert z9 <;> first | exact (fun z9 : 96 ≤ (g (384 + 13 * h + 5) + g (384 + 13 * h + 10)) => by omega) | exact (fun z9 : 96 ≤ (g (384 + 13 * h + 6) + g (384 + 13 * h + 10)) => by omega)) ⟨(fun z9 => h_142 z9.2), Or.inl h_164⟩; rw [rUnE (K := 5) e7, e8]; exact ⟨rfl, rfl⟩) | (have e8 := rUn_2 (K := 5) (h := h) (t := (z, g, b)) (fun z9 => by rcases z9 with z9 | z9 <;> revert z9 <;> first | exact (fun z9 : 96 ≤ (g (384 + 13 * h + 5) + g (384 + 13 * h + 10)) => by omega) | exact (fun z9 : 96 ≤ (g (384 + 13 * h + 6) + g (384 + 13 * h + 10)) => by omega)) ⟨(fun z9 => h_142 z9.2), Or.inr ⟨rfl, h_180⟩⟩; rw [rUnE (K := 5) e7, e8]; exact ⟨rfl, rfl⟩) | (have e8 := rUn_3 (K := 5) (h := h) (t := (z, g, b)) (fun z9 => by rcases z9 with z9 | z9 <;> revert z9 <;> first | exact (fun z9 : 96 ≤ (g (384 + 13 * h + 5) + g (384 + 13 * h + 10)) => by omega) | exact (fun z9 : 96 ≤ (g (384 + 13 * h + 6) + g (384 + 13 * h + 10)) => by omega)) (fun z9 => z9.1 ⟨rfl, h_142⟩); have e9 : rWK 5 h (g (384 + 13 * h + 5) + g (384 + 13 * h + 10)) (g (384 + 13 * h + 6) + g (384 + 13 * h + 10)) (z, g, b) = (z, g, b) := if_pos h_142; rw [rUnE (K := 5) e7, e8]; exact ⟨rfl, (congrArg (w3 G B a) e9).symm⟩) | (have e8 := rUn_3 (K := 5) (h := h) (t := (z, g, b)) (fun z9 => by rcases z9 with z9 | z9 <;> revert z9 <;> first | exact (fun z9 : 96 ≤ (g (384 + 13 * h + 5) + g (384 + 13 * h + 10)) => by omega) | exact (fun z9 : 96 ≤ (g (384 + 13 * h + 6) + g (384 + 13 * h + 10)) => by omega)) (fun z9 => z9.2.elim h_164 (fun y9 => h_180 y9.2)); have e9 : rWK 5 h (g (384 + 13 * h + 5) + g (384 + 13 * h + 10)) (g (384 + 13 * h + 6) + g (384 + 13 * h + 10)) (z, g, b) = rWr h (g (384 + 13 * h + 6) + g (384 + 13 * h + 10)) (g (g (384 + 13 * h + 5) + g (384 + 13 * h + 10))) (rWr h (g (384 + 13 * h + 5) + g (384 + 13 * h + 10)) (g (g (384 + 13 * h + 6) + g (384 + 13 * h + 10))) (z, g, b)) := if_neg h_142; rw [rUnE (K := 5) e7, e8]; exact ⟨rfl, (congrArg (w3 G B a) e9).symm⟩)
                              · exfalso; omega
                            · exfalso; omega
                          · exfalso; omega
                        · exfalso; omega
                      · exfalso; omega
                · refine V_aload_n (i := 1) dX7_unit_124 rfl rfl ?_
                  refine V_iload_n (i := 2) dX7_unit_125 rfl rfl ?_
                  refine V_iconst (v := 3) dX7_unit_126 rfl ?_
                  refine V_callS (As := _) (rest := []) [1] (c_X7_fail l G a g h 3 hh) vy_X7_fail gX7_unit_X7_fail rfl rfl rfl rfl ⟨rfl, rfl⟩ ⟨rfl, rfl⟩ ⟨Nat.zero_le _, Nat.zero_le _⟩ rfl dX7_unit_127 (fun v Y hE => ?_)
                  obtain ⟨rfl, rfl⟩ := hE
                  refine ⟨rfl, ?_⟩
                  dsimp only [vfill, List.set_cons_zero, List.set_cons_succ, Option.toList, List.cons_append, List.nil_append, Nat.add_zero]
                  refine V_iconst (v := 0) dX7_unit_130 rfl ?_
                  refine V_zret hR dX7_unit_131 (by first | exact Or.inl rfl | exact Or.inr rfl | omega) hkc hks ?_
                  first | (have e8 := rUn_1 (K := 5) (h := h) (t := (z, g, b)) (Or.inl (show 96 ≤ (g (384 + 13 * h + 5) + g (384 + 13 * h + 10)) by omega)); rw [rUnE (K := 5) e7, e8]; exact ⟨rfl, rfl⟩) | (have e8 := rUn_1 (K := 5) (h := h) (t := (z, g, b)) (Or.inr (show 96 ≤ (g (384 + 13 * h + 6) + g (384 + 13 * h + 10)) by omega)); rw [rUnE (K := 5) e7, e8]; exact ⟨rfl, rfl⟩) | (have e8 := rUn_2 (K := 5) (h := h) (t := (z, g, b)) (fun z9 => by rcases z9 with z9 | z9 <;> revert z9 <;> first | exact (fun z9 : 96 ≤ (g (384 + 13 * h + 5) + g (384 + 13 * h + 10)) => by omega) | exact (fun z9 : 96 ≤ (g (384 + 13 * h + 6) + g (384 + 13 * h + 10)) => by omega)) ⟨(fun z9 => h_142 z9.2), Or.inl h_164⟩; rw [rUnE (K := 5) e7, e8]; exact ⟨rfl, rfl⟩) | (have e8 := rUn_2 (K := 5) (h := h) (t := (z, g, b)) (fun z9 => by rcases z9 with z9 | z9 <;> revert z9 <;> first | exact (fun z9 : 96 ≤ (g (384 + 13 * h + 5) + g (384 + 13 * h + 10)) => by omega) | exact (fun z9 : 96 ≤ (g (384 + 13 * h + 6) + g (384 + 13 * h + 10)) => by omega)) ⟨(fun z9 => h_142 z9.2), Or.inr ⟨rfl, h_180⟩⟩; rw [rUnE (K := 5) e7, e8]; exact ⟨rfl, rfl⟩) | (have e8 := rUn_3 (K := 5) (h := h) (t := (z, g, b)) (fun z9 => by rcases z9 with z9 | z9 <;> revert z9 <;> first | exact (fun z9 : 96 ≤ (g (384 + 13 * h + 5) + g (384 + 13 * h + 10)) => by omega) | exact (fun z9 : 96 ≤ (g (384 + 13 * h + 6) + g (384 + 13 * h + 10)) => by omega)) (fun z9 => z9.1 ⟨rfl, h_142⟩); have e9 : rWK 5 h (g (384 + 13 * h + 5) + g (384 + 13 * h + 10)) (g (384 + 13 * h + 6) + g (384 + 13 * h + 10)) (z, g, b) = (z, g, b) := if_pos h_142; rw [rUnE (K := 5) e7, e8]; exact ⟨rfl, (congrArg (w3 G B a) e9).symm⟩) | (have e8 := rUn_3 (K := 5) (h := h) (t := (z, g, b)) (fun z9 => by rcases z9 with z9 | z9 <;> revert z9 <;> first | exact (fun z9 : 96 ≤ (g (384 + 13 * h + 5) + g (384 + 13 * h + 10)) => by omega) | exact (fun z9 : 96 ≤ (g (384 + 13 * h + 6) + g (384 + 13 * h + 10)) => by omega)) (fun z9 => z9.2.elim h_164 (fun y9 => h_180 y9.2)); have e9 : rWK 5 h (g (384 + 13 * h + 5) + g (384 + 13 * h + 10)) (g (384 + 13 * h + 6) + g (384 + 13 * h + 10)) (z, g, b) = rWr h (g (384 + 13 * h + 6) + g (384 + 13 * h + 10)) (g (g (384 + 13 * h + 5) + g (384 + 13 * h + 10))) (rWr h (g (384 + 13 * h + 5) + g (384 + 13 * h + 10)) (g (g (384 + 13 * h + 6) + g (384 + 13 * h + 10))) (z, g, b)) := if_neg h_142; rw [rUnE (K := 5) e7, e8]; exact ⟨rfl, (congrArg (w3 G B a) e9).symm⟩)
    · exfalso; omega

end REF3
