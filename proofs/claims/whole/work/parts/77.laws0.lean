section LAWS0
set_option maxHeartbeats 4000000 in
set_option maxRecDepth 100000 in
theorem L_append (l : Launch) (hst : l.stackTraces = false) (G : vG) (Γ : vF) (b Ls : Nat) (xs : Nat → Int32) (hS9 : vScr Γ b Ls xs) (hE9 : vE9 Γ.2.2.1) (hZ9 : vZ Γ.2.2.2.2.2.2.2.2.2 Γ.2.2.1 Γ.2.2.1.heap) (hN9 : vNC Γ.2.2.1) (A : Nat → Nat) (ea : Nat → Nat → Nat) (B : Nat → Nat) (ou i k n9 : Nat) (hi6 : i + 6 ≤ Ls) (hk : k + 1 ≤ 601024) (hn9 : n9 + 6 ≤ 7293034) (p1 : Nat) (hp1 : p1 < 4294967296) (e1 : xs (i + 1) = nI p1) (n : Nat) (tx r ho : Nat → Nat) (hs : Nat → vE) (zf wo sn : Nat → Nat) (e t s0 s1 : vE) (z rr g tr d kp ik y mt : Nat → Nat) (fo : Nat → Int64) (hI : LX (n, tx, r, ho, hs, zf, wo, sn, e, t, s0, s1, z, rr, g, tr, d, kp, ik, y, mt, fo)) (u5 u6 : Option Value)
    (kk : ∀ (σ : LSt) (k9 n8 : Nat) (v5 v6 : Option Value), LX σ → k9 ≤ k + 1 → n8 ≤ n9 + 6 → V l G (cL_law, 7, wsL_law, RL, room_1) Γ k9 n8 1635 [some (.ref b), some (.ref (A 0)), some (.ref (B 0)), some (.ref ou), some (.int (nI i)), v5, v6] [] (W25 G A ea B ou σ)) :
    V l G (cL_law, 7, wsL_law, RL, room_1) Γ k n9 156 [some (.ref b), some (.ref (A 0)), some (.ref (B 0)), some (.ref ou), some (.int (nI i)), u5, u6] [] [oO A ea n, iA G (A 1) 140 tx, tR (A 2) r, eK G (ea 14) e, eK G (ea 15) t, hO (A 3) (A 7) ho, hA G (A 7) ea, hK G ea hs, sA G A ea, zA G (A 5) 2 zf, wO (A 6) (A 8) wo, iA G (A 8) 96 sn, eK G (ea 16) s0, eK G (ea 17) s1, mO B z, iA G (B 1) 140 tx, iA G (B 2) 427 rr, iA G (B 3) 427 g, iA G (B 4) 427 tr, iA G (B 5) 5978 d, iA G (B 6) 854 kp, zA G (B 7) 2 ik, iA G (B 8) 96 y, zA G (B 9) 96 mt, lA G ou fo] := by
  obtain ⟨⟨h1, hn, ht, hr, he, het, hR, hH, hS⟩, hW⟩ := id hI
  subst h1
  refine V_aload_n (i := 1) dL_law_156 rfl rfl ?_
  refine V_aload_n (i := 0) dL_law_157 rfl rfl ?_
  refine V_iload (i := 4) dL_law_158 rfl ?_
  refine V_iconst (v := 1) dL_law_160 rfl ?_
  refine V_iadd dL_law_161 ?_
  refine V_sld hS9 (by omega) e1 dL_law_162 ?_
  refine V_aload_n (i := 3) dL_law_163 rfl rfl ?_
  refine V_callSW (As := _) (rest := []) [0, 1, 24] hE9 hZ9 hN9 (c_L_append l hst G A ea tx (z 1) p1 hp1 hn ou fo) rfl ⟨by decide +kernel, by decide +kernel, by simp only [List.length_cons, List.length_nil]; decide +kernel⟩ gL_law_L_append rfl rfl rfl rfl ⟨rfl, rfl⟩ ⟨rfl, rfl⟩ ⟨hk, hn9⟩ rfl dL_law_164 (fun v Y hE => ?_)
  rcases hE with ⟨hc, rfl, rfl⟩ | ⟨hc, rfl, rfl⟩ | ⟨hc, rfl, rfl⟩
  · refine ⟨rfl, ?_⟩
    dsimp only [vfill, List.set_cons_zero, List.set_cons_succ, Option.toList, List.cons_append, List.nil_append, Nat.add_zero]
    refine V_istore (i := 5) dL_law_167 rfl rfl ?_
    dsimp only [List.set_cons_zero, List.set_cons_succ]
    refine V_aload_n (i := 2) dL_law_169 rfl rfl ?_
    refine V_aload_n (i := 0) dL_law_170 rfl rfl ?_
    refine V_iload (i := 4) dL_law_171 rfl ?_
    refine V_iconst (v := 1) dL_law_173 rfl ?_
    refine V_iadd dL_law_174 ?_
    refine V_sld hS9 (by omega) e1 dL_law_175 ?_
    refine V_callV (C := RX7) (q := 0) (ci := 6) (As := _) (rest := []) [14, 15] (c_X7_append l G B z tx p1 hp1 hn) vy_X7_append gL_law_X7_append rfl rfl rfl rfl rfl rfl rfl ⟨rfl, rfl⟩ ⟨rfl, rfl⟩ ⟨hk, hn9⟩ rfl dL_law_176 (fun v Y hE => ?_)
    rcases hE with ⟨m1, rfl, rfl⟩ | ⟨m1, m2, rfl, rfl⟩ | ⟨m1, m2, rfl, rfl⟩
    · exfalso
      omega
    · exfalso
      omega
    · refine ⟨rfl, ?_⟩
      dsimp only [vfill, w3, List.set_cons_zero, List.set_cons_succ, Option.toList, List.cons_append, List.nil_append, Nat.add_zero]
      have hv : nI (z 1 + 1) = nI (z 1 + 1) := rfl
      refine V_istore (i := 6) dL_law_179 rfl rfl ?_
      dsimp only [List.set_cons_zero, List.set_cons_succ]
      refine V_aload_n (i := 2) dL_law_181 rfl rfl ?_
      refine V_callV (C := RX7) (q := 0) (ci := 6) (As := []) (rest := []) [14] (c_X7_thrown l G B (va_up (va_up z 0 0) 1 (z 1 + 1))) vy_X7_thrown gL_law_X7_thrown rfl rfl rfl rfl rfl rfl rfl ⟨rfl, rfl⟩ ⟨rfl, rfl⟩ ⟨hk, hn9⟩ rfl dL_law_182 (fun v Y hE => ?_)
      obtain ⟨rfl, rfl⟩ := hE
      refine ⟨rfl, ?_⟩
      dsimp only [vfill, List.set_cons_zero, List.set_cons_succ, Option.toList, List.cons_append, List.nil_append, Nat.add_zero]
      refine V_top (b := 0) rfl ?_
      refine V_iload (i := 5) dL_law_185 rfl ?_
      refine V_icmp_eq (tgt := 192) (by omega) (by omega) dL_law_187 rfl (fun h_187 => ?_) (fun h_187 => ?_)
      · refine V_iload (i := 5) dL_law_192 rfl ?_
        refine V_if_ne (tgt := 209) (by omega) dL_law_194 rfl (fun h_194 => ?_) (fun h_194 => ?_)
        · exfalso; omega
        · refine V_aload_n (i := 3) dL_law_197 rfl rfl ?_
          refine V_iconst (v := 0) dL_law_198 rfl ?_
          refine V_lald (q := 24) rfl (by omega) rfl dL_law_199 ?_
          refine V_iload (i := 6) dL_law_200 rfl ?_
          refine V_i2l dL_law_202 ?_
          refine V_lcmp (v := 0) dL_law_203 (lcq hv) ?_
          refine V_if_eq (tgt := 209) (by omega) dL_law_204 rfl (fun h_204 => ?_) (fun h_204 => ?_)
          · refine V_goto (tgt := 1635) dL_law_209 rfl ?_
            exact kk ((z 1 + 1), (va_up tx (z 1) p1), r, ho, hs, zf, wo, sn, e, t, s0, s1, (va_up (va_up z 0 0) 1 (z 1 + 1)), rr, g, tr, d, kp, ik, y, mt, _) _ _ _ _ ⟨⟨rfl, (by omega), (fun k hk => by
                unfold va_up
                split
                · omega
                · exact ht k hk), hr, he, het, hR, (hH.upd (by decide)).upd (by decide), hS⟩, (hW.upd (by decide) (by decide)).upd (by decide) (by decide)⟩ (by omega) (by omega)
          · exfalso; omega
      · exfalso; omega
  · refine ⟨rfl, ?_⟩
    dsimp only [vfill, List.set_cons_zero, List.set_cons_succ, Option.toList, List.cons_append, List.nil_append, Nat.add_zero]
    refine V_istore (i := 5) dL_law_167 rfl rfl ?_
    dsimp only [List.set_cons_zero, List.set_cons_succ]
    refine V_aload_n (i := 2) dL_law_169 rfl rfl ?_
    refine V_aload_n (i := 0) dL_law_170 rfl rfl ?_
    refine V_iload (i := 4) dL_law_171 rfl ?_
    refine V_iconst (v := 1) dL_law_173 rfl ?_
    refine V_iadd dL_law_174 ?_
    refine V_sld hS9 (by omega) e1 dL_law_175 ?_
    refine V_callV (C := RX7) (q := 0) (ci := 6) (As := _) (rest := []) [14, 15] (c_X7_append l G B z tx p1 hp1 hn) vy_X7_append gL_law_X7_append rfl rfl rfl rfl rfl rfl rfl ⟨rfl, rfl⟩ ⟨rfl, rfl⟩ ⟨hk, hn9⟩ rfl dL_law_176 (fun v Y hE => ?_)
    rcases hE with ⟨m1, rfl, rfl⟩ | ⟨m1, m2, rfl, rfl⟩ | ⟨m1, m2, rfl, rfl⟩
    · refine ⟨rfl, ?_⟩
      dsimp only [vfill, w3, List.set_cons_zero, List.set_cons_succ, Option.toList, List.cons_append, List.nil_append, Nat.add_zero]
      refine V_istore (i := 6) dL_law_179 rfl rfl ?_
      dsimp only [List.set_cons_zero, List.set_cons_succ]
      refine V_aload_n (i := 2) dL_law_181 rfl rfl ?_
      refine V_callV (C := RX7) (q := 0) (ci := 6) (As := []) (rest := []) [14] (c_X7_thrown l G B (va_up z 0 1)) vy_X7_thrown gL_law_X7_thrown rfl rfl rfl rfl rfl rfl rfl ⟨rfl, rfl⟩ ⟨rfl, rfl⟩ ⟨hk, hn9⟩ rfl dL_law_182 (fun v Y hE => ?_)
      obtain ⟨rfl, rfl⟩ := hE
      refine ⟨rfl, ?_⟩
      dsimp only [vfill, List.set_cons_zero, List.set_cons_succ, Option.toList, List.cons_append, List.nil_append, Nat.add_zero]
      refine V_top (b := 1) rfl ?_
      refine V_iload (i := 5) dL_law_185 rfl ?_
      refine V_icmp_eq (tgt := 192) (by omega) (by omega) dL_law_187 rfl (fun h_187 => ?_) (fun h_187 => ?_)
      · refine V_iload (i := 5) dL_law_192 rfl ?_
        refine V_if_ne (tgt := 209) (by omega) dL_law_194 rfl (fun h_194 => ?_) (fun h_194 => ?_)
        · refine V_goto (tgt := 1635) dL_law_209 rfl ?_
          exact kk ((z 1), tx, r, ho, hs, zf, wo, sn, e, t, s0, s1, (va_up z 0 1), rr, g, tr, d, kp, ik, y, mt, _) _ _ _ _ ⟨⟨rfl, hn, ht, hr, he, het, hR, hH.upd (by decide), hS⟩, hW.upd (by decide) (by decide)⟩ (by omega) (by omega)
        · exfalso; omega
      · exfalso; omega
    · exfalso
      omega
    · exfalso
      omega
  · refine ⟨rfl, ?_⟩
    dsimp only [vfill, List.set_cons_zero, List.set_cons_succ, Option.toList, List.cons_append, List.nil_append, Nat.add_zero]
    refine V_istore (i := 5) dL_law_167 rfl rfl ?_
    dsimp only [List.set_cons_zero, List.set_cons_succ]
    refine V_aload_n (i := 2) dL_law_169 rfl rfl ?_
    refine V_aload_n (i := 0) dL_law_170 rfl rfl ?_
    refine V_iload (i := 4) dL_law_171 rfl ?_
    refine V_iconst (v := 1) dL_law_173 rfl ?_
    refine V_iadd dL_law_174 ?_
    refine V_sld hS9 (by omega) e1 dL_law_175 ?_
    refine V_callV (C := RX7) (q := 0) (ci := 6) (As := _) (rest := []) [14, 15] (c_X7_append l G B z tx p1 hp1 hn) vy_X7_append gL_law_X7_append rfl rfl rfl rfl rfl rfl rfl ⟨rfl, rfl⟩ ⟨rfl, rfl⟩ ⟨hk, hn9⟩ rfl dL_law_176 (fun v Y hE => ?_)
    rcases hE with ⟨m1, rfl, rfl⟩ | ⟨m1, m2, rfl, rfl⟩ | ⟨m1, m2, rfl, rfl⟩
    · exfalso
      omega
    · refine ⟨rfl, ?_⟩
      dsimp only [vfill, w3, List.set_cons_zero, List.set_cons_succ, Option.toList, List.cons_append, List.nil_append, Nat.add_zero]
      refine V_istore (i := 6) dL_law_179 rfl rfl ?_
      dsimp only [List.set_cons_zero, List.set_cons_succ]
      refine V_aload_n (i := 2) dL_law_181 rfl rfl ?_
      refine V_callV (C := RX7) (q := 0) (ci := 6) (As := []) (rest := []) [14] (c_X7_thrown l G B (va_up z 0 2)) vy_X7_thrown gL_law_X7_thrown rfl rfl rfl rfl rfl rfl rfl ⟨rfl, rfl⟩ ⟨rfl, rfl⟩ ⟨hk, hn9⟩ rfl dL_law_182 (fun v Y hE => ?_)
      obtain ⟨rfl, rfl⟩ := hE
      refine ⟨rfl, ?_⟩
      dsimp only [vfill, List.set_cons_zero, List.set_cons_succ, Option.toList, List.cons_append, List.nil_append, Nat.add_zero]
      refine V_top (b := 2) rfl ?_
      refine V_iload (i := 5) dL_law_185 rfl ?_
      refine V_icmp_eq (tgt := 192) (by omega) (by omega) dL_law_187 rfl (fun h_187 => ?_) (fun h_187 => ?_)
      · refine V_iload (i := 5) dL_law_192 rfl ?_
        refine V_if_ne (tgt := 209) (by omega) dL_law_194 rfl (fun h_194 => ?_) (fun h_194 => ?_)
        · refine V_goto (tgt := 1635) dL_law_209 rfl ?_
          exact kk ((z 1), tx, r, ho, hs, zf, wo, sn, e, t, s0, s1, (va_up z 0 2), rr, g, tr, d, kp, ik, y, mt, _) _ _ _ _ ⟨⟨rfl, hn, ht, hr, he, het, hR, hH.upd (by decide), hS⟩, hW.upd (by decide) (by decide)⟩ (by omega) (by omega)
        · exfalso; omega
      · exfalso; omega
    · exfalso
      omega

set_option maxHeartbeats 4000000 in
set_option maxRecDepth 100000 in
theorem L_cell (l : Launch) (hst : l.stackTraces = false) (G : vG) (Γ : vF) (b Ls : Nat) (xs : Nat → Int32) (hS9 : vScr Γ b Ls xs) (hE9 : vE9 Γ.2.2.1) (hZ9 : vZ Γ.2.2.2.2.2.2.2.2.2 Γ.2.2.1 Γ.2.2.1.heap) (hN9 : vNC Γ.2.2.1) (A : Nat → Nat) (ea : Nat → Nat → Nat) (B : Nat → Nat) (ou i k n9 : Nat) (hi6 : i + 6 ≤ Ls) (hk : k + 1 ≤ 601024) (hn9 : n9 + 6 ≤ 7293034) (p1 : Nat) (hp1 : p1 < 4294967296) (e1 : xs (i + 1) = nI p1) (p2 : Nat) (hp2 : p2 < 4294967296) (e2 : xs (i + 2) = nI p2) (n : Nat) (tx r ho : Nat → Nat) (hs : Nat → vE) (zf wo sn : Nat → Nat) (e t s0 s1 : vE) (z rr g tr d kp ik y mt : Nat → Nat) (fo : Nat → Int64) (hI : LX (n, tx, r, ho, hs, zf, wo, sn, e, t, s0, s1, z, rr, g, tr, d, kp, ik, y, mt, fo)) (u5 u6 : Option Value)
    (kk : ∀ (σ : LSt) (k9 n8 : Nat) (v5 v6 : Option Value), LX σ → k9 ≤ k + 1 → n8 ≤ n9 + 6 → V l G (cL_law, 7, wsL_law, RL, room_1) Γ k9 n8 1635 [some (.ref b), some (.ref (A 0)), some (.ref (B 0)), some (.ref ou), some (.int (nI i)), v5, v6] [] (W25 G A ea B ou σ)) :
    V l G (cL_law, 7, wsL_law, RL, room_1) Γ k n9 338 [some (.ref b), some (.ref (A 0)), some (.ref (B 0)), some (.ref ou), some (.int (nI i)), u5, u6] [] [oO A ea n, iA G (A 1) 140 tx, tR (A 2) r, eK G (ea 14) e, eK G (ea 15) t, hO (A 3) (A 7) ho, hA G (A 7) ea, hK G ea hs, sA G A ea, zA G (A 5) 2 zf, wO (A 6) (A 8) wo, iA G (A 8) 96 sn, eK G (ea 16) s0, eK G (ea 17) s1, mO B z, iA G (B 1) 140 tx, iA G (B 2) 427 rr, iA G (B 3) 427 g, iA G (B 4) 427 tr, iA G (B 5) 5978 d, iA G (B 6) 854 kp, zA G (B 7) 2 ik, iA G (B 8) 96 y, zA G (B 9) 96 mt, lA G ou fo] := by
  obtain ⟨⟨h1, hn, ht, hr, he, het, hR, hH, hS⟩, hW⟩ := id hI
  refine V_aload_n (i := 1) dL_law_338 rfl rfl ?_
  refine V_aload_n (i := 0) dL_law_339 rfl rfl ?_
  refine V_iload (i := 4) dL_law_340 rfl ?_
  refine V_iconst (v := 1) dL_law_342 rfl ?_
  refine V_iadd dL_law_343 ?_
  refine V_sld hS9 (by omega) e1 dL_law_344 ?_
  refine V_aload_n (i := 0) dL_law_345 rfl rfl ?_
  refine V_iload (i := 4) dL_law_346 rfl ?_
  refine V_iconst (v := 2) dL_law_348 rfl ?_
  refine V_iadd dL_law_349 ?_
  refine V_sld hS9 (by omega) e2 dL_law_350 ?_
  refine V_aload_n (i := 3) dL_law_351 rfl rfl ?_
  refine V_callSW (As := _) (rest := []) [0, 3, 24] hE9 hZ9 hN9 (c_L_cell l hst G A ea n p1 p2 e hp1 hp2 ou fo) rfl ⟨by decide +kernel, by decide +kernel, by simp only [List.length_cons, List.length_nil]; decide +kernel⟩ gL_law_L_cell rfl rfl rfl rfl ⟨rfl, rfl⟩ ⟨rfl, rfl⟩ ⟨hk, hn9⟩ rfl dL_law_352 (fun v Y hE => ?_)
  rcases hE with ⟨hc, rfl, rfl⟩ | ⟨hc, rfl, rfl⟩ | ⟨hc, rfl, rfl⟩
  · refine ⟨rfl, ?_⟩
    dsimp only [vfill, List.set_cons_zero, List.set_cons_succ, Option.toList, List.cons_append, List.nil_append, Nat.add_zero]
    refine V_istore (i := 5) dL_law_355 rfl rfl ?_
    dsimp only [List.set_cons_zero, List.set_cons_succ]
    refine V_aload_n (i := 2) dL_law_357 rfl rfl ?_
    refine V_aload_n (i := 0) dL_law_358 rfl rfl ?_
    refine V_iload (i := 4) dL_law_359 rfl ?_
    refine V_iconst (v := 1) dL_law_361 rfl ?_
    refine V_iadd dL_law_362 ?_
    refine V_sld hS9 (by omega) e1 dL_law_363 ?_
    refine V_aload_n (i := 0) dL_law_364 rfl rfl ?_
    refine V_iload (i := 4) dL_law_365 rfl ?_
    refine V_iconst (v := 2) dL_law_367 rfl ?_
    refine V_iadd dL_law_368 ?_
    refine V_sld hS9 (by omega) e2 dL_law_369 ?_
    refine V_callV (C := RX7) (q := 0) (ci := 6) (As := _) (rest := []) [14, 17] (c_X7_cell l G B z g p1 p2 hp1 hp2 (fun k hk => by rw [(hR.2.2.2.1 k hk).1]; exact (hR.2.2.2.1 k hk).2)) vy_X7_cell gL_law_X7_cell rfl rfl rfl rfl rfl rfl rfl ⟨rfl, rfl⟩ ⟨rfl, rfl⟩ ⟨hk, hn9⟩ rfl dL_law_370 (fun v Y hE => ?_)
    rcases hE with ⟨m1, rfl, rfl⟩ | ⟨m1, m2, rfl, rfl⟩ | ⟨m1, m2, rfl, rfl⟩
    · exfalso
      omega
    · exfalso
      omega
    · refine ⟨rfl, ?_⟩
      dsimp only [vfill, w3, List.set_cons_zero, List.set_cons_succ, Option.toList, List.cons_append, List.nil_append, Nat.add_zero]
      have hv := congrArg nI (hR.cell hc.1 hc.2).symm
      refine V_istore (i := 6) dL_law_373 rfl rfl ?_
      dsimp only [List.set_cons_zero, List.set_cons_succ]
      refine V_aload_n (i := 2) dL_law_375 rfl rfl ?_
      refine V_callV (C := RX7) (q := 0) (ci := 6) (As := []) (rest := []) [14] (c_X7_thrown l G B (va_up z 0 0)) vy_X7_thrown gL_law_X7_thrown rfl rfl rfl rfl rfl rfl rfl ⟨rfl, rfl⟩ ⟨rfl, rfl⟩ ⟨hk, hn9⟩ rfl dL_law_376 (fun v Y hE => ?_)
      obtain ⟨rfl, rfl⟩ := hE
      refine ⟨rfl, ?_⟩
      dsimp only [vfill, List.set_cons_zero, List.set_cons_succ, Option.toList, List.cons_append, List.nil_append, Nat.add_zero]
      refine V_top (b := 0) rfl ?_
      refine V_iload (i := 5) dL_law_379 rfl ?_
      refine V_icmp_eq (tgt := 386) (by omega) (by omega) dL_law_381 rfl (fun h_381 => ?_) (fun h_381 => ?_)
      · refine V_iload (i := 5) dL_law_386 rfl ?_
        refine V_if_ne (tgt := 403) (by omega) dL_law_388 rfl (fun h_388 => ?_) (fun h_388 => ?_)
        · exfalso; omega
        · refine V_aload_n (i := 3) dL_law_391 rfl rfl ?_
          refine V_iconst (v := 0) dL_law_392 rfl ?_
          refine V_lald (q := 24) rfl (by omega) rfl dL_law_393 ?_
          refine V_iload (i := 6) dL_law_394 rfl ?_
          refine V_i2l dL_law_396 ?_
          refine V_lcmp (v := 0) dL_law_397 (lcq hv) ?_
          refine V_if_eq (tgt := 403) (by omega) dL_law_398 rfl (fun h_398 => ?_) (fun h_398 => ?_)
          · refine V_goto (tgt := 1635) dL_law_403 rfl ?_
            exact kk (n, tx, r, ho, hs, zf, wo, sn, e, t, s0, s1, (va_up z 0 0), rr, g, tr, d, kp, ik, y, mt, _) _ _ _ _ ⟨⟨(up_n (by decide)).trans h1, hn, ht, hr, he, het, hR, hH.upd (by decide), hS⟩, hW.upd (by decide) (by decide)⟩ (by omega) (by omega)
          · exfalso; omega
      · exfalso; omega
  · refine ⟨rfl, ?_⟩
    dsimp only [vfill, List.set_cons_zero, List.set_cons_succ, Option.toList, List.cons_append, List.nil_append, Nat.add_zero]
    refine V_istore (i := 5) dL_law_355 rfl rfl ?_
    dsimp only [List.set_cons_zero, List.set_cons_succ]
    refine V_aload_n (i := 2) dL_law_357 rfl rfl ?_
    refine V_aload_n (i := 0) dL_law_358 rfl rfl ?_
    refine V_iload (i := 4) dL_law_359 rfl ?_
    refine V_iconst (v := 1) dL_law_361 rfl ?_
    refine V_iadd dL_law_362 ?_
    refine V_sld hS9 (by omega) e1 dL_law_363 ?_
    refine V_aload_n (i := 0) dL_law_364 rfl rfl ?_
    refine V_iload (i := 4) dL_law_365 rfl ?_
    refine V_iconst (v := 2) dL_law_367 rfl ?_
    refine V_iadd dL_law_368 ?_
    refine V_sld hS9 (by omega) e2 dL_law_369 ?_
    refine V_callV (C := RX7) (q := 0) (ci := 6) (As := _) (rest := []) [14, 17] (c_X7_cell l G B z g p1 p2 hp1 hp2 (fun k hk => by rw [(hR.2.2.2.1 k hk).1]; exact (hR.2.2.2.1 k hk).2)) vy_X7_cell gL_law_X7_cell rfl rfl rfl rfl rfl rfl rfl ⟨rfl, rfl⟩ ⟨rfl, rfl⟩ ⟨hk, hn9⟩ rfl dL_law_370 (fun v Y hE => ?_)
    rcases hE with ⟨m1, rfl, rfl⟩ | ⟨m1, m2, rfl, rfl⟩ | ⟨m1, m2, rfl, rfl⟩
    · refine ⟨rfl, ?_⟩
      dsimp only [vfill, w3, List.set_cons_zero, List.set_cons_succ, Option.toList, List.cons_append, List.nil_append, Nat.add_zero]
      refine V_istore (i := 6) dL_law_373 rfl rfl ?_
      dsimp only [List.set_cons_zero, List.set_cons_succ]
      refine V_aload_n (i := 2) dL_law_375 rfl rfl ?_
      refine V_callV (C := RX7) (q := 0) (ci := 6) (As := []) (rest := []) [14] (c_X7_thrown l G B (va_up z 0 1)) vy_X7_thrown gL_law_X7_thrown rfl rfl rfl rfl rfl rfl rfl ⟨rfl, rfl⟩ ⟨rfl, rfl⟩ ⟨hk, hn9⟩ rfl dL_law_376 (fun v Y hE => ?_)
      obtain ⟨rfl, rfl⟩ := hE
      refine ⟨rfl, ?_⟩
      dsimp only [vfill, List.set_cons_zero, List.set_cons_succ, Option.toList, List.cons_append, List.nil_append, Nat.add_zero]
      refine V_top (b := 1) rfl ?_
      refine V_iload (i := 5) dL_law_379 rfl ?_
      refine V_icmp_eq (tgt := 386) (by omega) (by omega) dL_law_381 rfl (fun h_381 => ?_) (fun h_381 => ?_)
      · refine V_iload (i := 5) dL_law_386 rfl ?_
        refine V_if_ne (tgt := 403) (by omega) dL_law_388 rfl (fun h_388 => ?_) (fun h_388 => ?_)
        · refine V_goto (tgt := 1635) dL_law_403 rfl ?_
          exact kk (n, tx, r, ho, hs, zf, wo, sn, e, t, s0, s1, (va_up z 0 1), rr, g, tr, d, kp, ik, y, mt, _) _ _ _ _ ⟨⟨(up_n (by decide)).trans h1, hn, ht, hr, he, het, hR, hH.upd (by decide), hS⟩, hW.upd (by decide) (by decide)⟩ (by omega) (by omega)
        · exfalso; omega
      · exfalso; omega
    · exfalso
      omega
    · exfalso
      omega
  · refine ⟨rfl, ?_⟩
    dsimp only [vfill, List.set_cons_zero, List.set_cons_succ, Option.toList, List.cons_append, List.nil_append, Nat.add_zero]
    refine V_istore (i := 5) dL_law_355 rfl rfl ?_
    dsimp only [List.set_cons_zero, List.set_cons_succ]
    refine V_aload_n (i := 2) dL_law_357 rfl rfl ?_
    refine V_aload_n (i := 0) dL_law_358 rfl rfl ?_
    refine V_iload (i := 4) dL_law_359 rfl ?_
    refine V_iconst (v := 1) dL_law_361 rfl ?_
    refine V_iadd dL_law_362 ?_
    refine V_sld hS9 (by omega) e1 dL_law_363 ?_
    refine V_aload_n (i := 0) dL_law_364 rfl rfl ?_
    refine V_iload (i := 4) dL_law_365 rfl ?_
    refine V_iconst (v := 2) dL_law_367 rfl ?_
    refine V_iadd dL_law_368 ?_
    refine V_sld hS9 (by omega) e2 dL_law_369 ?_
    refine V_callV (C := RX7) (q := 0) (ci := 6) (As := _) (rest := []) [14, 17] (c_X7_cell l G B z g p1 p2 hp1 hp2 (fun k hk => by rw [(hR.2.2.2.1 k hk).1]; exact (hR.2.2.2.1 k hk).2)) vy_X7_cell gL_law_X7_cell rfl rfl rfl rfl rfl rfl rfl ⟨rfl, rfl⟩ ⟨rfl, rfl⟩ ⟨hk, hn9⟩ rfl dL_law_370 (fun v Y hE => ?_)
    rcases hE with ⟨m1, rfl, rfl⟩ | ⟨m1, m2, rfl, rfl⟩ | ⟨m1, m2, rfl, rfl⟩
    · exfalso
      omega
    · refine ⟨rfl, ?_⟩
      dsimp only [vfill, w3, List.set_cons_zero, List.set_cons_succ, Option.toList, List.cons_append, List.nil_append, Nat.add_zero]
      refine V_istore (i := 6) dL_law_373 rfl rfl ?_
      dsimp only [List.set_cons_zero, List.set_cons_succ]
      refine V_aload_n (i := 2) dL_law_375 rfl rfl ?_
      refine V_callV (C := RX7) (q := 0) (ci := 6) (As := []) (rest := []) [14] (c_X7_thrown l G B (va_up z 0 2)) vy_X7_thrown gL_law_X7_thrown rfl rfl rfl rfl rfl rfl rfl ⟨rfl, rfl⟩ ⟨rfl, rfl⟩ ⟨hk, hn9⟩ rfl dL_law_376 (fun v Y hE => ?_)
      obtain ⟨rfl, rfl⟩ := hE
      refine ⟨rfl, ?_⟩
      dsimp only [vfill, List.set_cons_zero, List.set_cons_succ, Option.toList, List.cons_append, List.nil_append, Nat.add_zero]
      refine V_top (b := 2) rfl ?_
      refine V_iload (i := 5) dL_law_379 rfl ?_
      refine V_icmp_eq (tgt := 386) (by omega) (by omega) dL_law_381 rfl (fun h_381 => ?_) (fun h_381 => ?_)
      · refine V_iload (i := 5) dL_law_386 rfl ?_
        refine V_if_ne (tgt := 403) (by omega) dL_law_388 rfl (fun h_388 => ?_) (fun h_388 => ?_)
        · refine V_goto (tgt := 1635) dL_law_403 rfl ?_
          exact kk (n, tx, r, ho, hs, zf, wo, sn, e, t, s0, s1, (va_up z 0 2), rr, g, tr, d, kp, ik, y, mt, _) _ _ _ _ ⟨⟨(up_n (by decide)).trans h1, hn, ht, hr, he, het, hR, hH.upd (by decide), hS⟩, hW.upd (by decide) (by decide)⟩ (by omega) (by omega)
        · exfalso; omega
      · exfalso; omega
    · exfalso
      omega

set_option maxHeartbeats 4000000 in
set_option maxRecDepth 100000 in
theorem L_channel (l : Launch) (hst : l.stackTraces = false) (G : vG) (Γ : vF) (b Ls : Nat) (xs : Nat → Int32) (hS9 : vScr Γ b Ls xs) (hE9 : vE9 Γ.2.2.1) (hZ9 : vZ Γ.2.2.2.2.2.2.2.2.2 Γ.2.2.1 Γ.2.2.1.heap) (hN9 : vNC Γ.2.2.1) (A : Nat → Nat) (ea : Nat → Nat → Nat) (B : Nat → Nat) (ou i k n9 : Nat) (hi6 : i + 6 ≤ Ls) (hk : k + 1 ≤ 601024) (hn9 : n9 + 6 ≤ 7293034) (p1 : Nat) (hp1 : p1 < 4294967296) (e1 : xs (i + 1) = nI p1) (p2 : Nat) (hp2 : p2 < 4294967296) (e2 : xs (i + 2) = nI p2) (n : Nat) (tx r ho : Nat → Nat) (hs : Nat → vE) (zf wo sn : Nat → Nat) (e t s0 s1 : vE) (z rr g tr d kp ik y mt : Nat → Nat) (fo : Nat → Int64) (hI : LX (n, tx, r, ho, hs, zf, wo, sn, e, t, s0, s1, z, rr, g, tr, d, kp, ik, y, mt, fo)) (u5 u6 : Option Value)
    (kk : ∀ (σ : LSt) (k9 n8 : Nat) (v5 v6 : Option Value), LX σ → k9 ≤ k + 1 → n8 ≤ n9 + 6 → V l G (cL_law, 7, wsL_law, RL, room_1) Γ k9 n8 1635 [some (.ref b), some (.ref (A 0)), some (.ref (B 0)), some (.ref ou), some (.int (nI i)), v5, v6] [] (W25 G A ea B ou σ)) :
    V l G (cL_law, 7, wsL_law, RL, room_1) Γ k n9 406 [some (.ref b), some (.ref (A 0)), some (.ref (B 0)), some (.ref ou), some (.int (nI i)), u5, u6] [] [oO A ea n, iA G (A 1) 140 tx, tR (A 2) r, eK G (ea 14) e, eK G (ea 15) t, hO (A 3) (A 7) ho, hA G (A 7) ea, hK G ea hs, sA G A ea, zA G (A 5) 2 zf, wO (A 6) (A 8) wo, iA G (A 8) 96 sn, eK G (ea 16) s0, eK G (ea 17) s1, mO B z, iA G (B 1) 140 tx, iA G (B 2) 427 rr, iA G (B 3) 427 g, iA G (B 4) 427 tr, iA G (B 5) 5978 d, iA G (B 6) 854 kp, zA G (B 7) 2 ik, iA G (B 8) 96 y, zA G (B 9) 96 mt, lA G ou fo] := by
  obtain ⟨⟨h1, hn, ht, hr, he, het, hR, hH, hS⟩, hW⟩ := id hI
  have hgB := gB_of hR he
  refine V_aload_n (i := 1) dL_law_406 rfl rfl ?_
  refine V_aload_n (i := 0) dL_law_407 rfl rfl ?_
  refine V_iload (i := 4) dL_law_408 rfl ?_
  refine V_iconst (v := 1) dL_law_410 rfl ?_
  refine V_iadd dL_law_411 ?_
  refine V_sld hS9 (by omega) e1 dL_law_412 ?_
  refine V_aload_n (i := 0) dL_law_413 rfl rfl ?_
  refine V_iload (i := 4) dL_law_414 rfl ?_
  refine V_iconst (v := 2) dL_law_416 rfl ?_
  refine V_iadd dL_law_417 ?_
  refine V_sld hS9 (by omega) e2 dL_law_418 ?_
  refine V_aload_n (i := 3) dL_law_419 rfl rfl ?_
  refine V_callSW (As := _) (rest := []) [0, 3, 24] hE9 hZ9 hN9 (c_L_channel l hst G A ea n p1 p2 e he hp1 hp2 ou fo) rfl ⟨by decide +kernel, by decide +kernel, by simp only [List.length_cons, List.length_nil]; decide +kernel⟩ gL_law_L_channel rfl rfl rfl rfl ⟨rfl, rfl⟩ ⟨rfl, rfl⟩ ⟨hk, hn9⟩ rfl dL_law_420 (fun v Y hE => ?_)
  rcases hE with ⟨hc, rfl, rfl⟩ | ⟨hc, rfl, rfl⟩ | ⟨hc, rfl, rfl⟩
  · refine ⟨rfl, ?_⟩
    dsimp only [vfill, List.set_cons_zero, List.set_cons_succ, Option.toList, List.cons_append, List.nil_append, Nat.add_zero]
    refine V_istore (i := 5) dL_law_423 rfl rfl ?_
    dsimp only [List.set_cons_zero, List.set_cons_succ]
    refine V_aload_n (i := 2) dL_law_425 rfl rfl ?_
    refine V_aload_n (i := 0) dL_law_426 rfl rfl ?_
    refine V_iload (i := 4) dL_law_427 rfl ?_
    refine V_iconst (v := 1) dL_law_429 rfl ?_
    refine V_iadd dL_law_430 ?_
    refine V_sld hS9 (by omega) e1 dL_law_431 ?_
    refine V_aload_n (i := 0) dL_law_432 rfl rfl ?_
    refine V_iload (i := 4) dL_law_433 rfl ?_
    refine V_iconst (v := 2) dL_law_435 rfl ?_
    refine V_iadd dL_law_436 ?_
    refine V_sld hS9 (by omega) e2 dL_law_437 ?_
    refine V_callV (C := RX7) (q := 0) (ci := 6) (As := _) (rest := []) [14, 17] (c_X7_channel l G B z g p1 p2 hp1 hp2 hgB) vy_X7_channel gL_law_X7_channel rfl rfl rfl rfl rfl rfl rfl ⟨rfl, rfl⟩ ⟨rfl, rfl⟩ ⟨hk, hn9⟩ rfl dL_law_438 (fun v Y hE => ?_)
    rcases hE with ⟨m1, rfl, rfl⟩ | ⟨m1, m2, rfl, rfl⟩ | ⟨m1, m2, rfl, rfl⟩
    · exfalso
      omega
    · exfalso
      omega
    · refine ⟨rfl, ?_⟩
      dsimp only [vfill, w3, List.set_cons_zero, List.set_cons_succ, Option.toList, List.cons_append, List.nil_append, Nat.add_zero]
      have hv := congrArg nI (hR.chan (w := p2) he hc.1).symm
      refine V_istore (i := 6) dL_law_441 rfl rfl ?_
      dsimp only [List.set_cons_zero, List.set_cons_succ]
      refine V_aload_n (i := 2) dL_law_443 rfl rfl ?_
      refine V_callV (C := RX7) (q := 0) (ci := 6) (As := []) (rest := []) [14] (c_X7_thrown l G B (va_up z 0 0)) vy_X7_thrown gL_law_X7_thrown rfl rfl rfl rfl rfl rfl rfl ⟨rfl, rfl⟩ ⟨rfl, rfl⟩ ⟨hk, hn9⟩ rfl dL_law_444 (fun v Y hE => ?_)
      obtain ⟨rfl, rfl⟩ := hE
      refine ⟨rfl, ?_⟩
      dsimp only [vfill, List.set_cons_zero, List.set_cons_succ, Option.toList, List.cons_append, List.nil_append, Nat.add_zero]
      refine V_top (b := 0) rfl ?_
      refine V_iload (i := 5) dL_law_447 rfl ?_
      refine V_icmp_eq (tgt := 454) (by omega) (by omega) dL_law_449 rfl (fun h_449 => ?_) (fun h_449 => ?_)
      · refine V_iload (i := 5) dL_law_454 rfl ?_
        refine V_if_ne (tgt := 471) (by omega) dL_law_456 rfl (fun h_456 => ?_) (fun h_456 => ?_)
        · exfalso; omega
        · refine V_aload_n (i := 3) dL_law_459 rfl rfl ?_
          refine V_iconst (v := 0) dL_law_460 rfl ?_
          refine V_lald (q := 24) rfl (by omega) rfl dL_law_461 ?_
          refine V_iload (i := 6) dL_law_462 rfl ?_
          refine V_i2l dL_law_464 ?_
          refine V_lcmp (v := 0) dL_law_465 (lcq hv) ?_
          refine V_if_eq (tgt := 471) (by omega) dL_law_466 rfl (fun h_466 => ?_) (fun h_466 => ?_)
          · refine V_goto (tgt := 1635) dL_law_471 rfl ?_
            exact kk (n, tx, r, ho, hs, zf, wo, sn, e, t, s0, s1, (va_up z 0 0), rr, g, tr, d, kp, ik, y, mt, _) _ _ _ _ ⟨⟨(up_n (by decide)).trans h1, hn, ht, hr, he, het, hR, hH.upd (by decide), hS⟩, hW.upd (by decide) (by decide)⟩ (by omega) (by omega)
          · exfalso; omega
      · exfalso; omega
  · refine ⟨rfl, ?_⟩
    dsimp only [vfill, List.set_cons_zero, List.set_cons_succ, Option.toList, List.cons_append, List.nil_append, Nat.add_zero]
    refine V_istore (i := 5) dL_law_423 rfl rfl ?_
    dsimp only [List.set_cons_zero, List.set_cons_succ]
    refine V_aload_n (i := 2) dL_law_425 rfl rfl ?_
    refine V_aload_n (i := 0) dL_law_426 rfl rfl ?_
    refine V_iload (i := 4) dL_law_427 rfl ?_
    refine V_iconst (v := 1) dL_law_429 rfl ?_
    refine V_iadd dL_law_430 ?_
    refine V_sld hS9 (by omega) e1 dL_law_431 ?_
    refine V_aload_n (i := 0) dL_law_432 rfl rfl ?_
    refine V_iload (i := 4) dL_law_433 rfl ?_
    refine V_iconst (v := 2) dL_law_435 rfl ?_
    refine V_iadd dL_law_436 ?_
    refine V_sld hS9 (by omega) e2 dL_law_437 ?_
    refine V_callV (C := RX7) (q := 0) (ci := 6) (As := _) (rest := []) [14, 17] (c_X7_channel l G B z g p1 p2 hp1 hp2 hgB) vy_X7_channel gL_law_X7_channel rfl rfl rfl rfl rfl rfl rfl ⟨rfl, rfl⟩ ⟨rfl, rfl⟩ ⟨hk, hn9⟩ rfl dL_law_438 (fun v Y hE => ?_)
    rcases hE with ⟨m1, rfl, rfl⟩ | ⟨m1, m2, rfl, rfl⟩ | ⟨m1, m2, rfl, rfl⟩
    · refine ⟨rfl, ?_⟩
      dsimp only [vfill, w3, List.set_cons_zero, List.set_cons_succ, Option.toList, List.cons_append, List.nil_append, Nat.add_zero]
      refine V_istore (i := 6) dL_law_441 rfl rfl ?_
      dsimp only [List.set_cons_zero, List.set_cons_succ]
      refine V_aload_n (i := 2) dL_law_443 rfl rfl ?_
      refine V_callV (C := RX7) (q := 0) (ci := 6) (As := []) (rest := []) [14] (c_X7_thrown l G B (va_up z 0 1)) vy_X7_thrown gL_law_X7_thrown rfl rfl rfl rfl rfl rfl rfl ⟨rfl, rfl⟩ ⟨rfl, rfl⟩ ⟨hk, hn9⟩ rfl dL_law_444 (fun v Y hE => ?_)
      obtain ⟨rfl, rfl⟩ := hE
      refine ⟨rfl, ?_⟩
      dsimp only [vfill, List.set_cons_zero, List.set_cons_succ, Option.toList, List.cons_append, List.nil_append, Nat.add_zero]
      refine V_top (b := 1) rfl ?_
      refine V_iload (i := 5) dL_law_447 rfl ?_
      refine V_icmp_eq (tgt := 454) (by omega) (by omega) dL_law_449 rfl (fun h_449 => ?_) (fun h_449 => ?_)
      · refine V_iload (i := 5) dL_law_454 rfl ?_
        refine V_if_ne (tgt := 471) (by omega) dL_law_456 rfl (fun h_456 => ?_) (fun h_456 => ?_)
        · refine V_goto (tgt := 1635) dL_law_471 rfl ?_
          exact kk (n, tx, r, ho, hs, zf, wo, sn, e, t, s0, s1, (va_up z 0 1), rr, g, tr, d, kp, ik, y, mt, _) _ _ _ _ ⟨⟨(up_n (by decide)).trans h1, hn, ht, hr, he, het, hR, hH.upd (by decide), hS⟩, hW.upd (by decide) (by decide)⟩ (by omega) (by omega)
        · exfalso; omega
      · exfalso; omega
    · exfalso
      omega
    · exfalso
      omega
  · refine ⟨rfl, ?_⟩
    dsimp only [vfill, List.set_cons_zero, List.set_cons_succ, Option.toList, List.cons_append, List.nil_append, Nat.add_zero]
    refine V_istore (i := 5) dL_law_423 rfl rfl ?_
    dsimp only [List.set_cons_zero, List.set_cons_succ]
    refine V_aload_n (i := 2) dL_law_425 rfl rfl ?_
    refine V_aload_n (i := 0) dL_law_426 rfl rfl ?_
    refine V_iload (i := 4) dL_law_427 rfl ?_
    refine V_iconst (v := 1) dL_law_429 rfl ?_
    refine V_iadd dL_law_430 ?_
    refine V_sld hS9 (by omega) e1 dL_law_431 ?_
    refine V_aload_n (i := 0) dL_law_432 rfl rfl ?_
    refine V_iload (i := 4) dL_law_433 rfl ?_
    refine V_iconst (v := 2) dL_law_435 rfl ?_
    refine V_iadd dL_law_436 ?_
    refine V_sld hS9 (by omega) e2 dL_law_437 ?_
    refine V_callV (C := RX7) (q := 0) (ci := 6) (As := _) (rest := []) [14, 17] (c_X7_channel l G B z g p1 p2 hp1 hp2 hgB) vy_X7_channel gL_law_X7_channel rfl rfl rfl rfl rfl rfl rfl ⟨rfl, rfl⟩ ⟨rfl, rfl⟩ ⟨hk, hn9⟩ rfl dL_law_438 (fun v Y hE => ?_)
    rcases hE with ⟨m1, rfl, rfl⟩ | ⟨m1, m2, rfl, rfl⟩ | ⟨m1, m2, rfl, rfl⟩
    · exfalso
      omega
    · refine ⟨rfl, ?_⟩
      dsimp only [vfill, w3, List.set_cons_zero, List.set_cons_succ, Option.toList, List.cons_append, List.nil_append, Nat.add_zero]
      refine V_istore (i := 6) dL_law_441 rfl rfl ?_
      dsimp only [List.set_cons_zero, List.set_cons_succ]
      refine V_aload_n (i := 2) dL_law_443 rfl rfl ?_
      refine V_callV (C := RX7) (q := 0) (ci := 6) (As := []) (rest := []) [14] (c_X7_thrown l G B (va_up z 0 2)) vy_X7_thrown gL_law_X7_thrown rfl rfl rfl rfl rfl rfl rfl ⟨rfl, rfl⟩ ⟨rfl, rfl⟩ ⟨hk, hn9⟩ rfl dL_law_444 (fun v Y hE => ?_)
      obtain ⟨rfl, rfl⟩ := hE
      refine ⟨rfl, ?_⟩
      dsimp only [vfill, List.set_cons_zero, List.set_cons_succ, Option.toList, List.cons_append, List.nil_append, Nat.add_zero]
      refine V_top (b := 2) rfl ?_
      refine V_iload (i := 5) dL_law_447 rfl ?_
      refine V_icmp_eq (tgt := 454) (by omega) (by omega) dL_law_449 rfl (fun h_449 => ?_) (fun h_449 => ?_)
      · refine V_iload (i := 5) dL_law_454 rfl ?_
        refine V_if_ne (tgt := 471) (by omega) dL_law_456 rfl (fun h_456 => ?_) (fun h_456 => ?_)
        · refine V_goto (tgt := 1635) dL_law_471 rfl ?_
          exact kk (n, tx, r, ho, hs, zf, wo, sn, e, t, s0, s1, (va_up z 0 2), rr, g, tr, d, kp, ik, y, mt, _) _ _ _ _ ⟨⟨(up_n (by decide)).trans h1, hn, ht, hr, he, het, hR, hH.upd (by decide), hS⟩, hW.upd (by decide) (by decide)⟩ (by omega) (by omega)
        · exfalso; omega
      · exfalso; omega
    · exfalso
      omega

set_option maxHeartbeats 4000000 in
set_option maxRecDepth 100000 in
theorem L_about (l : Launch) (hst : l.stackTraces = false) (G : vG) (Γ : vF) (b Ls : Nat) (xs : Nat → Int32) (hS9 : vScr Γ b Ls xs) (hE9 : vE9 Γ.2.2.1) (hZ9 : vZ Γ.2.2.2.2.2.2.2.2.2 Γ.2.2.1 Γ.2.2.1.heap) (hN9 : vNC Γ.2.2.1) (A : Nat → Nat) (ea : Nat → Nat → Nat) (B : Nat → Nat) (ou i k n9 : Nat) (hi6 : i + 6 ≤ Ls) (hk : k + 1 ≤ 601024) (hn9 : n9 + 6 ≤ 7293034) (p1 : Nat) (hp1 : p1 < 4294967296) (e1 : xs (i + 1) = nI p1) (n : Nat) (tx r ho : Nat → Nat) (hs : Nat → vE) (zf wo sn : Nat → Nat) (e t s0 s1 : vE) (z rr g tr d kp ik y mt : Nat → Nat) (fo : Nat → Int64) (hI : LX (n, tx, r, ho, hs, zf, wo, sn, e, t, s0, s1, z, rr, g, tr, d, kp, ik, y, mt, fo)) (u5 u6 : Option Value)
    (kk : ∀ (σ : LSt) (k9 n8 : Nat) (v5 v6 : Option Value), LX σ → k9 ≤ k + 1 → n8 ≤ n9 + 6 → V l G (cL_law, 7, wsL_law, RL, room_1) Γ k9 n8 1635 [some (.ref b), some (.ref (A 0)), some (.ref (B 0)), some (.ref ou), some (.int (nI i)), v5, v6] [] (W25 G A ea B ou σ)) :
    V l G (cL_law, 7, wsL_law, RL, room_1) Γ k n9 282 [some (.ref b), some (.ref (A 0)), some (.ref (B 0)), some (.ref ou), some (.int (nI i)), u5, u6] [] [oO A ea n, iA G (A 1) 140 tx, tR (A 2) r, eK G (ea 14) e, eK G (ea 15) t, hO (A 3) (A 7) ho, hA G (A 7) ea, hK G ea hs, sA G A ea, zA G (A 5) 2 zf, wO (A 6) (A 8) wo, iA G (A 8) 96 sn, eK G (ea 16) s0, eK G (ea 17) s1, mO B z, iA G (B 1) 140 tx, iA G (B 2) 427 rr, iA G (B 3) 427 g, iA G (B 4) 427 tr, iA G (B 5) 5978 d, iA G (B 6) 854 kp, zA G (B 7) 2 ik, iA G (B 8) 96 y, zA G (B 9) 96 mt, lA G ou fo] := by
  obtain ⟨⟨h1, hn, ht, hr, he, het, hR, hH, hS⟩, hW⟩ := id hI
  have hgB := gB_of hR he
  refine V_aload_n (i := 1) dL_law_282 rfl rfl ?_
  refine V_aload_n (i := 0) dL_law_283 rfl rfl ?_
  refine V_iload (i := 4) dL_law_284 rfl ?_
  refine V_iconst (v := 1) dL_law_286 rfl ?_
  refine V_iadd dL_law_287 ?_
  refine V_sld hS9 (by omega) e1 dL_law_288 ?_
  refine V_aload_n (i := 3) dL_law_289 rfl rfl ?_
  refine V_callSW (As := _) (rest := []) [0, 3, 24] hE9 hZ9 hN9 (c_L_about l hst G A ea n p1 e he hp1 ou fo) rfl ⟨by decide +kernel, by decide +kernel, by simp only [List.length_cons, List.length_nil]; decide +kernel⟩ gL_law_L_about rfl rfl rfl rfl ⟨rfl, rfl⟩ ⟨rfl, rfl⟩ ⟨hk, hn9⟩ rfl dL_law_290 (fun v Y hE => ?_)
  rcases hE with ⟨hc, rfl, rfl⟩ | ⟨hc, rfl, rfl⟩
  · refine ⟨rfl, ?_⟩
    dsimp only [vfill, List.set_cons_zero, List.set_cons_succ, Option.toList, List.cons_append, List.nil_append, Nat.add_zero]
    refine V_istore (i := 5) dL_law_293 rfl rfl ?_
    dsimp only [List.set_cons_zero, List.set_cons_succ]
    refine V_aload_n (i := 2) dL_law_295 rfl rfl ?_
    refine V_aload_n (i := 0) dL_law_296 rfl rfl ?_
    refine V_iload (i := 4) dL_law_297 rfl ?_
    refine V_iconst (v := 1) dL_law_299 rfl ?_
    refine V_iadd dL_law_300 ?_
    refine V_sld hS9 (by omega) e1 dL_law_301 ?_
    refine V_callV (C := RX7) (q := 0) (ci := 6) (As := _) (rest := []) [14, 17] (c_X7_about l G B z g p1 hp1 hgB) vy_X7_about gL_law_X7_about rfl rfl rfl rfl rfl rfl rfl ⟨rfl, rfl⟩ ⟨rfl, rfl⟩ ⟨hk, hn9⟩ rfl dL_law_302 (fun v Y hE => ?_)
    rcases hE with ⟨m1, rfl, rfl⟩ | ⟨m1, rfl, rfl⟩
    · exfalso
      omega
    · refine ⟨rfl, ?_⟩
      dsimp only [vfill, w3, List.set_cons_zero, List.set_cons_succ, Option.toList, List.cons_append, List.nil_append, Nat.add_zero]
      have hv := congrArg nI (hR.about (w := p1) he).symm
      refine V_istore (i := 6) dL_law_305 rfl rfl ?_
      dsimp only [List.set_cons_zero, List.set_cons_succ]
      refine V_aload_n (i := 2) dL_law_307 rfl rfl ?_
      refine V_callV (C := RX7) (q := 0) (ci := 6) (As := []) (rest := []) [14] (c_X7_thrown l G B (va_up z 0 0)) vy_X7_thrown gL_law_X7_thrown rfl rfl rfl rfl rfl rfl rfl ⟨rfl, rfl⟩ ⟨rfl, rfl⟩ ⟨hk, hn9⟩ rfl dL_law_308 (fun v Y hE => ?_)
      obtain ⟨rfl, rfl⟩ := hE
      refine ⟨rfl, ?_⟩
      dsimp only [vfill, List.set_cons_zero, List.set_cons_succ, Option.toList, List.cons_append, List.nil_append, Nat.add_zero]
      refine V_top (b := 0) rfl ?_
      refine V_iload (i := 5) dL_law_311 rfl ?_
      refine V_icmp_eq (tgt := 318) (by omega) (by omega) dL_law_313 rfl (fun h_313 => ?_) (fun h_313 => ?_)
      · refine V_iload (i := 5) dL_law_318 rfl ?_
        refine V_if_ne (tgt := 335) (by omega) dL_law_320 rfl (fun h_320 => ?_) (fun h_320 => ?_)
        · exfalso; omega
        · refine V_aload_n (i := 3) dL_law_323 rfl rfl ?_
          refine V_iconst (v := 0) dL_law_324 rfl ?_
          refine V_lald (q := 24) rfl (by omega) rfl dL_law_325 ?_
          refine V_iload (i := 6) dL_law_326 rfl ?_
          refine V_i2l dL_law_328 ?_
          refine V_lcmp (v := 0) dL_law_329 (lcq hv) ?_
          refine V_if_eq (tgt := 335) (by omega) dL_law_330 rfl (fun h_330 => ?_) (fun h_330 => ?_)
          · refine V_goto (tgt := 1635) dL_law_335 rfl ?_
            exact kk (n, tx, r, ho, hs, zf, wo, sn, e, t, s0, s1, (va_up z 0 0), rr, g, tr, d, kp, ik, y, mt, _) _ _ _ _ ⟨⟨(up_n (by decide)).trans h1, hn, ht, hr, he, het, hR, hH.upd (by decide), hS⟩, hW.upd (by decide) (by decide)⟩ (by omega) (by omega)
          · exfalso; omega
      · exfalso; omega
  · refine ⟨rfl, ?_⟩
    dsimp only [vfill, List.set_cons_zero, List.set_cons_succ, Option.toList, List.cons_append, List.nil_append, Nat.add_zero]
    refine V_istore (i := 5) dL_law_293 rfl rfl ?_
    dsimp only [List.set_cons_zero, List.set_cons_succ]
    refine V_aload_n (i := 2) dL_law_295 rfl rfl ?_
    refine V_aload_n (i := 0) dL_law_296 rfl rfl ?_
    refine V_iload (i := 4) dL_law_297 rfl ?_
    refine V_iconst (v := 1) dL_law_299 rfl ?_
    refine V_iadd dL_law_300 ?_
    refine V_sld hS9 (by omega) e1 dL_law_301 ?_
    refine V_callV (C := RX7) (q := 0) (ci := 6) (As := _) (rest := []) [14, 17] (c_X7_about l G B z g p1 hp1 hgB) vy_X7_about gL_law_X7_about rfl rfl rfl rfl rfl rfl rfl ⟨rfl, rfl⟩ ⟨rfl, rfl⟩ ⟨hk, hn9⟩ rfl dL_law_302 (fun v Y hE => ?_)
    rcases hE with ⟨m1, rfl, rfl⟩ | ⟨m1, rfl, rfl⟩
    · refine ⟨rfl, ?_⟩
      dsimp only [vfill, w3, List.set_cons_zero, List.set_cons_succ, Option.toList, List.cons_append, List.nil_append, Nat.add_zero]
      refine V_istore (i := 6) dL_law_305 rfl rfl ?_
      dsimp only [List.set_cons_zero, List.set_cons_succ]
      refine V_aload_n (i := 2) dL_law_307 rfl rfl ?_
      refine V_callV (C := RX7) (q := 0) (ci := 6) (As := []) (rest := []) [14] (c_X7_thrown l G B (va_up z 0 1)) vy_X7_thrown gL_law_X7_thrown rfl rfl rfl rfl rfl rfl rfl ⟨rfl, rfl⟩ ⟨rfl, rfl⟩ ⟨hk, hn9⟩ rfl dL_law_308 (fun v Y hE => ?_)
      obtain ⟨rfl, rfl⟩ := hE
      refine ⟨rfl, ?_⟩
      dsimp only [vfill, List.set_cons_zero, List.set_cons_succ, Option.toList, List.cons_append, List.nil_append, Nat.add_zero]
      refine V_top (b := 1) rfl ?_
      refine V_iload (i := 5) dL_law_311 rfl ?_
      refine V_icmp_eq (tgt := 318) (by omega) (by omega) dL_law_313 rfl (fun h_313 => ?_) (fun h_313 => ?_)
      · refine V_iload (i := 5) dL_law_318 rfl ?_
        refine V_if_ne (tgt := 335) (by omega) dL_law_320 rfl (fun h_320 => ?_) (fun h_320 => ?_)
        · refine V_goto (tgt := 1635) dL_law_335 rfl ?_
          exact kk (n, tx, r, ho, hs, zf, wo, sn, e, t, s0, s1, (va_up z 0 1), rr, g, tr, d, kp, ik, y, mt, _) _ _ _ _ ⟨⟨(up_n (by decide)).trans h1, hn, ht, hr, he, het, hR, hH.upd (by decide), hS⟩, hW.upd (by decide) (by decide)⟩ (by omega) (by omega)
        · exfalso; omega
      · exfalso; omega
    · exfalso
      omega

set_option maxHeartbeats 4000000 in
set_option maxRecDepth 100000 in
theorem L_chain (l : Launch) (hst : l.stackTraces = false) (G : vG) (Γ : vF) (b Ls : Nat) (xs : Nat → Int32) (hS9 : vScr Γ b Ls xs) (hE9 : vE9 Γ.2.2.1) (hZ9 : vZ Γ.2.2.2.2.2.2.2.2.2 Γ.2.2.1 Γ.2.2.1.heap) (hN9 : vNC Γ.2.2.1) (A : Nat → Nat) (ea : Nat → Nat → Nat) (B : Nat → Nat) (ou i k n9 : Nat) (hi6 : i + 6 ≤ Ls) (hk : k + 1 ≤ 601024) (hn9 : n9 + 6 ≤ 7293034) (p1 : Nat) (hp1 : p1 < 4294967296) (e1 : xs (i + 1) = nI p1) (p2 : Nat) (hp2 : p2 < 4294967296) (e2 : xs (i + 2) = nI p2) (n : Nat) (tx r ho : Nat → Nat) (hs : Nat → vE) (zf wo sn : Nat → Nat) (e t s0 s1 : vE) (z rr g tr d kp ik y mt : Nat → Nat) (fo : Nat → Int64) (hI : LX (n, tx, r, ho, hs, zf, wo, sn, e, t, s0, s1, z, rr, g, tr, d, kp, ik, y, mt, fo)) (u5 u6 : Option Value)
    (kk : ∀ (σ : LSt) (k9 n8 : Nat) (v5 v6 : Option Value), LX σ → k9 ≤ k + 1 → n8 ≤ n9 + 6 → V l G (cL_law, 7, wsL_law, RL, room_1) Γ k9 n8 1635 [some (.ref b), some (.ref (A 0)), some (.ref (B 0)), some (.ref ou), some (.int (nI i)), v5, v6] [] (W25 G A ea B ou σ)) :
    V l G (cL_law, 7, wsL_law, RL, room_1) Γ k n9 474 [some (.ref b), some (.ref (A 0)), some (.ref (B 0)), some (.ref ou), some (.int (nI i)), u5, u6] [] [oO A ea n, iA G (A 1) 140 tx, tR (A 2) r, eK G (ea 14) e, eK G (ea 15) t, hO (A 3) (A 7) ho, hA G (A 7) ea, hK G ea hs, sA G A ea, zA G (A 5) 2 zf, wO (A 6) (A 8) wo, iA G (A 8) 96 sn, eK G (ea 16) s0, eK G (ea 17) s1, mO B z, iA G (B 1) 140 tx, iA G (B 2) 427 rr, iA G (B 3) 427 g, iA G (B 4) 427 tr, iA G (B 5) 5978 d, iA G (B 6) 854 kp, zA G (B 7) 2 ik, iA G (B 8) 96 y, zA G (B 9) 96 mt, lA G ou fo] := by
  obtain ⟨⟨h1, hn, ht, hr, he, het, hR, hH, hS⟩, hW⟩ := id hI
  have hgB := gB_of hR he
  refine V_aload_n (i := 1) dL_law_474 rfl rfl ?_
  refine V_aload_n (i := 0) dL_law_475 rfl rfl ?_
  refine V_iload (i := 4) dL_law_476 rfl ?_
  refine V_iconst (v := 1) dL_law_478 rfl ?_
  refine V_iadd dL_law_479 ?_
  refine V_sld hS9 (by omega) e1 dL_law_480 ?_
  refine V_aload_n (i := 0) dL_law_481 rfl rfl ?_
  refine V_iload (i := 4) dL_law_482 rfl ?_
  refine V_iconst (v := 2) dL_law_484 rfl ?_
  refine V_iadd dL_law_485 ?_
  refine V_sld hS9 (by omega) e2 dL_law_486 ?_
  refine V_aload_n (i := 3) dL_law_487 rfl rfl ?_
  refine V_callSW (As := _) (rest := []) [0, 10, 11, 3, 24] hE9 hZ9 hN9 (c_L_chain l hst G A ea wo sn n p1 p2 e he hp1 hp2 ou fo) rfl ⟨by decide +kernel, by decide +kernel, by simp only [List.length_cons, List.length_nil]; decide +kernel⟩ gL_law_L_chain rfl rfl rfl rfl ⟨rfl, rfl⟩ ⟨rfl, rfl⟩ ⟨hk, hn9⟩ rfl dL_law_488 (fun v Y hE => ?_)
  rcases hE with ⟨hc, rfl, rfl⟩ | ⟨hc, rfl, rfl⟩ | ⟨hc, rfl, rfl⟩
  · refine ⟨rfl, ?_⟩
    dsimp only [vfill, List.set_cons_zero, List.set_cons_succ, Option.toList, List.cons_append, List.nil_append, Nat.add_zero]
    refine V_istore (i := 5) dL_law_491 rfl rfl ?_
    dsimp only [List.set_cons_zero, List.set_cons_succ]
    refine V_aload_n (i := 2) dL_law_493 rfl rfl ?_
    refine V_aload_n (i := 0) dL_law_494 rfl rfl ?_
    refine V_iload (i := 4) dL_law_495 rfl ?_
    refine V_iconst (v := 1) dL_law_497 rfl ?_
    refine V_iadd dL_law_498 ?_
    refine V_sld hS9 (by omega) e1 dL_law_499 ?_
    refine V_aload_n (i := 0) dL_law_500 rfl rfl ?_
    refine V_iload (i := 4) dL_law_501 rfl ?_
    refine V_iconst (v := 2) dL_law_503 rfl ?_
    refine V_iadd dL_law_504 ?_
    refine V_sld hS9 (by omega) e2 dL_law_505 ?_
    refine V_callV (C := RX7) (q := 0) (ci := 6) (As := _) (rest := []) [14, 17, 23] (c_X7_chain l G B z g mt p1 p2 hp1 hp2 hgB.1) vy_X7_chain gL_law_X7_chain rfl rfl rfl rfl rfl rfl rfl ⟨rfl, rfl⟩ ⟨rfl, rfl⟩ ⟨hk, hn9⟩ rfl dL_law_506 (fun v Y hE => ?_)
    rcases hE with ⟨m1, rfl, rfl⟩ | ⟨m1, m2, rfl, rfl⟩ | ⟨m1, m2, rfl, rfl⟩
    · exfalso
      omega
    · exfalso
      omega
    · refine ⟨rfl, ?_⟩
      dsimp only [vfill, w3, List.set_cons_zero, List.set_cons_succ, Option.toList, List.cons_append, List.nil_append, Nat.add_zero]
      have hfl := flC_cong (f := g) (f' := e.1) (fun k hk => hR.1 k hk) 97 (s := fiK 96 mt) (s' := fil 0 sn) 0 p1 (fun k hk => by unfold fiK fil; rw [if_pos hk, if_pos hk])
      have hv : nI (if p2 = 0 then (flC e.1 97 (fil 0 sn) 0 p1).1 else (flC e.1 97 (fil 0 sn) 0 p1).2.1) = nI (if p2 = 0 then (flC g 97 (fiK 96 mt) 0 p1).1 else (flC g 97 (fiK 96 mt) 0 p1).2.1) := by rw [hfl.1, hfl.2]
      refine V_istore (i := 6) dL_law_509 rfl rfl ?_
      dsimp only [List.set_cons_zero, List.set_cons_succ]
      refine V_aload_n (i := 2) dL_law_511 rfl rfl ?_
      refine V_callV (C := RX7) (q := 0) (ci := 6) (As := []) (rest := []) [14] (c_X7_thrown l G B (va_up z 0 0)) vy_X7_thrown gL_law_X7_thrown rfl rfl rfl rfl rfl rfl rfl ⟨rfl, rfl⟩ ⟨rfl, rfl⟩ ⟨hk, hn9⟩ rfl dL_law_512 (fun v Y hE => ?_)
      obtain ⟨rfl, rfl⟩ := hE
      refine ⟨rfl, ?_⟩
      dsimp only [vfill, List.set_cons_zero, List.set_cons_succ, Option.toList, List.cons_append, List.nil_append, Nat.add_zero]
      refine V_top (b := 0) rfl ?_
      refine V_iload (i := 5) dL_law_515 rfl ?_
      refine V_icmp_eq (tgt := 522) (by omega) (by omega) dL_law_517 rfl (fun h_517 => ?_) (fun h_517 => ?_)
      · refine V_iload (i := 5) dL_law_522 rfl ?_
        refine V_if_ne (tgt := 539) (by omega) dL_law_524 rfl (fun h_524 => ?_) (fun h_524 => ?_)
        · exfalso; omega
        · refine V_aload_n (i := 3) dL_law_527 rfl rfl ?_
          refine V_iconst (v := 0) dL_law_528 rfl ?_
          refine V_lald (q := 24) rfl (by omega) rfl dL_law_529 ?_
          refine V_iload (i := 6) dL_law_530 rfl ?_
          refine V_i2l dL_law_532 ?_
          refine V_lcmp (v := 0) dL_law_533 (lcq hv) ?_
          refine V_if_eq (tgt := 539) (by omega) dL_law_534 rfl (fun h_534 => ?_) (fun h_534 => ?_)
          · refine V_goto (tgt := 1635) dL_law_539 rfl ?_
            exact kk (n, tx, r, ho, hs, zf, _, _, e, t, s0, s1, (va_up z 0 0), rr, g, tr, d, kp, ik, y, _, _) _ _ _ _ ⟨⟨(up_n (by decide)).trans h1, hn, ht, hr, he, het, hR, hH.upd (by decide), hS⟩, hW.upd (by decide) (by decide)⟩ (by omega) (by omega)
          · exfalso; omega
      · exfalso; omega
  · refine ⟨rfl, ?_⟩
    dsimp only [vfill, List.set_cons_zero, List.set_cons_succ, Option.toList, List.cons_append, List.nil_append, Nat.add_zero]
    refine V_istore (i := 5) dL_law_491 rfl rfl ?_
    dsimp only [List.set_cons_zero, List.set_cons_succ]
    refine V_aload_n (i := 2) dL_law_493 rfl rfl ?_
    refine V_aload_n (i := 0) dL_law_494 rfl rfl ?_
    refine V_iload (i := 4) dL_law_495 rfl ?_
    refine V_iconst (v := 1) dL_law_497 rfl ?_
    refine V_iadd dL_law_498 ?_
    refine V_sld hS9 (by omega) e1 dL_law_499 ?_
    refine V_aload_n (i := 0) dL_law_500 rfl rfl ?_
    refine V_iload (i := 4) dL_law_501 rfl ?_
    refine V_iconst (v := 2) dL_law_503 rfl ?_
    refine V_iadd dL_law_504 ?_
    refine V_sld hS9 (by omega) e2 dL_law_505 ?_
    refine V_callV (C := RX7) (q := 0) (ci := 6) (As := _) (rest := []) [14, 17, 23] (c_X7_chain l G B z g mt p1 p2 hp1 hp2 hgB.1) vy_X7_chain gL_law_X7_chain rfl rfl rfl rfl rfl rfl rfl ⟨rfl, rfl⟩ ⟨rfl, rfl⟩ ⟨hk, hn9⟩ rfl dL_law_506 (fun v Y hE => ?_)
    rcases hE with ⟨m1, rfl, rfl⟩ | ⟨m1, m2, rfl, rfl⟩ | ⟨m1, m2, rfl, rfl⟩
    · refine ⟨rfl, ?_⟩
      dsimp only [vfill, w3, List.set_cons_zero, List.set_cons_succ, Option.toList, List.cons_append, List.nil_append, Nat.add_zero]
      refine V_istore (i := 6) dL_law_509 rfl rfl ?_
      dsimp only [List.set_cons_zero, List.set_cons_succ]
      refine V_aload_n (i := 2) dL_law_511 rfl rfl ?_
      refine V_callV (C := RX7) (q := 0) (ci := 6) (As := []) (rest := []) [14] (c_X7_thrown l G B (va_up z 0 1)) vy_X7_thrown gL_law_X7_thrown rfl rfl rfl rfl rfl rfl rfl ⟨rfl, rfl⟩ ⟨rfl, rfl⟩ ⟨hk, hn9⟩ rfl dL_law_512 (fun v Y hE => ?_)
      obtain ⟨rfl, rfl⟩ := hE
      refine ⟨rfl, ?_⟩
      dsimp only [vfill, List.set_cons_zero, List.set_cons_succ, Option.toList, List.cons_append, List.nil_append, Nat.add_zero]
      refine V_top (b := 1) rfl ?_
      refine V_iload (i := 5) dL_law_515 rfl ?_
      refine V_icmp_eq (tgt := 522) (by omega) (by omega) dL_law_517 rfl (fun h_517 => ?_) (fun h_517 => ?_)
      · refine V_iload (i := 5) dL_law_522 rfl ?_
        refine V_if_ne (tgt := 539) (by omega) dL_law_524 rfl (fun h_524 => ?_) (fun h_524 => ?_)
        · refine V_goto (tgt := 1635) dL_law_539 rfl ?_
          exact kk (n, tx, r, ho, hs, zf, _, _, e, t, s0, s1, (va_up z 0 1), _, g, tr, d, kp, ik, y, _, _) _ _ _ _ ⟨⟨(up_n (by decide)).trans h1, hn, ht, hr, he, het, hR, hH.upd (by decide), hS⟩, hW.upd (by decide) (by decide)⟩ (by omega) (by omega)
        · exfalso; omega
      · exfalso; omega
    · exfalso
      omega
    · exfalso
      omega
  · refine ⟨rfl, ?_⟩
    dsimp only [vfill, List.set_cons_zero, List.set_cons_succ, Option.toList, List.cons_append, List.nil_append, Nat.add_zero]
    refine V_istore (i := 5) dL_law_491 rfl rfl ?_
    dsimp only [List.set_cons_zero, List.set_cons_succ]
    refine V_aload_n (i := 2) dL_law_493 rfl rfl ?_
    refine V_aload_n (i := 0) dL_law_494 rfl rfl ?_
    refine V_iload (i := 4) dL_law_495 rfl ?_
    refine V_iconst (v := 1) dL_law_497 rfl ?_
    refine V_iadd dL_law_498 ?_
    refine V_sld hS9 (by omega) e1 dL_law_499 ?_
    refine V_aload_n (i := 0) dL_law_500 rfl rfl ?_
    refine V_iload (i := 4) dL_law_501 rfl ?_
    refine V_iconst (v := 2) dL_law_503 rfl ?_
    refine V_iadd dL_law_504 ?_
    refine V_sld hS9 (by omega) e2 dL_law_505 ?_
    refine V_callV (C := RX7) (q := 0) (ci := 6) (As := _) (rest := []) [14, 17, 23] (c_X7_chain l G B z g mt p1 p2 hp1 hp2 hgB.1) vy_X7_chain gL_law_X7_chain rfl rfl rfl rfl rfl rfl rfl ⟨rfl, rfl⟩ ⟨rfl, rfl⟩ ⟨hk, hn9⟩ rfl dL_law_506 (fun v Y hE => ?_)
    rcases hE with ⟨m1, rfl, rfl⟩ | ⟨m1, m2, rfl, rfl⟩ | ⟨m1, m2, rfl, rfl⟩
    · exfalso
      omega
    · refine ⟨rfl, ?_⟩
      dsimp only [vfill, w3, List.set_cons_zero, List.set_cons_succ, Option.toList, List.cons_append, List.nil_append, Nat.add_zero]
      refine V_istore (i := 6) dL_law_509 rfl rfl ?_
      dsimp only [List.set_cons_zero, List.set_cons_succ]
      refine V_aload_n (i := 2) dL_law_511 rfl rfl ?_
      refine V_callV (C := RX7) (q := 0) (ci := 6) (As := []) (rest := []) [14] (c_X7_thrown l G B (va_up z 0 2)) vy_X7_thrown gL_law_X7_thrown rfl rfl rfl rfl rfl rfl rfl ⟨rfl, rfl⟩ ⟨rfl, rfl⟩ ⟨hk, hn9⟩ rfl dL_law_512 (fun v Y hE => ?_)
      obtain ⟨rfl, rfl⟩ := hE
      refine ⟨rfl, ?_⟩
      dsimp only [vfill, List.set_cons_zero, List.set_cons_succ, Option.toList, List.cons_append, List.nil_append, Nat.add_zero]
      refine V_top (b := 2) rfl ?_
      refine V_iload (i := 5) dL_law_515 rfl ?_
      refine V_icmp_eq (tgt := 522) (by omega) (by omega) dL_law_517 rfl (fun h_517 => ?_) (fun h_517 => ?_)
      · refine V_iload (i := 5) dL_law_522 rfl ?_
        refine V_if_ne (tgt := 539) (by omega) dL_law_524 rfl (fun h_524 => ?_) (fun h_524 => ?_)
        · refine V_goto (tgt := 1635) dL_law_539 rfl ?_
          exact kk (n, tx, r, ho, hs, zf, _, _, e, t, s0, s1, (va_up z 0 2), _, g, tr, d, kp, ik, y, _, _) _ _ _ _ ⟨⟨(up_n (by decide)).trans h1, hn, ht, hr, he, het, hR, hH.upd (by decide), hS⟩, hW.upd (by decide) (by decide)⟩ (by omega) (by omega)
        · exfalso; omega
      · exfalso; omega
    · exfalso
      omega

set_option maxHeartbeats 4000000 in
set_option maxRecDepth 100000 in
theorem L_poke (l : Launch) (hst : l.stackTraces = false) (G : vG) (Γ : vF) (b Ls : Nat) (xs : Nat → Int32) (hS9 : vScr Γ b Ls xs) (hE9 : vE9 Γ.2.2.1) (hZ9 : vZ Γ.2.2.2.2.2.2.2.2.2 Γ.2.2.1 Γ.2.2.1.heap) (hN9 : vNC Γ.2.2.1) (A : Nat → Nat) (ea : Nat → Nat → Nat) (B : Nat → Nat) (ou i k n9 : Nat) (hi6 : i + 6 ≤ Ls) (hk : k + 1 ≤ 601024) (hn9 : n9 + 6 ≤ 7293034) (p1 : Nat) (hp1 : p1 < 4294967296) (e1 : xs (i + 1) = nI p1) (p2 : Nat) (hp2 : p2 < 4294967296) (e2 : xs (i + 2) = nI p2) (n : Nat) (tx r ho : Nat → Nat) (hs : Nat → vE) (zf wo sn : Nat → Nat) (e t s0 s1 : vE) (z rr g tr d kp ik y mt : Nat → Nat) (fo : Nat → Int64) (hI : LX (n, tx, r, ho, hs, zf, wo, sn, e, t, s0, s1, z, rr, g, tr, d, kp, ik, y, mt, fo)) (u5 u6 : Option Value)
    (kk : ∀ (σ : LSt) (k9 n8 : Nat) (v5 v6 : Option Value), LX σ → k9 ≤ k + 1 → n8 ≤ n9 + 6 → V l G (cL_law, 7, wsL_law, RL, room_1) Γ k9 n8 1635 [some (.ref b), some (.ref (A 0)), some (.ref (B 0)), some (.ref ou), some (.int (nI i)), v5, v6] [] (W25 G A ea B ou σ)) :
    V l G (cL_law, 7, wsL_law, RL, room_1) Γ k n9 542 [some (.ref b), some (.ref (A 0)), some (.ref (B 0)), some (.ref ou), some (.int (nI i)), u5, u6] [] [oO A ea n, iA G (A 1) 140 tx, tR (A 2) r, eK G (ea 14) e, eK G (ea 15) t, hO (A 3) (A 7) ho, hA G (A 7) ea, hK G ea hs, sA G A ea, zA G (A 5) 2 zf, wO (A 6) (A 8) wo, iA G (A 8) 96 sn, eK G (ea 16) s0, eK G (ea 17) s1, mO B z, iA G (B 1) 140 tx, iA G (B 2) 427 rr, iA G (B 3) 427 g, iA G (B 4) 427 tr, iA G (B 5) 5978 d, iA G (B 6) 854 kp, zA G (B 7) 2 ik, iA G (B 8) 96 y, zA G (B 9) 96 mt, lA G ou fo] := by
  obtain ⟨⟨h1, hn, ht, hr, he, het, hR, hH, hS⟩, hW⟩ := id hI
  have hz3 : z 3 ≤ 14 := by
    have := hH.2.2.1
    have := hH.2.1
    omega
  refine V_aload_n (i := 1) dL_law_542 rfl rfl ?_
  refine V_aload_n (i := 0) dL_law_543 rfl rfl ?_
  refine V_iload (i := 4) dL_law_544 rfl ?_
  refine V_iconst (v := 1) dL_law_546 rfl ?_
  refine V_iadd dL_law_547 ?_
  refine V_sld hS9 (by omega) e1 dL_law_548 ?_
  refine V_aload_n (i := 0) dL_law_549 rfl rfl ?_
  refine V_iload (i := 4) dL_law_550 rfl ?_
  refine V_iconst (v := 2) dL_law_552 rfl ?_
  refine V_iadd dL_law_553 ?_
  refine V_sld hS9 (by omega) e2 dL_law_554 ?_
  refine V_aload_n (i := 3) dL_law_555 rfl rfl ?_
  refine V_callSW (As := _) (rest := []) [0, 5, 6, 7, 3, 24] hE9 hZ9 hN9 (c_L_poke l hst G A ea ho hs n p1 p2 e he hH.1 hH.2.1 hp1 hp2 ou fo) rfl ⟨by decide +kernel, by decide +kernel, by simp only [List.length_cons, List.length_nil]; decide +kernel⟩ gL_law_L_poke rfl rfl rfl rfl ⟨rfl, rfl⟩ ⟨rfl, rfl⟩ ⟨hk, hn9⟩ rfl dL_law_556 (fun v Y hE => ?_)
  rcases hE with ⟨hc, rfl, rfl⟩ | ⟨hc, rfl, rfl⟩ | ⟨hc, rfl, rfl⟩
  · refine ⟨rfl, ?_⟩
    dsimp only [vfill, List.set_cons_zero, List.set_cons_succ, Option.toList, List.cons_append, List.nil_append, Nat.add_zero]
    refine V_istore (i := 5) dL_law_559 rfl rfl ?_
    dsimp only [List.set_cons_zero, List.set_cons_succ]
    refine V_aload_n (i := 2) dL_law_561 rfl rfl ?_
    refine V_aload_n (i := 0) dL_law_562 rfl rfl ?_
    refine V_iload (i := 4) dL_law_563 rfl ?_
    refine V_iconst (v := 1) dL_law_565 rfl ?_
    refine V_iadd dL_law_566 ?_
    refine V_sld hS9 (by omega) e1 dL_law_567 ?_
    refine V_aload_n (i := 0) dL_law_568 rfl rfl ?_
    refine V_iload (i := 4) dL_law_569 rfl ?_
    refine V_iconst (v := 2) dL_law_571 rfl ?_
    refine V_iadd dL_law_572 ?_
    refine V_sld hS9 (by omega) e2 dL_law_573 ?_
    refine V_callV (C := RX7) (q := 0) (ci := 6) (As := _) (rest := []) [14, 17, 19] (c_X7_poke l G B z g d p1 p2 hz3 hp1 hp2) vy_X7_poke gL_law_X7_poke rfl rfl rfl rfl rfl rfl rfl ⟨rfl, rfl⟩ ⟨rfl, rfl⟩ ⟨hk, hn9⟩ rfl dL_law_574 (fun v Y hE => ?_)
    rcases hE with ⟨m1, rfl, rfl⟩ | ⟨m1, m2, rfl, rfl⟩ | ⟨m1, m2, rfl, rfl⟩
    · exfalso
      omega
    · exfalso
      omega
    · refine ⟨rfl, ?_⟩
      dsimp only [vfill, w3, List.set_cons_zero, List.set_cons_succ, Option.toList, List.cons_append, List.nil_append, Nat.add_zero]
      have hv := congrArg nI (hR.1 p1 hc.1).symm
      refine V_istore (i := 6) dL_law_577 rfl rfl ?_
      dsimp only [List.set_cons_zero, List.set_cons_succ]
      refine V_aload_n (i := 2) dL_law_579 rfl rfl ?_
      refine V_callV (C := RX7) (q := 0) (ci := 6) (As := []) (rest := []) [14] (c_X7_thrown l G B (va_up (va_up z 0 0) 3 (rmA (z 3)))) vy_X7_thrown gL_law_X7_thrown rfl rfl rfl rfl rfl rfl rfl ⟨rfl, rfl⟩ ⟨rfl, rfl⟩ ⟨hk, hn9⟩ rfl dL_law_580 (fun v Y hE => ?_)
      obtain ⟨rfl, rfl⟩ := hE
      refine ⟨rfl, ?_⟩
      dsimp only [vfill, List.set_cons_zero, List.set_cons_succ, Option.toList, List.cons_append, List.nil_append, Nat.add_zero]
      refine V_top (b := 0) rfl ?_
      refine V_iload (i := 5) dL_law_583 rfl ?_
      refine V_icmp_eq (tgt := 590) (by omega) (by omega) dL_law_585 rfl (fun h_585 => ?_) (fun h_585 => ?_)
      · refine V_iload (i := 5) dL_law_590 rfl ?_
        refine V_if_ne (tgt := 607) (by omega) dL_law_592 rfl (fun h_592 => ?_) (fun h_592 => ?_)
        · exfalso; omega
        · refine V_aload_n (i := 3) dL_law_595 rfl rfl ?_
          refine V_iconst (v := 0) dL_law_596 rfl ?_
          refine V_lald (q := 24) rfl (by omega) rfl dL_law_597 ?_
          refine V_iload (i := 6) dL_law_598 rfl ?_
          refine V_i2l dL_law_600 ?_
          refine V_lcmp (v := 0) dL_law_601 (lcq hv) ?_
          refine V_if_eq (tgt := 607) (by omega) dL_law_602 rfl (fun h_602 => ?_) (fun h_602 => ?_)
          · refine V_goto (tgt := 1635) dL_law_607 rfl ?_
            exact kk (n, tx, r, (rmO ho), (rmH ho hs e), zf, wo, sn, (va_up e.1 p1 p2, e.2), t, s0, s1, (va_up (va_up z 0 0) 3 (rmA (z 3))), rr, (va_up g p1 p2), tr, (rmD (z 3) g d), kp, ik, y, mt, _) _ _ _ _ ⟨⟨(up_n (by decide)).trans ((up_n (by decide)).trans h1), hn, ht, hr, eB_setV he hc.2, het, hR.valu hc.1, hH.remember hR he up_s, hS⟩, (hW.upd (by decide) (by decide)).upd (by decide) (by decide)⟩ (by omega) (by omega)
          · exfalso; omega
      · exfalso; omega
  · refine ⟨rfl, ?_⟩
    dsimp only [vfill, List.set_cons_zero, List.set_cons_succ, Option.toList, List.cons_append, List.nil_append, Nat.add_zero]
    refine V_istore (i := 5) dL_law_559 rfl rfl ?_
    dsimp only [List.set_cons_zero, List.set_cons_succ]
    refine V_aload_n (i := 2) dL_law_561 rfl rfl ?_
    refine V_aload_n (i := 0) dL_law_562 rfl rfl ?_
    refine V_iload (i := 4) dL_law_563 rfl ?_
    refine V_iconst (v := 1) dL_law_565 rfl ?_
    refine V_iadd dL_law_566 ?_
    refine V_sld hS9 (by omega) e1 dL_law_567 ?_
    refine V_aload_n (i := 0) dL_law_568 rfl rfl ?_
    refine V_iload (i := 4) dL_law_569 rfl ?_
    refine V_iconst (v := 2) dL_law_571 rfl ?_
    refine V_iadd dL_law_572 ?_
    refine V_sld hS9 (by omega) e2 dL_law_573 ?_
    refine V_callV (C := RX7) (q := 0) (ci := 6) (As := _) (rest := []) [14, 17, 19] (c_X7_poke l G B z g d p1 p2 hz3 hp1 hp2) vy_X7_poke gL_law_X7_poke rfl rfl rfl rfl rfl rfl rfl ⟨rfl, rfl⟩ ⟨rfl, rfl⟩ ⟨hk, hn9⟩ rfl dL_law_574 (fun v Y hE => ?_)
    rcases hE with ⟨m1, rfl, rfl⟩ | ⟨m1, m2, rfl, rfl⟩ | ⟨m1, m2, rfl, rfl⟩
    · refine ⟨rfl, ?_⟩
      dsimp only [vfill, w3, List.set_cons_zero, List.set_cons_succ, Option.toList, List.cons_append, List.nil_append, Nat.add_zero]
      refine V_istore (i := 6) dL_law_577 rfl rfl ?_
      dsimp only [List.set_cons_zero, List.set_cons_succ]
      refine V_aload_n (i := 2) dL_law_579 rfl rfl ?_
      refine V_callV (C := RX7) (q := 0) (ci := 6) (As := []) (rest := []) [14] (c_X7_thrown l G B (va_up z 0 1)) vy_X7_thrown gL_law_X7_thrown rfl rfl rfl rfl rfl rfl rfl ⟨rfl, rfl⟩ ⟨rfl, rfl⟩ ⟨hk, hn9⟩ rfl dL_law_580 (fun v Y hE => ?_)
      obtain ⟨rfl, rfl⟩ := hE
      refine ⟨rfl, ?_⟩
      dsimp only [vfill, List.set_cons_zero, List.set_cons_succ, Option.toList, List.cons_append, List.nil_append, Nat.add_zero]
      refine V_top (b := 1) rfl ?_
      refine V_iload (i := 5) dL_law_583 rfl ?_
      refine V_icmp_eq (tgt := 590) (by omega) (by omega) dL_law_585 rfl (fun h_585 => ?_) (fun h_585 => ?_)
      · refine V_iload (i := 5) dL_law_590 rfl ?_
        refine V_if_ne (tgt := 607) (by omega) dL_law_592 rfl (fun h_592 => ?_) (fun h_592 => ?_)
        · refine V_goto (tgt := 1635) dL_law_607 rfl ?_
          exact kk (n, tx, r, ho, hs, zf, wo, sn, e, t, s0, s1, (va_up z 0 1), rr, g, tr, d, kp, ik, y, mt, _) _ _ _ _ ⟨⟨(up_n (by decide)).trans h1, hn, ht, hr, he, het, hR, hH.upd (by decide), hS⟩, hW.upd (by decide) (by decide)⟩ (by omega) (by omega)
        · exfalso; omega
      · exfalso; omega
    · exfalso
      omega
    · exfalso
      omega
  · refine ⟨rfl, ?_⟩
    dsimp only [vfill, List.set_cons_zero, List.set_cons_succ, Option.toList, List.cons_append, List.nil_append, Nat.add_zero]
    refine V_istore (i := 5) dL_law_559 rfl rfl ?_
    dsimp only [List.set_cons_zero, List.set_cons_succ]
    refine V_aload_n (i := 2) dL_law_561 rfl rfl ?_
    refine V_aload_n (i := 0) dL_law_562 rfl rfl ?_
    refine V_iload (i := 4) dL_law_563 rfl ?_
    refine V_iconst (v := 1) dL_law_565 rfl ?_
    refine V_iadd dL_law_566 ?_
    refine V_sld hS9 (by omega) e1 dL_law_567 ?_
    refine V_aload_n (i := 0) dL_law_568 rfl rfl ?_
    refine V_iload (i := 4) dL_law_569 rfl ?_
    refine V_iconst (v := 2) dL_law_571 rfl ?_
    refine V_iadd dL_law_572 ?_
    refine V_sld hS9 (by omega) e2 dL_law_573 ?_
    refine V_callV (C := RX7) (q := 0) (ci := 6) (As := _) (rest := []) [14, 17, 19] (c_X7_poke l G B z g d p1 p2 hz3 hp1 hp2) vy_X7_poke gL_law_X7_poke rfl rfl rfl rfl rfl rfl rfl ⟨rfl, rfl⟩ ⟨rfl, rfl⟩ ⟨hk, hn9⟩ rfl dL_law_574 (fun v Y hE => ?_)
    rcases hE with ⟨m1, rfl, rfl⟩ | ⟨m1, m2, rfl, rfl⟩ | ⟨m1, m2, rfl, rfl⟩
    · exfalso
      omega
    · refine ⟨rfl, ?_⟩
      dsimp only [vfill, w3, List.set_cons_zero, List.set_cons_succ, Option.toList, List.cons_append, List.nil_append, Nat.add_zero]
      refine V_istore (i := 6) dL_law_577 rfl rfl ?_
      dsimp only [List.set_cons_zero, List.set_cons_succ]
      refine V_aload_n (i := 2) dL_law_579 rfl rfl ?_
      refine V_callV (C := RX7) (q := 0) (ci := 6) (As := []) (rest := []) [14] (c_X7_thrown l G B (va_up z 0 2)) vy_X7_thrown gL_law_X7_thrown rfl rfl rfl rfl rfl rfl rfl ⟨rfl, rfl⟩ ⟨rfl, rfl⟩ ⟨hk, hn9⟩ rfl dL_law_580 (fun v Y hE => ?_)
      obtain ⟨rfl, rfl⟩ := hE
      refine ⟨rfl, ?_⟩
      dsimp only [vfill, List.set_cons_zero, List.set_cons_succ, Option.toList, List.cons_append, List.nil_append, Nat.add_zero]
      refine V_top (b := 2) rfl ?_
      refine V_iload (i := 5) dL_law_583 rfl ?_
      refine V_icmp_eq (tgt := 590) (by omega) (by omega) dL_law_585 rfl (fun h_585 => ?_) (fun h_585 => ?_)
      · refine V_iload (i := 5) dL_law_590 rfl ?_
        refine V_if_ne (tgt := 607) (by omega) dL_law_592 rfl (fun h_592 => ?_) (fun h_592 => ?_)
        · refine V_goto (tgt := 1635) dL_law_607 rfl ?_
          exact kk (n, tx, r, ho, hs, zf, wo, sn, e, t, s0, s1, (va_up z 0 2), rr, g, tr, d, kp, ik, y, mt, _) _ _ _ _ ⟨⟨(up_n (by decide)).trans h1, hn, ht, hr, he, het, hR, hH.upd (by decide), hS⟩, hW.upd (by decide) (by decide)⟩ (by omega) (by omega)
        · exfalso; omega
      · exfalso; omega
    · exfalso
      omega

set_option maxHeartbeats 4000000 in
set_option maxRecDepth 100000 in
theorem L_order (l : Launch) (hst : l.stackTraces = false) (G : vG) (Γ : vF) (b Ls : Nat) (xs : Nat → Int32) (hS9 : vScr Γ b Ls xs) (hE9 : vE9 Γ.2.2.1) (hZ9 : vZ Γ.2.2.2.2.2.2.2.2.2 Γ.2.2.1 Γ.2.2.1.heap) (hN9 : vNC Γ.2.2.1) (A : Nat → Nat) (ea : Nat → Nat → Nat) (B : Nat → Nat) (ou i k n9 : Nat) (hi6 : i + 6 ≤ Ls) (hk : k + 1 ≤ 601024) (hn9 : n9 + 6 ≤ 7293034) (p1 : Nat) (hp1 : p1 < 4294967296) (e1 : xs (i + 1) = nI p1) (p2 : Nat) (hp2 : p2 < 4294967296) (e2 : xs (i + 2) = nI p2) (p3 : Nat) (hp3 : p3 < 4294967296) (e3 : xs (i + 3) = nI p3) (p4 : Nat) (hp4 : p4 < 4294967296) (e4 : xs (i + 4) = nI p4) (p5 : Nat) (hp5 : p5 < 4294967296) (e5 : xs (i + 5) = nI p5) (n : Nat) (tx r ho : Nat → Nat) (hs : Nat → vE) (zf wo sn : Nat → Nat) (e t s0 s1 : vE) (z rr g tr d kp ik y mt : Nat → Nat) (fo : Nat → Int64) (hI : LX (n, tx, r, ho, hs, zf, wo, sn, e, t, s0, s1, z, rr, g, tr, d, kp, ik, y, mt, fo)) (u5 u6 : Option Value)
    (kk : ∀ (σ : LSt) (k9 n8 : Nat) (v5 v6 : Option Value), LX σ → k9 ≤ k + 1 → n8 ≤ n9 + 6 → V l G (cL_law, 7, wsL_law, RL, room_1) Γ k9 n8 1635 [some (.ref b), some (.ref (A 0)), some (.ref (B 0)), some (.ref ou), some (.int (nI i)), v5, v6] [] (W25 G A ea B ou σ)) :
    V l G (cL_law, 7, wsL_law, RL, room_1) Γ k n9 610 [some (.ref b), some (.ref (A 0)), some (.ref (B 0)), some (.ref ou), some (.int (nI i)), u5, u6] [] [oO A ea n, iA G (A 1) 140 tx, tR (A 2) r, eK G (ea 14) e, eK G (ea 15) t, hO (A 3) (A 7) ho, hA G (A 7) ea, hK G ea hs, sA G A ea, zA G (A 5) 2 zf, wO (A 6) (A 8) wo, iA G (A 8) 96 sn, eK G (ea 16) s0, eK G (ea 17) s1, mO B z, iA G (B 1) 140 tx, iA G (B 2) 427 rr, iA G (B 3) 427 g, iA G (B 4) 427 tr, iA G (B 5) 5978 d, iA G (B 6) 854 kp, zA G (B 7) 2 ik, iA G (B 8) 96 y, zA G (B 9) 96 mt, lA G ou fo] := by
  obtain ⟨⟨h1, hn, ht, hr, he, het, hR, hH, hS⟩, hW⟩ := id hI
  have hz3 : z 3 ≤ 14 := by
    have := hH.2.2.1
    have := hH.2.1
    omega
  refine V_aload_n (i := 1) dL_law_610 rfl rfl ?_
  refine V_aload_n (i := 0) dL_law_611 rfl rfl ?_
  refine V_iload (i := 4) dL_law_612 rfl ?_
  refine V_iconst (v := 1) dL_law_614 rfl ?_
  refine V_iadd dL_law_615 ?_
  refine V_sld hS9 (by omega) e1 dL_law_616 ?_
  refine V_aload_n (i := 0) dL_law_617 rfl rfl ?_
  refine V_iload (i := 4) dL_law_618 rfl ?_
  refine V_iconst (v := 2) dL_law_620 rfl ?_
  refine V_iadd dL_law_621 ?_
  refine V_sld hS9 (by omega) e2 dL_law_622 ?_
  refine V_aload_n (i := 0) dL_law_623 rfl rfl ?_
  refine V_iload (i := 4) dL_law_624 rfl ?_
  refine V_iconst (v := 3) dL_law_626 rfl ?_
  refine V_iadd dL_law_627 ?_
  refine V_sld hS9 (by omega) e3 dL_law_628 ?_
  refine V_aload_n (i := 0) dL_law_629 rfl rfl ?_
  refine V_iload (i := 4) dL_law_630 rfl ?_
  refine V_iconst (v := 4) dL_law_632 rfl ?_
  refine V_iadd dL_law_633 ?_
  refine V_sld hS9 (by omega) e4 dL_law_634 ?_
  refine V_aload_n (i := 0) dL_law_635 rfl rfl ?_
  refine V_iload (i := 4) dL_law_636 rfl ?_
  refine V_iconst (v := 5) dL_law_638 rfl ?_
  refine V_iadd dL_law_639 ?_
  refine V_sld hS9 (by omega) e5 dL_law_640 ?_
  refine V_aload_n (i := 3) dL_law_641 rfl rfl ?_
  refine V_callSW (As := _) (rest := []) [0, 5, 6, 7, 3, 24] hE9 hZ9 hN9 (c_L_order l hst G A ea ho hs n p1 p2 p3 p4 p5 e he hH.1 hH.2.1 hp1 hp2 hp3 hp4 hp5 ou fo) rfl ⟨by decide +kernel, by decide +kernel, by simp only [List.length_cons, List.length_nil]; decide +kernel⟩ gL_law_L_order rfl rfl rfl rfl ⟨rfl, rfl⟩ ⟨rfl, rfl⟩ ⟨hk, hn9⟩ rfl dL_law_642 (fun v Y hE => ?_)
  rcases hE with ⟨hc, rfl, rfl⟩ | ⟨hc, rfl, rfl⟩ | ⟨hc, rfl, rfl⟩
  · refine ⟨rfl, ?_⟩
    dsimp only [vfill, List.set_cons_zero, List.set_cons_succ, Option.toList, List.cons_append, List.nil_append, Nat.add_zero]
    refine V_istore (i := 5) dL_law_645 rfl rfl ?_
    dsimp only [List.set_cons_zero, List.set_cons_succ]
    refine V_aload_n (i := 2) dL_law_647 rfl rfl ?_
    refine V_aload_n (i := 0) dL_law_648 rfl rfl ?_
    refine V_iload (i := 4) dL_law_649 rfl ?_
    refine V_iconst (v := 1) dL_law_651 rfl ?_
    refine V_iadd dL_law_652 ?_
    refine V_sld hS9 (by omega) e1 dL_law_653 ?_
    refine V_aload_n (i := 0) dL_law_654 rfl rfl ?_
    refine V_iload (i := 4) dL_law_655 rfl ?_
    refine V_iconst (v := 2) dL_law_657 rfl ?_
    refine V_iadd dL_law_658 ?_
    refine V_sld hS9 (by omega) e2 dL_law_659 ?_
    refine V_aload_n (i := 0) dL_law_660 rfl rfl ?_
    refine V_iload (i := 4) dL_law_661 rfl ?_
    refine V_iconst (v := 3) dL_law_663 rfl ?_
    refine V_iadd dL_law_664 ?_
    refine V_sld hS9 (by omega) e3 dL_law_665 ?_
    refine V_aload_n (i := 0) dL_law_666 rfl rfl ?_
    refine V_iload (i := 4) dL_law_667 rfl ?_
    refine V_iconst (v := 4) dL_law_669 rfl ?_
    refine V_iadd dL_law_670 ?_
    refine V_sld hS9 (by omega) e4 dL_law_671 ?_
    refine V_aload_n (i := 0) dL_law_672 rfl rfl ?_
    refine V_iload (i := 4) dL_law_673 rfl ?_
    refine V_iconst (v := 5) dL_law_675 rfl ?_
    refine V_iadd dL_law_676 ?_
    refine V_sld hS9 (by omega) e5 dL_law_677 ?_
    refine V_callV (C := RX7) (q := 0) (ci := 6) (As := _) (rest := []) [14, 17, 19] (c_X7_order l G B z g d p1 p2 p3 p4 p5 hz3 hp1 hp2 hp3 hp4 hp5) vy_X7_order gL_law_X7_order rfl rfl rfl rfl rfl rfl rfl ⟨rfl, rfl⟩ ⟨rfl, rfl⟩ ⟨hk, hn9⟩ rfl dL_law_678 (fun v Y hE => ?_)
    rcases hE with ⟨m1, rfl, rfl⟩ | ⟨m1, m2, rfl, rfl⟩ | ⟨m1, m2, rfl, rfl⟩
    · exfalso
      omega
    · exfalso
      omega
    · refine ⟨rfl, ?_⟩
      dsimp only [vfill, w3, List.set_cons_zero, List.set_cons_succ, Option.toList, List.cons_append, List.nil_append, Nat.add_zero]
      have hv := congrArg nI (hR.1 p1 hc.1).symm
      refine V_istore (i := 6) dL_law_681 rfl rfl ?_
      dsimp only [List.set_cons_zero, List.set_cons_succ]
      refine V_aload_n (i := 2) dL_law_683 rfl rfl ?_
      refine V_callV (C := RX7) (q := 0) (ci := 6) (As := []) (rest := []) [14] (c_X7_thrown l G B (va_up (va_up z 0 0) 3 (rmA (z 3)))) vy_X7_thrown gL_law_X7_thrown rfl rfl rfl rfl rfl rfl rfl ⟨rfl, rfl⟩ ⟨rfl, rfl⟩ ⟨hk, hn9⟩ rfl dL_law_684 (fun v Y hE => ?_)
      obtain ⟨rfl, rfl⟩ := hE
      refine ⟨rfl, ?_⟩
      dsimp only [vfill, List.set_cons_zero, List.set_cons_succ, Option.toList, List.cons_append, List.nil_append, Nat.add_zero]
      refine V_top (b := 0) rfl ?_
      refine V_iload (i := 5) dL_law_687 rfl ?_
      refine V_icmp_eq (tgt := 694) (by omega) (by omega) dL_law_689 rfl (fun h_689 => ?_) (fun h_689 => ?_)
      · refine V_iload (i := 5) dL_law_694 rfl ?_
        refine V_if_ne (tgt := 711) (by omega) dL_law_696 rfl (fun h_696 => ?_) (fun h_696 => ?_)
        · exfalso; omega
        · refine V_aload_n (i := 3) dL_law_699 rfl rfl ?_
          refine V_iconst (v := 0) dL_law_700 rfl ?_
          refine V_lald (q := 24) rfl (by omega) rfl dL_law_701 ?_
          refine V_iload (i := 6) dL_law_702 rfl ?_
          refine V_i2l dL_law_704 ?_
          refine V_lcmp (v := 0) dL_law_705 (lcq hv) ?_
          refine V_if_eq (tgt := 711) (by omega) dL_law_706 rfl (fun h_706 => ?_) (fun h_706 => ?_)
          · refine V_goto (tgt := 1635) dL_law_711 rfl ?_
            exact kk (n, tx, r, (rmO ho), (rmH ho hs e), zf, wo, sn, (va_up (va_up (va_up (va_up (va_up (va_up e.1 p1 p2) (p1 + 1) p3) (p1 + 2) p4) (p1 + 3) p5) (p1 + 4) 1) (p1 + 5) (p1 + 6), e.2), t, s0, s1, (va_up (va_up z 0 0) 3 (rmA (z 3))), rr, (va_up (va_up (va_up (va_up (va_up (va_up g p1 p2) (p1 + 1) p3) (p1 + 2) p4) (p1 + 3) p5) (p1 + 4) 1) (p1 + 5) (p1 + 6)), tr, (rmD (z 3) g d), kp, ik, y, mt, _) _ _ _ _ ⟨⟨(up_n (by decide)).trans ((up_n (by decide)).trans h1), hn, ht, hr, eB_setV (eB_setV (eB_setV (eB_setV (eB_setV (eB_setV he hc.2.2.1) hc.2.2.2.1) hc.2.2.2.2.1) hc.2.2.2.2.2) (by decide)) (by omega), het, ((((((hR.valu hc.1).valu (by omega)).valu (by omega)).valu (by omega)).valu (by omega)).valu (by omega)), hH.remember hR he up_s, hS⟩, (hW.upd (by decide) (by decide)).upd (by decide) (by decide)⟩ (by omega) (by omega)
          · exfalso; omega
      · exfalso; omega
  · refine ⟨rfl, ?_⟩
    dsimp only [vfill, List.set_cons_zero, List.set_cons_succ, Option.toList, List.cons_append, List.nil_append, Nat.add_zero]
    refine V_istore (i := 5) dL_law_645 rfl rfl ?_
    dsimp only [List.set_cons_zero, List.set_cons_succ]
    refine V_aload_n (i := 2) dL_law_647 rfl rfl ?_
    refine V_aload_n (i := 0) dL_law_648 rfl rfl ?_
    refine V_iload (i := 4) dL_law_649 rfl ?_
    refine V_iconst (v := 1) dL_law_651 rfl ?_
    refine V_iadd dL_law_652 ?_
    refine V_sld hS9 (by omega) e1 dL_law_653 ?_
    refine V_aload_n (i := 0) dL_law_654 rfl rfl ?_
    refine V_iload (i := 4) dL_law_655 rfl ?_
    refine V_iconst (v := 2) dL_law_657 rfl ?_
    refine V_iadd dL_law_658 ?_
    refine V_sld hS9 (by omega) e2 dL_law_659 ?_
    refine V_aload_n (i := 0) dL_law_660 rfl rfl ?_
    refine V_iload (i := 4) dL_law_661 rfl ?_
    refine V_iconst (v := 3) dL_law_663 rfl ?_
    refine V_iadd dL_law_664 ?_
    refine V_sld hS9 (by omega) e3 dL_law_665 ?_
    refine V_aload_n (i := 0) dL_law_666 rfl rfl ?_
    refine V_iload (i := 4) dL_law_667 rfl ?_
    refine V_iconst (v := 4) dL_law_669 rfl ?_
    refine V_iadd dL_law_670 ?_
    refine V_sld hS9 (by omega) e4 dL_law_671 ?_
    refine V_aload_n (i := 0) dL_law_672 rfl rfl ?_
    refine V_iload (i := 4) dL_law_673 rfl ?_
    refine V_iconst (v := 5) dL_law_675 rfl ?_
    refine V_iadd dL_law_676 ?_
    refine V_sld hS9 (by omega) e5 dL_law_677 ?_
    refine V_callV (C := RX7) (q := 0) (ci := 6) (As := _) (rest := []) [14, 17, 19] (c_X7_order l G B z g d p1 p2 p3 p4 p5 hz3 hp1 hp2 hp3 hp4 hp5) vy_X7_order gL_law_X7_order rfl rfl rfl rfl rfl rfl rfl ⟨rfl, rfl⟩ ⟨rfl, rfl⟩ ⟨hk, hn9⟩ rfl dL_law_678 (fun v Y hE => ?_)
    rcases hE with ⟨m1, rfl, rfl⟩ | ⟨m1, m2, rfl, rfl⟩ | ⟨m1, m2, rfl, rfl⟩
    · refine ⟨rfl, ?_⟩
      dsimp only [vfill, w3, List.set_cons_zero, List.set_cons_succ, Option.toList, List.cons_append, List.nil_append, Nat.add_zero]
      refine V_istore (i := 6) dL_law_681 rfl rfl ?_
      dsimp only [List.set_cons_zero, List.set_cons_succ]
      refine V_aload_n (i := 2) dL_law_683 rfl rfl ?_
      refine V_callV (C := RX7) (q := 0) (ci := 6) (As := []) (rest := []) [14] (c_X7_thrown l G B (va_up z 0 1)) vy_X7_thrown gL_law_X7_thrown rfl rfl rfl rfl rfl rfl rfl ⟨rfl, rfl⟩ ⟨rfl, rfl⟩ ⟨hk, hn9⟩ rfl dL_law_684 (fun v Y hE => ?_)
      obtain ⟨rfl, rfl⟩ := hE
      refine ⟨rfl, ?_⟩
      dsimp only [vfill, List.set_cons_zero, List.set_cons_succ, Option.toList, List.cons_append, List.nil_append, Nat.add_zero]
      refine V_top (b := 1) rfl ?_
      refine V_iload (i := 5) dL_law_687 rfl ?_
      refine V_icmp_eq (tgt := 694) (by omega) (by omega) dL_law_689 rfl (fun h_689 => ?_) (fun h_689 => ?_)
      · refine V_iload (i := 5) dL_law_694 rfl ?_
        refine V_if_ne (tgt := 711) (by omega) dL_law_696 rfl (fun h_696 => ?_) (fun h_696 => ?_)
        · refine V_goto (tgt := 1635) dL_law_711 rfl ?_
          exact kk (n, tx, r, ho, hs, zf, wo, sn, e, t, s0, s1, (va_up z 0 1), rr, g, tr, d, kp, ik, y, mt, _) _ _ _ _ ⟨⟨(up_n (by decide)).trans h1, hn, ht, hr, he, het, hR, hH.upd (by decide), hS⟩, hW.upd (by decide) (by decide)⟩ (by omega) (by omega)
        · exfalso; omega
      · exfalso; omega
    · exfalso
      omega
    · exfalso
      omega
  · refine ⟨rfl, ?_⟩
    dsimp only [vfill, List.set_cons_zero, List.set_cons_succ, Option.toList, List.cons_append, List.nil_append, Nat.add_zero]
    refine V_istore (i := 5) dL_law_645 rfl rfl ?_
    dsimp only [List.set_cons_zero, List.set_cons_succ]
    refine V_aload_n (i := 2) dL_law_647 rfl rfl ?_
    refine V_aload_n (i := 0) dL_law_648 rfl rfl ?_
    refine V_iload (i := 4) dL_law_649 rfl ?_
    refine V_iconst (v := 1) dL_law_651 rfl ?_
    refine V_iadd dL_law_652 ?_
    refine V_sld hS9 (by omega) e1 dL_law_653 ?_
    refine V_aload_n (i := 0) dL_law_654 rfl rfl ?_
    refine V_iload (i := 4) dL_law_655 rfl ?_
    refine V_iconst (v := 2) dL_law_657 rfl ?_
    refine V_iadd dL_law_658 ?_
    refine V_sld hS9 (by omega) e2 dL_law_659 ?_
    refine V_aload_n (i := 0) dL_law_660 rfl rfl ?_
    refine V_iload (i := 4) dL_law_661 rfl ?_
    refine V_iconst (v := 3) dL_law_663 rfl ?_
    refine V_iadd dL_law_664 ?_
    refine V_sld hS9 (by omega) e3 dL_law_665 ?_
    refine V_aload_n (i := 0) dL_law_666 rfl rfl ?_
    refine V_iload (i := 4) dL_law_667 rfl ?_
    refine V_iconst (v := 4) dL_law_669 rfl ?_
    refine V_iadd dL_law_670 ?_
    refine V_sld hS9 (by omega) e4 dL_law_671 ?_
    refine V_aload_n (i := 0) dL_law_672 rfl rfl ?_
    refine V_iload (i := 4) dL_law_673 rfl ?_
    refine V_iconst (v := 5) dL_law_675 rfl ?_
    refine V_iadd dL_law_676 ?_
    refine V_sld hS9 (by omega) e5 dL_law_677 ?_
    refine V_callV (C := RX7) (q := 0) (ci := 6) (As := _) (rest := []) [14, 17, 19] (c_X7_order l G B z g d p1 p2 p3 p4 p5 hz3 hp1 hp2 hp3 hp4 hp5) vy_X7_order gL_law_X7_order rfl rfl rfl rfl rfl rfl rfl ⟨rfl, rfl⟩ ⟨rfl, rfl⟩ ⟨hk, hn9⟩ rfl dL_law_678 (fun v Y hE => ?_)
    rcases hE with ⟨m1, rfl, rfl⟩ | ⟨m1, m2, rfl, rfl⟩ | ⟨m1, m2, rfl, rfl⟩
    · exfalso
      omega
    · refine ⟨rfl, ?_⟩
      dsimp only [vfill, w3, List.set_cons_zero, List.set_cons_succ, Option.toList, List.cons_append, List.nil_append, Nat.add_zero]
      refine V_istore (i := 6) dL_law_681 rfl rfl ?_
      dsimp only [List.set_cons_zero, List.set_cons_succ]
      refine V_aload_n (i := 2) dL_law_683 rfl rfl ?_
      refine V_callV (C := RX7) (q := 0) (ci := 6) (As := []) (rest := []) [14] (c_X7_thrown l G B (va_up z 0 2)) vy_X7_thrown gL_law_X7_thrown rfl rfl rfl rfl rfl rfl rfl ⟨rfl, rfl⟩ ⟨rfl, rfl⟩ ⟨hk, hn9⟩ rfl dL_law_684 (fun v Y hE => ?_)
      obtain ⟨rfl, rfl⟩ := hE
      refine ⟨rfl, ?_⟩
      dsimp only [vfill, List.set_cons_zero, List.set_cons_succ, Option.toList, List.cons_append, List.nil_append, Nat.add_zero]
      refine V_top (b := 2) rfl ?_
      refine V_iload (i := 5) dL_law_687 rfl ?_
      refine V_icmp_eq (tgt := 694) (by omega) (by omega) dL_law_689 rfl (fun h_689 => ?_) (fun h_689 => ?_)
      · refine V_iload (i := 5) dL_law_694 rfl ?_
        refine V_if_ne (tgt := 711) (by omega) dL_law_696 rfl (fun h_696 => ?_) (fun h_696 => ?_)
        · refine V_goto (tgt := 1635) dL_law_711 rfl ?_
          exact kk (n, tx, r, ho, hs, zf, wo, sn, e, t, s0, s1, (va_up z 0 2), rr, g, tr, d, kp, ik, y, mt, _) _ _ _ _ ⟨⟨(up_n (by decide)).trans h1, hn, ht, hr, he, het, hR, hH.upd (by decide), hS⟩, hW.upd (by decide) (by decide)⟩ (by omega) (by omega)
        · exfalso; omega
      · exfalso; omega
    · exfalso
      omega

set_option maxHeartbeats 4000000 in
set_option maxRecDepth 100000 in
theorem L_own (l : Launch) (hst : l.stackTraces = false) (G : vG) (Γ : vF) (b Ls : Nat) (xs : Nat → Int32) (hS9 : vScr Γ b Ls xs) (hE9 : vE9 Γ.2.2.1) (hZ9 : vZ Γ.2.2.2.2.2.2.2.2.2 Γ.2.2.1 Γ.2.2.1.heap) (hN9 : vNC Γ.2.2.1) (A : Nat → Nat) (ea : Nat → Nat → Nat) (B : Nat → Nat) (ou i k n9 : Nat) (hi6 : i + 6 ≤ Ls) (hk : k + 1 ≤ 601024) (hn9 : n9 + 6 ≤ 7293034) (p1 : Nat) (hp1 : p1 < 4294967296) (e1 : xs (i + 1) = nI p1) (p2 : Nat) (hp2 : p2 < 4294967296) (e2 : xs (i + 2) = nI p2) (p3 : Nat) (hp3 : p3 < 4294967296) (e3 : xs (i + 3) = nI p3) (n : Nat) (tx r ho : Nat → Nat) (hs : Nat → vE) (zf wo sn : Nat → Nat) (e t s0 s1 : vE) (z rr g tr d kp ik y mt : Nat → Nat) (fo : Nat → Int64) (hI : LX (n, tx, r, ho, hs, zf, wo, sn, e, t, s0, s1, z, rr, g, tr, d, kp, ik, y, mt, fo)) (u5 u6 : Option Value)
    (kk : ∀ (σ : LSt) (k9 n8 : Nat) (v5 v6 : Option Value), LX σ → k9 ≤ k + 1 → n8 ≤ n9 + 6 → V l G (cL_law, 7, wsL_law, RL, room_1) Γ k9 n8 1635 [some (.ref b), some (.ref (A 0)), some (.ref (B 0)), some (.ref ou), some (.int (nI i)), v5, v6] [] (W25 G A ea B ou σ)) :
    V l G (cL_law, 7, wsL_law, RL, room_1) Γ k n9 714 [some (.ref b), some (.ref (A 0)), some (.ref (B 0)), some (.ref ou), some (.int (nI i)), u5, u6] [] [oO A ea n, iA G (A 1) 140 tx, tR (A 2) r, eK G (ea 14) e, eK G (ea 15) t, hO (A 3) (A 7) ho, hA G (A 7) ea, hK G ea hs, sA G A ea, zA G (A 5) 2 zf, wO (A 6) (A 8) wo, iA G (A 8) 96 sn, eK G (ea 16) s0, eK G (ea 17) s1, mO B z, iA G (B 1) 140 tx, iA G (B 2) 427 rr, iA G (B 3) 427 g, iA G (B 4) 427 tr, iA G (B 5) 5978 d, iA G (B 6) 854 kp, zA G (B 7) 2 ik, iA G (B 8) 96 y, zA G (B 9) 96 mt, lA G ou fo] := by
  obtain ⟨⟨h1, hn, ht, hr, he, het, hR, hH, hS⟩, hW⟩ := id hI
  have hgB := gB_of hR he
  have hz3 : z 3 ≤ 14 := by
    have := hH.2.2.1
    have := hH.2.1
    omega
  refine V_aload_n (i := 1) dL_law_714 rfl rfl ?_
  refine V_aload_n (i := 0) dL_law_715 rfl rfl ?_
  refine V_iload (i := 4) dL_law_716 rfl ?_
  refine V_iconst (v := 1) dL_law_718 rfl ?_
  refine V_iadd dL_law_719 ?_
  refine V_sld hS9 (by omega) e1 dL_law_720 ?_
  refine V_aload_n (i := 0) dL_law_721 rfl rfl ?_
  refine V_iload (i := 4) dL_law_722 rfl ?_
  refine V_iconst (v := 2) dL_law_724 rfl ?_
  refine V_iadd dL_law_725 ?_
  refine V_sld hS9 (by omega) e2 dL_law_726 ?_
  refine V_aload_n (i := 0) dL_law_727 rfl rfl ?_
  refine V_iload (i := 4) dL_law_728 rfl ?_
  refine V_iconst (v := 3) dL_law_730 rfl ?_
  refine V_iadd dL_law_731 ?_
  refine V_sld hS9 (by omega) e3 dL_law_732 ?_
  refine V_aload_n (i := 3) dL_law_733 rfl rfl ?_
  refine V_callSW (As := _) (rest := []) [0, 5, 6, 7, 3, 24] hE9 hZ9 hN9 (c_L_own l hst G A ea ho hs n p1 p2 p3 e he hH.1 hH.2.1 hp1 hp2 hp3 ou fo) rfl ⟨by decide +kernel, by decide +kernel, by simp only [List.length_cons, List.length_nil]; decide +kernel⟩ gL_law_L_own rfl rfl rfl rfl ⟨rfl, rfl⟩ ⟨rfl, rfl⟩ ⟨hk, hn9⟩ rfl dL_law_734 (fun v Y hE => ?_)
  rcases hE with ⟨hc, rfl, rfl⟩ | ⟨hc, rfl, rfl⟩ | ⟨hc, rfl, rfl⟩
  · refine ⟨rfl, ?_⟩
    dsimp only [vfill, List.set_cons_zero, List.set_cons_succ, Option.toList, List.cons_append, List.nil_append, Nat.add_zero]
    refine V_istore (i := 5) dL_law_737 rfl rfl ?_
    dsimp only [List.set_cons_zero, List.set_cons_succ]
    refine V_aload_n (i := 2) dL_law_739 rfl rfl ?_
    refine V_aload_n (i := 0) dL_law_740 rfl rfl ?_
    refine V_iload (i := 4) dL_law_741 rfl ?_
    refine V_iconst (v := 1) dL_law_743 rfl ?_
    refine V_iadd dL_law_744 ?_
    refine V_sld hS9 (by omega) e1 dL_law_745 ?_
    refine V_aload_n (i := 0) dL_law_746 rfl rfl ?_
    refine V_iload (i := 4) dL_law_747 rfl ?_
    refine V_iconst (v := 2) dL_law_749 rfl ?_
    refine V_iadd dL_law_750 ?_
    refine V_sld hS9 (by omega) e2 dL_law_751 ?_
    refine V_aload_n (i := 0) dL_law_752 rfl rfl ?_
    refine V_iload (i := 4) dL_law_753 rfl ?_
    refine V_iconst (v := 3) dL_law_755 rfl ?_
    refine V_iadd dL_law_756 ?_
    refine V_sld hS9 (by omega) e3 dL_law_757 ?_
    refine V_callV (C := RX7) (q := 0) (ci := 6) (As := _) (rest := []) [14, 17, 19] (c_X7_own l G B z g d p1 p2 p3 hz3 hp1 hp2 hp3 hgB.2.1) vy_X7_own gL_law_X7_own rfl rfl rfl rfl rfl rfl rfl ⟨rfl, rfl⟩ ⟨rfl, rfl⟩ ⟨hk, hn9⟩ rfl dL_law_758 (fun v Y hE => ?_)
    rcases hE with ⟨m1, rfl, rfl⟩ | ⟨m1, m2, rfl, rfl⟩ | ⟨m1, m2, rfl, rfl⟩
    · exfalso
      omega
    · exfalso
      omega
    · refine ⟨rfl, ?_⟩
      dsimp only [vfill, w3, List.set_cons_zero, List.set_cons_succ, Option.toList, List.cons_append, List.nil_append, Nat.add_zero]
      have hv := congrArg nI (hR.owned (c := p1) (m := sm p1 p2) (o := p3) (sm_le _ _)).symm
      refine V_istore (i := 6) dL_law_761 rfl rfl ?_
      dsimp only [List.set_cons_zero, List.set_cons_succ]
      refine V_aload_n (i := 2) dL_law_763 rfl rfl ?_
      refine V_callV (C := RX7) (q := 0) (ci := 6) (As := []) (rest := []) [14] (c_X7_thrown l G B (va_up (va_up z 0 0) 3 (rmA (z 3)))) vy_X7_thrown gL_law_X7_thrown rfl rfl rfl rfl rfl rfl rfl ⟨rfl, rfl⟩ ⟨rfl, rfl⟩ ⟨hk, hn9⟩ rfl dL_law_764 (fun v Y hE => ?_)
      obtain ⟨rfl, rfl⟩ := hE
      refine ⟨rfl, ?_⟩
      dsimp only [vfill, List.set_cons_zero, List.set_cons_succ, Option.toList, List.cons_append, List.nil_append, Nat.add_zero]
      refine V_top (b := 0) rfl ?_
      refine V_iload (i := 5) dL_law_767 rfl ?_
      refine V_icmp_eq (tgt := 774) (by omega) (by omega) dL_law_769 rfl (fun h_769 => ?_) (fun h_769 => ?_)
      · refine V_iload (i := 5) dL_law_774 rfl ?_
        refine V_if_ne (tgt := 791) (by omega) dL_law_776 rfl (fun h_776 => ?_) (fun h_776 => ?_)
        · exfalso; omega
        · refine V_aload_n (i := 3) dL_law_779 rfl rfl ?_
          refine V_iconst (v := 0) dL_law_780 rfl ?_
          refine V_lald (q := 24) rfl (by omega) rfl dL_law_781 ?_
          refine V_iload (i := 6) dL_law_782 rfl ?_
          refine V_i2l dL_law_784 ?_
          refine V_lcmp (v := 0) dL_law_785 (lcq hv) ?_
          refine V_if_eq (tgt := 791) (by omega) dL_law_786 rfl (fun h_786 => ?_) (fun h_786 => ?_)
          · refine V_goto (tgt := 1635) dL_law_791 rfl ?_
            exact kk (n, tx, r, (rmO ho), (rmH ho hs e), zf, wo, sn, (setO e (gvF p1 (sm p1 p2) p3 e.2.1)), t, s0, s1, (va_up (va_up z 0 0) 3 (rmA (z 3))), rr, (rOwF p1 (sm p1 p2) p3 g), tr, (rmD (z 3) g d), kp, ik, y, mt, _) _ _ _ _ ⟨⟨(up_n (by decide)).trans ((up_n (by decide)).trans h1), hn, ht, hr, eB_setO he (gv_lt hc.2.2.2 he.2.1), het, hR.own (sm_le _ _), hH.remember hR he up_s, hS⟩, (hW.upd (by decide) (by decide)).upd (by decide) (by decide)⟩ (by omega) (by omega)
          · exfalso; omega
      · exfalso; omega
  · refine ⟨rfl, ?_⟩
    dsimp only [vfill, List.set_cons_zero, List.set_cons_succ, Option.toList, List.cons_append, List.nil_append, Nat.add_zero]
    refine V_istore (i := 5) dL_law_737 rfl rfl ?_
    dsimp only [List.set_cons_zero, List.set_cons_succ]
    refine V_aload_n (i := 2) dL_law_739 rfl rfl ?_
    refine V_aload_n (i := 0) dL_law_740 rfl rfl ?_
    refine V_iload (i := 4) dL_law_741 rfl ?_
    refine V_iconst (v := 1) dL_law_743 rfl ?_
    refine V_iadd dL_law_744 ?_
    refine V_sld hS9 (by omega) e1 dL_law_745 ?_
    refine V_aload_n (i := 0) dL_law_746 rfl rfl ?_
    refine V_iload (i := 4) dL_law_747 rfl ?_
    refine V_iconst (v := 2) dL_law_749 rfl ?_
    refine V_iadd dL_law_750 ?_
    refine V_sld hS9 (by omega) e2 dL_law_751 ?_
    refine V_aload_n (i := 0) dL_law_752 rfl rfl ?_
    refine V_iload (i := 4) dL_law_753 rfl ?_
    refine V_iconst (v := 3) dL_law_755 rfl ?_
    refine V_iadd dL_law_756 ?_
    refine V_sld hS9 (by omega) e3 dL_law_757 ?_
    refine V_callV (C := RX7) (q := 0) (ci := 6) (As := _) (rest := []) [14, 17, 19] (c_X7_own l G B z g d p1 p2 p3 hz3 hp1 hp2 hp3 hgB.2.1) vy_X7_own gL_law_X7_own rfl rfl rfl rfl rfl rfl rfl ⟨rfl, rfl⟩ ⟨rfl, rfl⟩ ⟨hk, hn9⟩ rfl dL_law_758 (fun v Y hE => ?_)
    rcases hE with ⟨m1, rfl, rfl⟩ | ⟨m1, m2, rfl, rfl⟩ | ⟨m1, m2, rfl, rfl⟩
    · refine ⟨rfl, ?_⟩
      dsimp only [vfill, w3, List.set_cons_zero, List.set_cons_succ, Option.toList, List.cons_append, List.nil_append, Nat.add_zero]
      refine V_istore (i := 6) dL_law_761 rfl rfl ?_
      dsimp only [List.set_cons_zero, List.set_cons_succ]
      refine V_aload_n (i := 2) dL_law_763 rfl rfl ?_
      refine V_callV (C := RX7) (q := 0) (ci := 6) (As := []) (rest := []) [14] (c_X7_thrown l G B (va_up z 0 1)) vy_X7_thrown gL_law_X7_thrown rfl rfl rfl rfl rfl rfl rfl ⟨rfl, rfl⟩ ⟨rfl, rfl⟩ ⟨hk, hn9⟩ rfl dL_law_764 (fun v Y hE => ?_)
      obtain ⟨rfl, rfl⟩ := hE
      refine ⟨rfl, ?_⟩
      dsimp only [vfill, List.set_cons_zero, List.set_cons_succ, Option.toList, List.cons_append, List.nil_append, Nat.add_zero]
      refine V_top (b := 1) rfl ?_
      refine V_iload (i := 5) dL_law_767 rfl ?_
      refine V_icmp_eq (tgt := 774) (by omega) (by omega) dL_law_769 rfl (fun h_769 => ?_) (fun h_769 => ?_)
      · refine V_iload (i := 5) dL_law_774 rfl ?_
        refine V_if_ne (tgt := 791) (by omega) dL_law_776 rfl (fun h_776 => ?_) (fun h_776 => ?_)
        · refine V_goto (tgt := 1635) dL_law_791 rfl ?_
          exact kk (n, tx, r, ho, hs, zf, wo, sn, e, t, s0, s1, (va_up z 0 1), rr, g, tr, d, kp, ik, y, mt, _) _ _ _ _ ⟨⟨(up_n (by decide)).trans h1, hn, ht, hr, he, het, hR, hH.upd (by decide), hS⟩, hW.upd (by decide) (by decide)⟩ (by omega) (by omega)
        · exfalso; omega
      · exfalso; omega
    · exfalso
      omega
    · exfalso
      omega
  · refine ⟨rfl, ?_⟩
    dsimp only [vfill, List.set_cons_zero, List.set_cons_succ, Option.toList, List.cons_append, List.nil_append, Nat.add_zero]
    refine V_istore (i := 5) dL_law_737 rfl rfl ?_
    dsimp only [List.set_cons_zero, List.set_cons_succ]
    refine V_aload_n (i := 2) dL_law_739 rfl rfl ?_
    refine V_aload_n (i := 0) dL_law_740 rfl rfl ?_
    refine V_iload (i := 4) dL_law_741 rfl ?_
    refine V_iconst (v := 1) dL_law_743 rfl ?_
    refine V_iadd dL_law_744 ?_
    refine V_sld hS9 (by omega) e1 dL_law_745 ?_
    refine V_aload_n (i := 0) dL_law_746 rfl rfl ?_
    refine V_iload (i := 4) dL_law_747 rfl ?_
    refine V_iconst (v := 2) dL_law_749 rfl ?_
    refine V_iadd dL_law_750 ?_
    refine V_sld hS9 (by omega) e2 dL_law_751 ?_
    refine V_aload_n (i := 0) dL_law_752 rfl rfl ?_
    refine V_iload (i := 4) dL_law_753 rfl ?_
    refine V_iconst (v := 3) dL_law_755 rfl ?_
    refine V_iadd dL_law_756 ?_
    refine V_sld hS9 (by omega) e3 dL_law_757 ?_
    refine V_callV (C := RX7) (q := 0) (ci := 6) (As := _) (rest := []) [14, 17, 19] (c_X7_own l G B z g d p1 p2 p3 hz3 hp1 hp2 hp3 hgB.2.1) vy_X7_own gL_law_X7_own rfl rfl rfl rfl rfl rfl rfl ⟨rfl, rfl⟩ ⟨rfl, rfl⟩ ⟨hk, hn9⟩ rfl dL_law_758 (fun v Y hE => ?_)
    rcases hE with ⟨m1, rfl, rfl⟩ | ⟨m1, m2, rfl, rfl⟩ | ⟨m1, m2, rfl, rfl⟩
    · exfalso
      omega
    · refine ⟨rfl, ?_⟩
      dsimp only [vfill, w3, List.set_cons_zero, List.set_cons_succ, Option.toList, List.cons_append, List.nil_append, Nat.add_zero]
      refine V_istore (i := 6) dL_law_761 rfl rfl ?_
      dsimp only [List.set_cons_zero, List.set_cons_succ]
      refine V_aload_n (i := 2) dL_law_763 rfl rfl ?_
      refine V_callV (C := RX7) (q := 0) (ci := 6) (As := []) (rest := []) [14] (c_X7_thrown l G B (va_up z 0 2)) vy_X7_thrown gL_law_X7_thrown rfl rfl rfl rfl rfl rfl rfl ⟨rfl, rfl⟩ ⟨rfl, rfl⟩ ⟨hk, hn9⟩ rfl dL_law_764 (fun v Y hE => ?_)
      obtain ⟨rfl, rfl⟩ := hE
      refine ⟨rfl, ?_⟩
      dsimp only [vfill, List.set_cons_zero, List.set_cons_succ, Option.toList, List.cons_append, List.nil_append, Nat.add_zero]
      refine V_top (b := 2) rfl ?_
      refine V_iload (i := 5) dL_law_767 rfl ?_
      refine V_icmp_eq (tgt := 774) (by omega) (by omega) dL_law_769 rfl (fun h_769 => ?_) (fun h_769 => ?_)
      · refine V_iload (i := 5) dL_law_774 rfl ?_
        refine V_if_ne (tgt := 791) (by omega) dL_law_776 rfl (fun h_776 => ?_) (fun h_776 => ?_)
        · refine V_goto (tgt := 1635) dL_law_791 rfl ?_
          exact kk (n, tx, r, ho, hs, zf, wo, sn, e, t, s0, s1, (va_up z 0 2), rr, g, tr, d, kp, ik, y, mt, _) _ _ _ _ ⟨⟨(up_n (by decide)).trans h1, hn, ht, hr, he, het, hR, hH.upd (by decide), hS⟩, hW.upd (by decide) (by decide)⟩ (by omega) (by omega)
        · exfalso; omega
      · exfalso; omega
    · exfalso
      omega

end LAWS0
