section LAWS2
set_option maxHeartbeats 4000000 in
set_option maxRecDepth 100000 in
theorem L_alone (l : Launch) (hst : l.stackTraces = false) (G : vG) (Γ : vF) (b Ls : Nat) (xs : Nat → Int32) (hS9 : vScr Γ b Ls xs) (hE9 : vE9 Γ.2.2.1) (hZ9 : vZ Γ.2.2.2.2.2.2.2.2.2 Γ.2.2.1 Γ.2.2.1.heap) (hN9 : vNC Γ.2.2.1) (A : Nat → Nat) (ea : Nat → Nat → Nat) (B : Nat → Nat) (ou i k n9 : Nat) (hi6 : i + 6 ≤ Ls) (hk : k + 1 ≤ 601024) (hn9 : n9 + 6 ≤ 7293034) (p1 : Nat) (hp1 : p1 < 4294967296) (e1 : xs (i + 1) = nI p1) (n : Nat) (tx r ho : Nat → Nat) (hs : Nat → vE) (zf wo sn : Nat → Nat) (e t s0 s1 : vE) (z rr g tr d kp ik y mt : Nat → Nat) (fo : Nat → Int64) (hI : LX (n, tx, r, ho, hs, zf, wo, sn, e, t, s0, s1, z, rr, g, tr, d, kp, ik, y, mt, fo)) (u5 u6 : Option Value)
    (kk : ∀ (σ : LSt) (k9 n8 : Nat) (v5 v6 : Option Value), LX σ → k9 ≤ k + 1 → n8 ≤ n9 + 6 → V l G (cL_law, 7, wsL_law, RL, room_1) Γ k9 n8 1635 [some (.ref b), some (.ref (A 0)), some (.ref (B 0)), some (.ref ou), some (.int (nI i)), v5, v6] [] (W25 G A ea B ou σ)) :
    V l G (cL_law, 7, wsL_law, RL, room_1) Γ k n9 1267 [some (.ref b), some (.ref (A 0)), some (.ref (B 0)), some (.ref ou), some (.int (nI i)), u5, u6] [] [oO A ea n, iA G (A 1) 140 tx, tR (A 2) r, eK G (ea 14) e, eK G (ea 15) t, hO (A 3) (A 7) ho, hA G (A 7) ea, hK G ea hs, sA G A ea, zA G (A 5) 2 zf, wO (A 6) (A 8) wo, iA G (A 8) 96 sn, eK G (ea 16) s0, eK G (ea 17) s1, mO B z, iA G (B 1) 140 tx, iA G (B 2) 427 rr, iA G (B 3) 427 g, iA G (B 4) 427 tr, iA G (B 5) 5978 d, iA G (B 6) 854 kp, zA G (B 7) 2 ik, iA G (B 8) 96 y, zA G (B 9) 96 mt, lA G ou fo] := by
  obtain ⟨⟨h1, hn, ht, hr, he, het, hR, hH, hS⟩, hW⟩ := id hI
  refine V_aload_n (i := 1) dL_law_1267 rfl rfl ?_
  refine V_aload_n (i := 0) dL_law_1268 rfl rfl ?_
  refine V_iload (i := 4) dL_law_1269 rfl ?_
  refine V_iconst (v := 1) dL_law_1271 rfl ?_
  refine V_iadd dL_law_1272 ?_
  refine V_sld hS9 (by omega) e1 dL_law_1273 ?_
  refine V_aload_n (i := 3) dL_law_1274 rfl rfl ?_
  refine V_callSW (As := _) (rest := []) [0, 3, 4, 24] hE9 hZ9 hN9 (c_L_alone l hst G A ea p1 n e t he hp1 ou fo) rfl ⟨by decide +kernel, by decide +kernel, by simp only [List.length_cons, List.length_nil]; decide +kernel⟩ gL_law_L_alone rfl rfl rfl rfl ⟨rfl, rfl⟩ ⟨rfl, rfl⟩ ⟨hk, hn9⟩ rfl dL_law_1275 (fun v Y hE => ?_)
  rcases hE with ⟨hc, rfl, rfl⟩ | ⟨hc, rfl, rfl⟩
  · refine ⟨rfl, ?_⟩
    dsimp only [vfill, List.set_cons_zero, List.set_cons_succ, Option.toList, List.cons_append, List.nil_append, Nat.add_zero]
    refine V_istore (i := 5) dL_law_1278 rfl rfl ?_
    dsimp only [List.set_cons_zero, List.set_cons_succ]
    refine V_aload_n (i := 2) dL_law_1280 rfl rfl ?_
    refine V_aload_n (i := 0) dL_law_1281 rfl rfl ?_
    refine V_iload (i := 4) dL_law_1282 rfl ?_
    refine V_iconst (v := 1) dL_law_1284 rfl ?_
    refine V_iadd dL_law_1285 ?_
    refine V_sld hS9 (by omega) e1 dL_law_1286 ?_
    refine V_callV (C := RX7) (q := 0) (ci := 6) (As := _) (rest := []) [14, 17, 18, 22] (c_X7_alone l G B z g tr y p1 (fun t9 => ∃ e9, QZ (va_up z 0 0) t9 e9) (fun t9 q9 => q9.elim fun _ h9 => h9.1.gB) (fun t9 q9 => q9.elim fun _ h9 => ⟨_, h9.tick⟩) (fun h9 hh9 => (QZ.alone (QZ.try (z := va_up z 0 0) (g := g) (t := tr) (b := y) (f := t) hR he) hh9).elim fun _ q9 => ⟨_, q9.1⟩) hp1) vy_X7_alone gL_law_X7_alone rfl rfl rfl rfl rfl rfl rfl ⟨rfl, rfl⟩ ⟨rfl, rfl⟩ ⟨hk, hn9⟩ rfl dL_law_1287 (fun v Y hE => ?_)
    rcases hE with ⟨m1, rfl, rfl⟩ | ⟨m1, rfl, rfl⟩
    · exfalso
      omega
    · refine ⟨rfl, ?_⟩
      dsimp only [vfill, w3, List.set_cons_zero, List.set_cons_succ, Option.toList, List.cons_append, List.nil_append, Nat.add_zero]
      obtain ⟨f9, HF, HS⟩ := QZ.alone (QZ.try (z := va_up z 0 0) (g := g) (t := tr) (b := y) (f := t) hR he) hc
      have HQ := HF.run 500
      have HT := HS.run 500
      have hv : nI ((runC 500 (alC p1 (cpC t e))).2.2.2.2.2.2.2 p1 4) - nI (e.2.2.2.2.2.2 p1 4) = nI ((rRun 500 ((rTry (va_up z 0 0) g tr y).1, alR p1 (rTry (va_up z 0 0) g tr y).2.1, (rTry (va_up z 0 0) g tr y).2.2)).2.2.1 (384 + 13 * p1 + 12)) - nI (g (384 + 13 * p1 + 12)) := by
        rw [hR.wrote hc]
        have e1 : (rRun 500 ((rTry (va_up z 0 0) g tr y).1, alR p1 (rTry (va_up z 0 0) g tr y).2.1, (rTry (va_up z 0 0) g tr y).2.2)).2.2.1 (384 + 13 * p1 + 12) = (runC 500 f9).2.2.2.2.2.2.2 p1 4 := HQ.2.1.2.1.wrote hc
        rw [e1, HT.2.2.2.2.2.2.1]
      refine V_istore (i := 6) dL_law_1290 rfl rfl ?_
      dsimp only [List.set_cons_zero, List.set_cons_succ]
      refine V_aload_n (i := 2) dL_law_1292 rfl rfl ?_
      refine V_callV (C := RX7) (q := 0) (ci := 6) (As := []) (rest := []) [14] (c_X7_thrown l G B (rRun 500 ((rTry (va_up z 0 0) g tr y).1, alR p1 (rTry (va_up z 0 0) g tr y).2.1, (rTry (va_up z 0 0) g tr y).2.2)).2.1) vy_X7_thrown gL_law_X7_thrown rfl rfl rfl rfl rfl rfl rfl ⟨rfl, rfl⟩ ⟨rfl, rfl⟩ ⟨hk, hn9⟩ rfl dL_law_1293 (fun v Y hE => ?_)
      obtain ⟨rfl, rfl⟩ := hE
      refine ⟨rfl, ?_⟩
      dsimp only [vfill, List.set_cons_zero, List.set_cons_succ, Option.toList, List.cons_append, List.nil_append, Nat.add_zero]
      refine V_top (b := 0) ((HQ.2.2 0 (by decide) (by decide)).trans rfl) ?_
      refine V_iload (i := 5) dL_law_1296 rfl ?_
      refine V_icmp_eq (tgt := 1303) (by omega) (by omega) dL_law_1298 rfl (fun h_1298 => ?_) (fun h_1298 => ?_)
      · refine V_iload (i := 5) dL_law_1303 rfl ?_
        refine V_if_ne (tgt := 1320) (by omega) dL_law_1305 rfl (fun h_1305 => ?_) (fun h_1305 => ?_)
        · exfalso; omega
        · refine V_aload_n (i := 3) dL_law_1308 rfl rfl ?_
          refine V_iconst (v := 0) dL_law_1309 rfl ?_
          refine V_lald (q := 24) rfl (by omega) rfl dL_law_1310 ?_
          refine V_iload (i := 6) dL_law_1311 rfl ?_
          refine V_i2l dL_law_1313 ?_
          refine V_lcmp (v := 0) dL_law_1314 (lcq hv) ?_
          refine V_if_eq (tgt := 1320) (by omega) dL_law_1315 rfl (fun h_1315 => ?_) (fun h_1315 => ?_)
          · refine V_goto (tgt := 1635) dL_law_1320 rfl ?_
            exact kk (n, tx, r, ho, hs, zf, wo, sn, e, (runC 500 (alC p1 (cpC t e))).2, s0, s1, (rRun 500 ((rTry (va_up z 0 0) g tr y).1, alR p1 (rTry (va_up z 0 0) g tr y).2.1, (rTry (va_up z 0 0) g tr y).2.2)).2.1, rr, g, (rRun 500 ((rTry (va_up z 0 0) g tr y).1, alR p1 (rTry (va_up z 0 0) g tr y).2.1, (rTry (va_up z 0 0) g tr y).2.2)).2.2.1, d, kp, ik, (rRun 500 ((rTry (va_up z 0 0) g tr y).1, alR p1 (rTry (va_up z 0 0) g tr y).2.1, (rTry (va_up z 0 0) g tr y).2.2)).2.2.2, mt, _) _ _ _ _ ⟨⟨(HQ.2.2 1 (by decide) (by decide)).trans ((up_n (by decide)).trans h1), hn, ht, hr, he, (eB_run 500 _ (eB_al (eB_cp he))), hR, hH.cong ((HQ.2.2 3 (by decide) (by decide)).trans (up_n (by decide))), hS⟩, HQ.2.1.wo⟩ (by omega) (by omega)
          · exfalso; omega
      · exfalso; omega
  · refine ⟨rfl, ?_⟩
    dsimp only [vfill, List.set_cons_zero, List.set_cons_succ, Option.toList, List.cons_append, List.nil_append, Nat.add_zero]
    refine V_istore (i := 5) dL_law_1278 rfl rfl ?_
    dsimp only [List.set_cons_zero, List.set_cons_succ]
    refine V_aload_n (i := 2) dL_law_1280 rfl rfl ?_
    refine V_aload_n (i := 0) dL_law_1281 rfl rfl ?_
    refine V_iload (i := 4) dL_law_1282 rfl ?_
    refine V_iconst (v := 1) dL_law_1284 rfl ?_
    refine V_iadd dL_law_1285 ?_
    refine V_sld hS9 (by omega) e1 dL_law_1286 ?_
    refine V_callV (C := RX7) (q := 0) (ci := 6) (As := _) (rest := []) [14, 17, 18, 22] (c_X7_alone l G B z g tr y p1 (fun t9 => ∃ e9, QZ (va_up z 0 0) t9 e9) (fun t9 q9 => q9.elim fun _ h9 => h9.1.gB) (fun t9 q9 => q9.elim fun _ h9 => ⟨_, h9.tick⟩) (fun h9 hh9 => (QZ.alone (QZ.try (z := va_up z 0 0) (g := g) (t := tr) (b := y) (f := t) hR he) hh9).elim fun _ q9 => ⟨_, q9.1⟩) hp1) vy_X7_alone gL_law_X7_alone rfl rfl rfl rfl rfl rfl rfl ⟨rfl, rfl⟩ ⟨rfl, rfl⟩ ⟨hk, hn9⟩ rfl dL_law_1287 (fun v Y hE => ?_)
    rcases hE with ⟨m1, rfl, rfl⟩ | ⟨m1, rfl, rfl⟩
    · refine ⟨rfl, ?_⟩
      dsimp only [vfill, w3, List.set_cons_zero, List.set_cons_succ, Option.toList, List.cons_append, List.nil_append, Nat.add_zero]
      refine V_istore (i := 6) dL_law_1290 rfl rfl ?_
      dsimp only [List.set_cons_zero, List.set_cons_succ]
      refine V_aload_n (i := 2) dL_law_1292 rfl rfl ?_
      refine V_callV (C := RX7) (q := 0) (ci := 6) (As := []) (rest := []) [14] (c_X7_thrown l G B (va_up z 0 1)) vy_X7_thrown gL_law_X7_thrown rfl rfl rfl rfl rfl rfl rfl ⟨rfl, rfl⟩ ⟨rfl, rfl⟩ ⟨hk, hn9⟩ rfl dL_law_1293 (fun v Y hE => ?_)
      obtain ⟨rfl, rfl⟩ := hE
      refine ⟨rfl, ?_⟩
      dsimp only [vfill, List.set_cons_zero, List.set_cons_succ, Option.toList, List.cons_append, List.nil_append, Nat.add_zero]
      refine V_top (b := 1) rfl ?_
      refine V_iload (i := 5) dL_law_1296 rfl ?_
      refine V_icmp_eq (tgt := 1303) (by omega) (by omega) dL_law_1298 rfl (fun h_1298 => ?_) (fun h_1298 => ?_)
      · refine V_iload (i := 5) dL_law_1303 rfl ?_
        refine V_if_ne (tgt := 1320) (by omega) dL_law_1305 rfl (fun h_1305 => ?_) (fun h_1305 => ?_)
        · refine V_goto (tgt := 1635) dL_law_1320 rfl ?_
          exact kk (n, tx, r, ho, hs, zf, wo, sn, e, t, s0, s1, (va_up z 0 1), rr, g, tr, d, kp, ik, y, mt, _) _ _ _ _ ⟨⟨(up_n (by decide)).trans h1, hn, ht, hr, he, het, hR, hH.upd (by decide), hS⟩, hW.upd (by decide) (by decide)⟩ (by omega) (by omega)
        · exfalso; omega
      · exfalso; omega
    · exfalso
      omega

theorem kc_L_law_168 : Cond.constantLong RL 168 (4294967295) ∈ wsL_law := List.mem_of_getElem? (i := 7) rfl
set_option maxHeartbeats 4000000 in
set_option maxRecDepth 100000 in
theorem L_runScript (l : Launch) (hst : l.stackTraces = false) (G : vG) (Γ : vF) (b Ls : Nat) (xs : Nat → Int32) (hS9 : vScr Γ b Ls xs) (hE9 : vE9 Γ.2.2.1) (hZ9 : vZ Γ.2.2.2.2.2.2.2.2.2 Γ.2.2.1 Γ.2.2.1.heap) (hN9 : vNC Γ.2.2.1) (A : Nat → Nat) (ea : Nat → Nat → Nat) (B : Nat → Nat) (ou i k n9 : Nat) (hi6 : i + 6 ≤ Ls) (hk : k + 1 ≤ 601024) (hn9 : n9 + 6 ≤ 7293034) (p1 : Nat) (hp1 : p1 < 4294967296) (e1 : xs (i + 1) = nI p1) (p2 : Nat) (hp2 : p2 < 4294967296) (e2 : xs (i + 2) = nI p2) (p3 : Nat) (hp3 : p3 < 4294967296) (e3 : xs (i + 3) = nI p3) (n : Nat) (tx r ho : Nat → Nat) (hs : Nat → vE) (zf wo sn : Nat → Nat) (e t s0 s1 : vE) (z rr g tr d kp ik y mt : Nat → Nat) (fo : Nat → Int64) (hI : LX (n, tx, r, ho, hs, zf, wo, sn, e, t, s0, s1, z, rr, g, tr, d, kp, ik, y, mt, fo)) (u5 u6 : Option Value)
    (kk : ∀ (σ : LSt) (k9 n8 : Nat) (v5 v6 : Option Value), LX σ → k9 ≤ k + 1 → n8 ≤ n9 + 6 → V l G (cL_law, 7, wsL_law, RL, room_1) Γ k9 n8 1635 [some (.ref b), some (.ref (A 0)), some (.ref (B 0)), some (.ref ou), some (.int (nI i)), v5, v6] [] (W25 G A ea B ou σ)) :
    V l G (cL_law, 7, wsL_law, RL, room_1) Γ k n9 1323 [some (.ref b), some (.ref (A 0)), some (.ref (B 0)), some (.ref ou), some (.int (nI i)), u5, u6] [] [oO A ea n, iA G (A 1) 140 tx, tR (A 2) r, eK G (ea 14) e, eK G (ea 15) t, hO (A 3) (A 7) ho, hA G (A 7) ea, hK G ea hs, sA G A ea, zA G (A 5) 2 zf, wO (A 6) (A 8) wo, iA G (A 8) 96 sn, eK G (ea 16) s0, eK G (ea 17) s1, mO B z, iA G (B 1) 140 tx, iA G (B 2) 427 rr, iA G (B 3) 427 g, iA G (B 4) 427 tr, iA G (B 5) 5978 d, iA G (B 6) 854 kp, zA G (B 7) 2 ik, iA G (B 8) 96 y, zA G (B 9) 96 mt, lA G ou fo] := by
  obtain ⟨⟨h1, hn, ht, hr, he, het, hR, hH, hS⟩, hW⟩ := id hI
  refine V_aload_n (i := 1) dL_law_1323 rfl rfl ?_
  refine V_aload_n (i := 0) dL_law_1324 rfl rfl ?_
  refine V_iload (i := 4) dL_law_1325 rfl ?_
  refine V_iconst (v := 1) dL_law_1327 rfl ?_
  refine V_iadd dL_law_1328 ?_
  refine V_sld hS9 (by omega) e1 dL_law_1329 ?_
  refine V_aload_n (i := 0) dL_law_1330 rfl rfl ?_
  refine V_iload (i := 4) dL_law_1331 rfl ?_
  refine V_iconst (v := 2) dL_law_1333 rfl ?_
  refine V_iadd dL_law_1334 ?_
  refine V_sld hS9 (by omega) e2 dL_law_1335 ?_
  refine V_i2l dL_law_1336 ?_
  refine V_bipush (v := 32) dL_law_1337 (by decide) ?_
  refine V_lshl dL_law_1339 rfl ?_
  refine V_aload_n (i := 0) dL_law_1340 rfl rfl ?_
  refine V_iload (i := 4) dL_law_1341 rfl ?_
  refine V_iconst (v := 3) dL_law_1343 rfl ?_
  refine V_iadd dL_law_1344 ?_
  refine V_sld hS9 (by omega) e3 dL_law_1345 ?_
  refine V_i2l dL_law_1346 ?_
  refine V_ldc2 (v := 4294967295) dL_law_1347 kc_L_law_168 ?_
  refine V_land dL_law_1350 ?_
  refine V_lor dL_law_1351 ?_
  obtain ⟨x9, hx9⟩ : ∃ x : Int64, x = ((nI p2).toInt64 <<< ((nI 32).toInt64 &&& 63) ||| (nI p3).toInt64 &&& 4294967295) := ⟨_, rfl⟩
  rw [← hx9]
  refine V_aload_n (i := 3) dL_law_1352 rfl rfl ?_
  refine V_callSW (As := _) (rest := []) [0, 3, 4, 24] hE9 hZ9 hN9 (c_L_runScript l hst G A ea p1 x9 n e t he hp1 ou fo) rfl ⟨by decide +kernel, by decide +kernel, by simp only [List.length_cons, List.length_nil]; decide +kernel⟩ gL_law_L_runScript rfl rfl rfl rfl ⟨rfl, rfl⟩ ⟨rfl, rfl⟩ ⟨hk, hn9⟩ rfl dL_law_1353 (fun v Y hE => ?_)
  rcases hE with ⟨hc, rfl, rfl⟩ | ⟨hc, rfl, rfl⟩
  · refine ⟨rfl, ?_⟩
    dsimp only [vfill, List.set_cons_zero, List.set_cons_succ, Option.toList, List.cons_append, List.nil_append, Nat.add_zero]
    refine V_istore (i := 5) dL_law_1356 rfl rfl ?_
    dsimp only [List.set_cons_zero, List.set_cons_succ]
    refine V_aload_n (i := 2) dL_law_1358 rfl rfl ?_
    refine V_aload_n (i := 0) dL_law_1359 rfl rfl ?_
    refine V_iload (i := 4) dL_law_1360 rfl ?_
    refine V_iconst (v := 1) dL_law_1362 rfl ?_
    refine V_iadd dL_law_1363 ?_
    refine V_sld hS9 (by omega) e1 dL_law_1364 ?_
    refine V_aload_n (i := 0) dL_law_1365 rfl rfl ?_
    refine V_iload (i := 4) dL_law_1366 rfl ?_
    refine V_iconst (v := 2) dL_law_1368 rfl ?_
    refine V_iadd dL_law_1369 ?_
    refine V_sld hS9 (by omega) e2 dL_law_1370 ?_
    refine V_i2l dL_law_1371 ?_
    refine V_bipush (v := 32) dL_law_1372 (by decide) ?_
    refine V_lshl dL_law_1374 rfl ?_
    refine V_aload_n (i := 0) dL_law_1375 rfl rfl ?_
    refine V_iload (i := 4) dL_law_1376 rfl ?_
    refine V_iconst (v := 3) dL_law_1378 rfl ?_
    refine V_iadd dL_law_1379 ?_
    refine V_sld hS9 (by omega) e3 dL_law_1380 ?_
    refine V_i2l dL_law_1381 ?_
    refine V_ldc2 (v := 4294967295) dL_law_1382 kc_L_law_168 ?_
    refine V_land dL_law_1385 ?_
    refine V_lor dL_law_1386 ?_
    rw [← hx9]
    refine V_callV (C := RX7) (q := 0) (ci := 6) (As := _) (rest := []) [14, 17, 18, 22] (c_X7_runScript l G B z g tr y p1 x9 (fun t9 => ∃ e9, QZ (va_up z 0 0) t9 e9) (fun t9 q9 => q9.elim fun _ h9 => h9.1.gB) (fun t9 q9 => q9.elim fun _ h9 => ⟨_, h9.tick⟩) ⟨_, (QZ.try (z := va_up z 0 0) (g := g) (t := tr) (b := y) (f := t) hR he)⟩ (fun g9 t9 hg9 q9 => q9.elim fun _ h9 => ⟨_, (h9.command hg9).2⟩) hp1) vy_X7_runScript gL_law_X7_runScript rfl rfl rfl rfl rfl rfl rfl ⟨rfl, rfl⟩ ⟨rfl, rfl⟩ ⟨hk, hn9⟩ rfl dL_law_1387 (fun v Y hE => ?_)
    rcases hE with ⟨m1, rfl, rfl⟩ | ⟨m1, rfl, rfl⟩
    · exfalso
      first
        | exact m1 hc
        | exact hc m1
    · refine ⟨rfl, ?_⟩
      dsimp only [vfill, w3, List.set_cons_zero, List.set_cons_succ, Option.toList, List.cons_append, List.nil_append, Nat.add_zero]
      have HQ := (QZ.try (z := va_up z 0 0) (g := g) (t := tr) (b := y) (f := t) hR he).script x9.toInt.toNat p1 0
      have hv := congrArg nI HQ.1.symm
      refine V_istore (i := 6) dL_law_1390 rfl rfl ?_
      dsimp only [List.set_cons_zero, List.set_cons_succ]
      refine V_aload_n (i := 2) dL_law_1392 rfl rfl ?_
      refine V_callV (C := RX7) (q := 0) (ci := 6) (As := []) (rest := []) [14] (c_X7_thrown l G B (rLs x9.toInt.toNat p1 0 (rTry (va_up z 0 0) g tr y)).2.1) vy_X7_thrown gL_law_X7_thrown rfl rfl rfl rfl rfl rfl rfl ⟨rfl, rfl⟩ ⟨rfl, rfl⟩ ⟨hk, hn9⟩ rfl dL_law_1393 (fun v Y hE => ?_)
      obtain ⟨rfl, rfl⟩ := hE
      refine ⟨rfl, ?_⟩
      dsimp only [vfill, List.set_cons_zero, List.set_cons_succ, Option.toList, List.cons_append, List.nil_append, Nat.add_zero]
      refine V_top (b := 0) ((HQ.2.2 0 (by decide) (by decide)).trans rfl) ?_
      refine V_iload (i := 5) dL_law_1396 rfl ?_
      refine V_icmp_eq (tgt := 1403) (by omega) (by omega) dL_law_1398 rfl (fun h_1398 => ?_) (fun h_1398 => ?_)
      · refine V_iload (i := 5) dL_law_1403 rfl ?_
        refine V_if_ne (tgt := 1420) (by omega) dL_law_1405 rfl (fun h_1405 => ?_) (fun h_1405 => ?_)
        · exfalso; omega
        · refine V_aload_n (i := 3) dL_law_1408 rfl rfl ?_
          refine V_iconst (v := 0) dL_law_1409 rfl ?_
          refine V_lald (q := 24) rfl (by omega) rfl dL_law_1410 ?_
          refine V_iload (i := 6) dL_law_1411 rfl ?_
          refine V_i2l dL_law_1413 ?_
          refine V_lcmp (v := 0) dL_law_1414 (lcq hv) ?_
          refine V_if_eq (tgt := 1420) (by omega) dL_law_1415 rfl (fun h_1415 => ?_) (fun h_1415 => ?_)
          · refine V_goto (tgt := 1635) dL_law_1420 rfl ?_
            exact kk (n, tx, r, ho, hs, zf, wo, sn, e, (rsL x9.toInt.toNat p1 0 (cpC t e)).2, s0, s1, (rLs x9.toInt.toNat p1 0 (rTry (va_up z 0 0) g tr y)).2.1, rr, g, (rLs x9.toInt.toNat p1 0 (rTry (va_up z 0 0) g tr y)).2.2.1, d, kp, ik, (rLs x9.toInt.toNat p1 0 (rTry (va_up z 0 0) g tr y)).2.2.2, mt, _) _ _ _ _ ⟨⟨(HQ.2.2 1 (by decide) (by decide)).trans ((up_n (by decide)).trans h1), hn, ht, hr, he, HQ.2.1.1, hR, hH.cong ((HQ.2.2 3 (by decide) (by decide)).trans (up_n (by decide))), hS⟩, HQ.2.1.wo⟩ (by omega) (by omega)
          · exfalso; omega
      · exfalso; omega
  · refine ⟨rfl, ?_⟩
    dsimp only [vfill, List.set_cons_zero, List.set_cons_succ, Option.toList, List.cons_append, List.nil_append, Nat.add_zero]
    refine V_istore (i := 5) dL_law_1356 rfl rfl ?_
    dsimp only [List.set_cons_zero, List.set_cons_succ]
    refine V_aload_n (i := 2) dL_law_1358 rfl rfl ?_
    refine V_aload_n (i := 0) dL_law_1359 rfl rfl ?_
    refine V_iload (i := 4) dL_law_1360 rfl ?_
    refine V_iconst (v := 1) dL_law_1362 rfl ?_
    refine V_iadd dL_law_1363 ?_
    refine V_sld hS9 (by omega) e1 dL_law_1364 ?_
    refine V_aload_n (i := 0) dL_law_1365 rfl rfl ?_
    refine V_iload (i := 4) dL_law_1366 rfl ?_
    refine V_iconst (v := 2) dL_law_1368 rfl ?_
    refine V_iadd dL_law_1369 ?_
    refine V_sld hS9 (by omega) e2 dL_law_1370 ?_
    refine V_i2l dL_law_1371 ?_
    refine V_bipush (v := 32) dL_law_1372 (by decide) ?_
    refine V_lshl dL_law_1374 rfl ?_
    refine V_aload_n (i := 0) dL_law_1375 rfl rfl ?_
    refine V_iload (i := 4) dL_law_1376 rfl ?_
    refine V_iconst (v := 3) dL_law_1378 rfl ?_
    refine V_iadd dL_law_1379 ?_
    refine V_sld hS9 (by omega) e3 dL_law_1380 ?_
    refine V_i2l dL_law_1381 ?_
    refine V_ldc2 (v := 4294967295) dL_law_1382 kc_L_law_168 ?_
    refine V_land dL_law_1385 ?_
    refine V_lor dL_law_1386 ?_
    rw [← hx9]
    refine V_callV (C := RX7) (q := 0) (ci := 6) (As := _) (rest := []) [14, 17, 18, 22] (c_X7_runScript l G B z g tr y p1 x9 (fun t9 => ∃ e9, QZ (va_up z 0 0) t9 e9) (fun t9 q9 => q9.elim fun _ h9 => h9.1.gB) (fun t9 q9 => q9.elim fun _ h9 => ⟨_, h9.tick⟩) ⟨_, (QZ.try (z := va_up z 0 0) (g := g) (t := tr) (b := y) (f := t) hR he)⟩ (fun g9 t9 hg9 q9 => q9.elim fun _ h9 => ⟨_, (h9.command hg9).2⟩) hp1) vy_X7_runScript gL_law_X7_runScript rfl rfl rfl rfl rfl rfl rfl ⟨rfl, rfl⟩ ⟨rfl, rfl⟩ ⟨hk, hn9⟩ rfl dL_law_1387 (fun v Y hE => ?_)
    rcases hE with ⟨m1, rfl, rfl⟩ | ⟨m1, rfl, rfl⟩
    · refine ⟨rfl, ?_⟩
      dsimp only [vfill, w3, List.set_cons_zero, List.set_cons_succ, Option.toList, List.cons_append, List.nil_append, Nat.add_zero]
      refine V_istore (i := 6) dL_law_1390 rfl rfl ?_
      dsimp only [List.set_cons_zero, List.set_cons_succ]
      refine V_aload_n (i := 2) dL_law_1392 rfl rfl ?_
      refine V_callV (C := RX7) (q := 0) (ci := 6) (As := []) (rest := []) [14] (c_X7_thrown l G B (va_up z 0 1)) vy_X7_thrown gL_law_X7_thrown rfl rfl rfl rfl rfl rfl rfl ⟨rfl, rfl⟩ ⟨rfl, rfl⟩ ⟨hk, hn9⟩ rfl dL_law_1393 (fun v Y hE => ?_)
      obtain ⟨rfl, rfl⟩ := hE
      refine ⟨rfl, ?_⟩
      dsimp only [vfill, List.set_cons_zero, List.set_cons_succ, Option.toList, List.cons_append, List.nil_append, Nat.add_zero]
      refine V_top (b := 1) rfl ?_
      refine V_iload (i := 5) dL_law_1396 rfl ?_
      refine V_icmp_eq (tgt := 1403) (by omega) (by omega) dL_law_1398 rfl (fun h_1398 => ?_) (fun h_1398 => ?_)
      · refine V_iload (i := 5) dL_law_1403 rfl ?_
        refine V_if_ne (tgt := 1420) (by omega) dL_law_1405 rfl (fun h_1405 => ?_) (fun h_1405 => ?_)
        · refine V_goto (tgt := 1635) dL_law_1420 rfl ?_
          exact kk (n, tx, r, ho, hs, zf, wo, sn, e, t, s0, s1, (va_up z 0 1), rr, g, tr, d, kp, ik, y, mt, _) _ _ _ _ ⟨⟨(up_n (by decide)).trans h1, hn, ht, hr, he, het, hR, hH.upd (by decide), hS⟩, hW.upd (by decide) (by decide)⟩ (by omega) (by omega)
        · exfalso; omega
      · exfalso; omega
    · exfalso
      first
        | exact m1 hc
        | exact hc m1

set_option maxHeartbeats 4000000 in
set_option maxRecDepth 100000 in
theorem L_simulate (l : Launch) (hst : l.stackTraces = false) (G : vG) (Γ : vF) (b Ls : Nat) (xs : Nat → Int32) (hS9 : vScr Γ b Ls xs) (hE9 : vE9 Γ.2.2.1) (hZ9 : vZ Γ.2.2.2.2.2.2.2.2.2 Γ.2.2.1 Γ.2.2.1.heap) (hN9 : vNC Γ.2.2.1) (A : Nat → Nat) (ea : Nat → Nat → Nat) (B : Nat → Nat) (ou i k n9 : Nat) (hi6 : i + 6 ≤ Ls) (hk : k + 1 ≤ 601024) (hn9 : n9 + 6 ≤ 7293034) (p1 : Nat) (hp1 : p1 < 4294967296) (e1 : xs (i + 1) = nI p1) (p2 : Nat) (hp2 : p2 < 4294967296) (e2 : xs (i + 2) = nI p2) (p3 : Nat) (hp3 : p3 < 4294967296) (e3 : xs (i + 3) = nI p3) (n : Nat) (tx r ho : Nat → Nat) (hs : Nat → vE) (zf wo sn : Nat → Nat) (e t s0 s1 : vE) (z rr g tr d kp ik y mt : Nat → Nat) (fo : Nat → Int64) (hI : LX (n, tx, r, ho, hs, zf, wo, sn, e, t, s0, s1, z, rr, g, tr, d, kp, ik, y, mt, fo)) (u5 u6 : Option Value)
    (kk : ∀ (σ : LSt) (k9 n8 : Nat) (v5 v6 : Option Value), LX σ → k9 ≤ k + 1 → n8 ≤ n9 + 6 → V l G (cL_law, 7, wsL_law, RL, room_1) Γ k9 n8 1635 [some (.ref b), some (.ref (A 0)), some (.ref (B 0)), some (.ref ou), some (.int (nI i)), v5, v6] [] (W25 G A ea B ou σ)) :
    V l G (cL_law, 7, wsL_law, RL, room_1) Γ k n9 1423 [some (.ref b), some (.ref (A 0)), some (.ref (B 0)), some (.ref ou), some (.int (nI i)), u5, u6] [] [oO A ea n, iA G (A 1) 140 tx, tR (A 2) r, eK G (ea 14) e, eK G (ea 15) t, hO (A 3) (A 7) ho, hA G (A 7) ea, hK G ea hs, sA G A ea, zA G (A 5) 2 zf, wO (A 6) (A 8) wo, iA G (A 8) 96 sn, eK G (ea 16) s0, eK G (ea 17) s1, mO B z, iA G (B 1) 140 tx, iA G (B 2) 427 rr, iA G (B 3) 427 g, iA G (B 4) 427 tr, iA G (B 5) 5978 d, iA G (B 6) 854 kp, zA G (B 7) 2 ik, iA G (B 8) 96 y, zA G (B 9) 96 mt, lA G ou fo] := by
  obtain ⟨⟨h1, hn, ht, hr, he, het, hR, hH, hS⟩, hW⟩ := id hI
  refine V_aload_n (i := 1) dL_law_1423 rfl rfl ?_
  refine V_aload_n (i := 0) dL_law_1424 rfl rfl ?_
  refine V_iload (i := 4) dL_law_1425 rfl ?_
  refine V_iconst (v := 1) dL_law_1427 rfl ?_
  refine V_iadd dL_law_1428 ?_
  refine V_sld hS9 (by omega) e1 dL_law_1429 ?_
  refine V_i2l dL_law_1430 ?_
  refine V_bipush (v := 32) dL_law_1431 (by decide) ?_
  refine V_lshl dL_law_1433 rfl ?_
  refine V_aload_n (i := 0) dL_law_1434 rfl rfl ?_
  refine V_iload (i := 4) dL_law_1435 rfl ?_
  refine V_iconst (v := 2) dL_law_1437 rfl ?_
  refine V_iadd dL_law_1438 ?_
  refine V_sld hS9 (by omega) e2 dL_law_1439 ?_
  refine V_i2l dL_law_1440 ?_
  refine V_ldc2 (v := 4294967295) dL_law_1441 kc_L_law_168 ?_
  refine V_land dL_law_1444 ?_
  refine V_lor dL_law_1445 ?_
  obtain ⟨x9, hx9⟩ : ∃ x : Int64, x = ((nI p1).toInt64 <<< ((nI 32).toInt64 &&& 63) ||| (nI p2).toInt64 &&& 4294967295) := ⟨_, rfl⟩
  rw [← hx9]
  refine V_aload_n (i := 0) dL_law_1446 rfl rfl ?_
  refine V_iload (i := 4) dL_law_1447 rfl ?_
  refine V_iconst (v := 3) dL_law_1449 rfl ?_
  refine V_iadd dL_law_1450 ?_
  refine V_sld hS9 (by omega) e3 dL_law_1451 ?_
  refine V_aload_n (i := 3) dL_law_1452 rfl rfl ?_
  refine V_callSW (As := _) (rest := []) [0, 3, 4, 24] hE9 hZ9 hN9 (c_L_simulate l hst G A ea siX (fun _ => rfl) p3 x9 n e t he hp3 ou fo) rfl ⟨by decide +kernel, by decide +kernel, by simp only [List.length_cons, List.length_nil]; decide +kernel⟩ gL_law_L_simulate rfl rfl rfl rfl ⟨rfl, rfl⟩ ⟨rfl, rfl⟩ ⟨hk, hn9⟩ rfl dL_law_1453 (fun v Y hE => ?_)
  rcases hE with ⟨hc, rfl, rfl⟩ | ⟨hc, rfl, rfl⟩
  · refine ⟨rfl, ?_⟩
    dsimp only [vfill, List.set_cons_zero, List.set_cons_succ, Option.toList, List.cons_append, List.nil_append, Nat.add_zero]
    refine V_istore (i := 5) dL_law_1456 rfl rfl ?_
    dsimp only [List.set_cons_zero, List.set_cons_succ]
    refine V_aload_n (i := 2) dL_law_1458 rfl rfl ?_
    refine V_aload_n (i := 0) dL_law_1459 rfl rfl ?_
    refine V_iload (i := 4) dL_law_1460 rfl ?_
    refine V_iconst (v := 1) dL_law_1462 rfl ?_
    refine V_iadd dL_law_1463 ?_
    refine V_sld hS9 (by omega) e1 dL_law_1464 ?_
    refine V_i2l dL_law_1465 ?_
    refine V_bipush (v := 32) dL_law_1466 (by decide) ?_
    refine V_lshl dL_law_1468 rfl ?_
    refine V_aload_n (i := 0) dL_law_1469 rfl rfl ?_
    refine V_iload (i := 4) dL_law_1470 rfl ?_
    refine V_iconst (v := 2) dL_law_1472 rfl ?_
    refine V_iadd dL_law_1473 ?_
    refine V_sld hS9 (by omega) e2 dL_law_1474 ?_
    refine V_i2l dL_law_1475 ?_
    refine V_ldc2 (v := 4294967295) dL_law_1476 kc_L_law_168 ?_
    refine V_land dL_law_1479 ?_
    refine V_lor dL_law_1480 ?_
    refine V_aload_n (i := 0) dL_law_1481 rfl rfl ?_
    refine V_iload (i := 4) dL_law_1482 rfl ?_
    refine V_iconst (v := 3) dL_law_1484 rfl ?_
    rw [← hx9]
    refine V_iadd dL_law_1485 ?_
    refine V_sld hS9 (by omega) e3 dL_law_1486 ?_
    refine V_callV (C := RX7) (q := 0) (ci := 6) (As := _) (rest := []) [14, 17, 18, 22] (c_X7_simulate l G B z g tr y siX (fun _ => rfl) p3 x9 (fun t9 => ∃ e9, QZ (va_up z 0 0) t9 e9) (fun t9 q9 => q9.elim fun _ h9 => h9.1.gB) (fun t9 q9 => q9.elim fun _ h9 => ⟨_, h9.tick⟩) ⟨_, (QZ.try (z := va_up z 0 0) (g := g) (t := tr) (b := y) (f := t) hR he)⟩ (fun r9 t9 q9 => q9.elim fun _ h9 => ⟨_, h9.sg r9⟩) hp3) vy_X7_simulate gL_law_X7_simulate rfl rfl rfl rfl rfl rfl rfl ⟨rfl, rfl⟩ ⟨rfl, rfl⟩ ⟨hk, hn9⟩ rfl dL_law_1487 (fun v Y hE => ?_)
    rcases hE with ⟨m1, rfl, rfl⟩ | ⟨m1, rfl, rfl⟩
    · exfalso
      omega
    · refine ⟨rfl, ?_⟩
      dsimp only [vfill, w3, List.set_cons_zero, List.set_cons_succ, Option.toList, List.cons_append, List.nil_append, Nat.add_zero]
      have HQ := QZ.sim siX p3 x9 (QZ.try (z := va_up z 0 0) (g := g) (t := tr) (b := y) (f := t) hR he)
      have hv := congrArg nI HQ.1.2.1.simul.symm
      refine V_istore (i := 6) dL_law_1490 rfl rfl ?_
      dsimp only [List.set_cons_zero, List.set_cons_succ]
      refine V_aload_n (i := 2) dL_law_1492 rfl rfl ?_
      refine V_callV (C := RX7) (q := 0) (ci := 6) (As := []) (rest := []) [14] (c_X7_thrown l G B (siR siX p3 x9 (rTry (va_up z 0 0) g tr y)).1) vy_X7_thrown gL_law_X7_thrown rfl rfl rfl rfl rfl rfl rfl ⟨rfl, rfl⟩ ⟨rfl, rfl⟩ ⟨hk, hn9⟩ rfl dL_law_1493 (fun v Y hE => ?_)
      obtain ⟨rfl, rfl⟩ := hE
      refine ⟨rfl, ?_⟩
      dsimp only [vfill, List.set_cons_zero, List.set_cons_succ, Option.toList, List.cons_append, List.nil_append, Nat.add_zero]
      refine V_top (b := 0) ((HQ.2 0 (by decide) (by decide)).trans rfl) ?_
      refine V_iload (i := 5) dL_law_1496 rfl ?_
      refine V_icmp_eq (tgt := 1503) (by omega) (by omega) dL_law_1498 rfl (fun h_1498 => ?_) (fun h_1498 => ?_)
      · refine V_iload (i := 5) dL_law_1503 rfl ?_
        refine V_if_ne (tgt := 1520) (by omega) dL_law_1505 rfl (fun h_1505 => ?_) (fun h_1505 => ?_)
        · exfalso; omega
        · refine V_aload_n (i := 3) dL_law_1508 rfl rfl ?_
          refine V_iconst (v := 0) dL_law_1509 rfl ?_
          refine V_lald (q := 24) rfl (by omega) rfl dL_law_1510 ?_
          refine V_iload (i := 6) dL_law_1511 rfl ?_
          refine V_i2l dL_law_1513 ?_
          refine V_lcmp (v := 0) dL_law_1514 (lcq hv) ?_
          refine V_if_eq (tgt := 1520) (by omega) dL_law_1515 rfl (fun h_1515 => ?_) (fun h_1515 => ?_)
          · refine V_goto (tgt := 1635) dL_law_1520 rfl ?_
            exact kk (n, tx, r, ho, hs, zf, wo, sn, e, (siG siX p3 x9 (cpC t e)), s0, s1, (siR siX p3 x9 (rTry (va_up z 0 0) g tr y)).1, rr, g, (siR siX p3 x9 (rTry (va_up z 0 0) g tr y)).2.1, d, kp, ik, (siR siX p3 x9 (rTry (va_up z 0 0) g tr y)).2.2, mt, _) _ _ _ _ ⟨⟨(HQ.2 1 (by decide) (by decide)).trans ((up_n (by decide)).trans h1), hn, ht, hr, he, HQ.1.1, hR, hH.cong ((HQ.2 3 (by decide) (by decide)).trans (up_n (by decide))), hS⟩, HQ.1.wo⟩ (by omega) (by omega)
          · exfalso; omega
      · exfalso; omega
  · refine ⟨rfl, ?_⟩
    dsimp only [vfill, List.set_cons_zero, List.set_cons_succ, Option.toList, List.cons_append, List.nil_append, Nat.add_zero]
    refine V_istore (i := 5) dL_law_1456 rfl rfl ?_
    dsimp only [List.set_cons_zero, List.set_cons_succ]
    refine V_aload_n (i := 2) dL_law_1458 rfl rfl ?_
    refine V_aload_n (i := 0) dL_law_1459 rfl rfl ?_
    refine V_iload (i := 4) dL_law_1460 rfl ?_
    refine V_iconst (v := 1) dL_law_1462 rfl ?_
    refine V_iadd dL_law_1463 ?_
    refine V_sld hS9 (by omega) e1 dL_law_1464 ?_
    refine V_i2l dL_law_1465 ?_
    refine V_bipush (v := 32) dL_law_1466 (by decide) ?_
    refine V_lshl dL_law_1468 rfl ?_
    refine V_aload_n (i := 0) dL_law_1469 rfl rfl ?_
    refine V_iload (i := 4) dL_law_1470 rfl ?_
    refine V_iconst (v := 2) dL_law_1472 rfl ?_
    refine V_iadd dL_law_1473 ?_
    refine V_sld hS9 (by omega) e2 dL_law_1474 ?_
    refine V_i2l dL_law_1475 ?_
    refine V_ldc2 (v := 4294967295) dL_law_1476 kc_L_law_168 ?_
    refine V_land dL_law_1479 ?_
    refine V_lor dL_law_1480 ?_
    refine V_aload_n (i := 0) dL_law_1481 rfl rfl ?_
    refine V_iload (i := 4) dL_law_1482 rfl ?_
    refine V_iconst (v := 3) dL_law_1484 rfl ?_
    rw [← hx9]
    refine V_iadd dL_law_1485 ?_
    refine V_sld hS9 (by omega) e3 dL_law_1486 ?_
    refine V_callV (C := RX7) (q := 0) (ci := 6) (As := _) (rest := []) [14, 17, 18, 22] (c_X7_simulate l G B z g tr y siX (fun _ => rfl) p3 x9 (fun t9 => ∃ e9, QZ (va_up z 0 0) t9 e9) (fun t9 q9 => q9.elim fun _ h9 => h9.1.gB) (fun t9 q9 => q9.elim fun _ h9 => ⟨_, h9.tick⟩) ⟨_, (QZ.try (z := va_up z 0 0) (g := g) (t := tr) (b := y) (f := t) hR he)⟩ (fun r9 t9 q9 => q9.elim fun _ h9 => ⟨_, h9.sg r9⟩) hp3) vy_X7_simulate gL_law_X7_simulate rfl rfl rfl rfl rfl rfl rfl ⟨rfl, rfl⟩ ⟨rfl, rfl⟩ ⟨hk, hn9⟩ rfl dL_law_1487 (fun v Y hE => ?_)
    rcases hE with ⟨m1, rfl, rfl⟩ | ⟨m1, rfl, rfl⟩
    · refine ⟨rfl, ?_⟩
      dsimp only [vfill, w3, List.set_cons_zero, List.set_cons_succ, Option.toList, List.cons_append, List.nil_append, Nat.add_zero]
      refine V_istore (i := 6) dL_law_1490 rfl rfl ?_
      dsimp only [List.set_cons_zero, List.set_cons_succ]
      refine V_aload_n (i := 2) dL_law_1492 rfl rfl ?_
      refine V_callV (C := RX7) (q := 0) (ci := 6) (As := []) (rest := []) [14] (c_X7_thrown l G B (va_up z 0 1)) vy_X7_thrown gL_law_X7_thrown rfl rfl rfl rfl rfl rfl rfl ⟨rfl, rfl⟩ ⟨rfl, rfl⟩ ⟨hk, hn9⟩ rfl dL_law_1493 (fun v Y hE => ?_)
      obtain ⟨rfl, rfl⟩ := hE
      refine ⟨rfl, ?_⟩
      dsimp only [vfill, List.set_cons_zero, List.set_cons_succ, Option.toList, List.cons_append, List.nil_append, Nat.add_zero]
      refine V_top (b := 1) rfl ?_
      refine V_iload (i := 5) dL_law_1496 rfl ?_
      refine V_icmp_eq (tgt := 1503) (by omega) (by omega) dL_law_1498 rfl (fun h_1498 => ?_) (fun h_1498 => ?_)
      · refine V_iload (i := 5) dL_law_1503 rfl ?_
        refine V_if_ne (tgt := 1520) (by omega) dL_law_1505 rfl (fun h_1505 => ?_) (fun h_1505 => ?_)
        · refine V_goto (tgt := 1635) dL_law_1520 rfl ?_
          exact kk (n, tx, r, ho, hs, zf, wo, sn, e, t, s0, s1, (va_up z 0 1), rr, g, tr, d, kp, ik, y, mt, _) _ _ _ _ ⟨⟨(up_n (by decide)).trans h1, hn, ht, hr, he, het, hR, hH.upd (by decide), hS⟩, hW.upd (by decide) (by decide)⟩ (by omega) (by omega)
        · exfalso; omega
      · exfalso; omega
    · exfalso
      omega

set_option maxHeartbeats 4000000 in
set_option maxRecDepth 100000 in
theorem L_save (l : Launch) (hst : l.stackTraces = false) (G : vG) (Γ : vF) (b Ls : Nat) (xs : Nat → Int32) (hS9 : vScr Γ b Ls xs) (hE9 : vE9 Γ.2.2.1) (hZ9 : vZ Γ.2.2.2.2.2.2.2.2.2 Γ.2.2.1 Γ.2.2.1.heap) (hN9 : vNC Γ.2.2.1) (A : Nat → Nat) (ea : Nat → Nat → Nat) (B : Nat → Nat) (ou i k n9 : Nat) (hi6 : i + 6 ≤ Ls) (hk : k + 1 ≤ 601024) (hn9 : n9 + 6 ≤ 7293034) (p1 : Nat) (hp1 : p1 < 4294967296) (e1 : xs (i + 1) = nI p1) (n : Nat) (tx r ho : Nat → Nat) (hs : Nat → vE) (zf wo sn : Nat → Nat) (e t s0 s1 : vE) (z rr g tr d kp ik y mt : Nat → Nat) (fo : Nat → Int64) (hI : LX (n, tx, r, ho, hs, zf, wo, sn, e, t, s0, s1, z, rr, g, tr, d, kp, ik, y, mt, fo)) (u5 u6 : Option Value)
    (kk : ∀ (σ : LSt) (k9 n8 : Nat) (v5 v6 : Option Value), LX σ → k9 ≤ k + 1 → n8 ≤ n9 + 6 → V l G (cL_law, 7, wsL_law, RL, room_1) Γ k9 n8 1635 [some (.ref b), some (.ref (A 0)), some (.ref (B 0)), some (.ref ou), some (.int (nI i)), v5, v6] [] (W25 G A ea B ou σ)) :
    V l G (cL_law, 7, wsL_law, RL, room_1) Γ k n9 1523 [some (.ref b), some (.ref (A 0)), some (.ref (B 0)), some (.ref ou), some (.int (nI i)), u5, u6] [] [oO A ea n, iA G (A 1) 140 tx, tR (A 2) r, eK G (ea 14) e, eK G (ea 15) t, hO (A 3) (A 7) ho, hA G (A 7) ea, hK G ea hs, sA G A ea, zA G (A 5) 2 zf, wO (A 6) (A 8) wo, iA G (A 8) 96 sn, eK G (ea 16) s0, eK G (ea 17) s1, mO B z, iA G (B 1) 140 tx, iA G (B 2) 427 rr, iA G (B 3) 427 g, iA G (B 4) 427 tr, iA G (B 5) 5978 d, iA G (B 6) 854 kp, zA G (B 7) 2 ik, iA G (B 8) 96 y, zA G (B 9) 96 mt, lA G ou fo] := by
  obtain ⟨⟨h1, hn, ht, hr, he, het, hR, hH, hS⟩, hW⟩ := id hI
  refine V_aload_n (i := 1) dL_law_1523 rfl rfl ?_
  refine V_aload_n (i := 0) dL_law_1524 rfl rfl ?_
  refine V_iload (i := 4) dL_law_1525 rfl ?_
  refine V_iconst (v := 1) dL_law_1527 rfl ?_
  refine V_iadd dL_law_1528 ?_
  refine V_sld hS9 (by omega) e1 dL_law_1529 ?_
  refine V_aload_n (i := 3) dL_law_1530 rfl rfl ?_
  refine V_callSW (As := _) (rest := []) [0, 8, 9, 12, 13, 3, 24] hE9 hZ9 hN9 (c_L_save l hst G A ea zf n p1 e s0 s1 hp1 ou fo) rfl ⟨by decide +kernel, by decide +kernel, by simp only [List.length_cons, List.length_nil]; decide +kernel⟩ gL_law_L_save rfl rfl rfl rfl ⟨rfl, rfl⟩ ⟨rfl, rfl⟩ ⟨hk, hn9⟩ rfl dL_law_1531 (fun v Y hE => ?_)
  rcases hE with ⟨hc, rfl, rfl⟩ | ⟨hc, rfl, rfl⟩
  · refine ⟨rfl, ?_⟩
    dsimp only [vfill, List.set_cons_zero, List.set_cons_succ, Option.toList, List.cons_append, List.nil_append, Nat.add_zero]
    refine V_istore (i := 5) dL_law_1534 rfl rfl ?_
    dsimp only [List.set_cons_zero, List.set_cons_succ]
    refine V_aload_n (i := 2) dL_law_1536 rfl rfl ?_
    refine V_aload_n (i := 0) dL_law_1537 rfl rfl ?_
    refine V_iload (i := 4) dL_law_1538 rfl ?_
    refine V_iconst (v := 1) dL_law_1540 rfl ?_
    refine V_iadd dL_law_1541 ?_
    refine V_sld hS9 (by omega) e1 dL_law_1542 ?_
    refine V_callV (C := RX7) (q := 0) (ci := 6) (As := _) (rest := []) [14, 17, 20, 21] (c_X7_save l G B z g kp ik p1 hp1) vy_X7_save gL_law_X7_save rfl rfl rfl rfl rfl rfl rfl ⟨rfl, rfl⟩ ⟨rfl, rfl⟩ ⟨hk, hn9⟩ rfl dL_law_1543 (fun v Y hE => ?_)
    rcases hE with ⟨m1, rfl, rfl⟩ | ⟨m1, rfl, rfl⟩
    · exfalso
      omega
    · refine ⟨rfl, ?_⟩
      dsimp only [vfill, w3, List.set_cons_zero, List.set_cons_succ, Option.toList, List.cons_append, List.nil_append, Nat.add_zero]
      have hv := congrArg nI hR.2.2.2.2.1.1.symm
      refine V_istore (i := 6) dL_law_1546 rfl rfl ?_
      dsimp only [List.set_cons_zero, List.set_cons_succ]
      refine V_aload_n (i := 2) dL_law_1548 rfl rfl ?_
      refine V_callV (C := RX7) (q := 0) (ci := 6) (As := []) (rest := []) [14] (c_X7_thrown l G B (va_up z 0 0)) vy_X7_thrown gL_law_X7_thrown rfl rfl rfl rfl rfl rfl rfl ⟨rfl, rfl⟩ ⟨rfl, rfl⟩ ⟨hk, hn9⟩ rfl dL_law_1549 (fun v Y hE => ?_)
      obtain ⟨rfl, rfl⟩ := hE
      refine ⟨rfl, ?_⟩
      dsimp only [vfill, List.set_cons_zero, List.set_cons_succ, Option.toList, List.cons_append, List.nil_append, Nat.add_zero]
      refine V_top (b := 0) rfl ?_
      refine V_iload (i := 5) dL_law_1552 rfl ?_
      refine V_icmp_eq (tgt := 1559) (by omega) (by omega) dL_law_1554 rfl (fun h_1554 => ?_) (fun h_1554 => ?_)
      · refine V_iload (i := 5) dL_law_1559 rfl ?_
        refine V_if_ne (tgt := 1576) (by omega) dL_law_1561 rfl (fun h_1561 => ?_) (fun h_1561 => ?_)
        · exfalso; omega
        · refine V_aload_n (i := 3) dL_law_1564 rfl rfl ?_
          refine V_iconst (v := 0) dL_law_1565 rfl ?_
          refine V_lald (q := 24) rfl (by omega) rfl dL_law_1566 ?_
          refine V_iload (i := 6) dL_law_1567 rfl ?_
          refine V_i2l dL_law_1569 ?_
          refine V_lcmp (v := 0) dL_law_1570 (lcq hv) ?_
          refine V_if_eq (tgt := 1576) (by omega) dL_law_1571 rfl (fun h_1571 => ?_) (fun h_1571 => ?_)
          · refine V_goto (tgt := 1635) dL_law_1576 rfl ?_
            exact kk (n, tx, r, ho, hs, (va_up zf p1 1), wo, sn, e, t, (if p1 = 0 then cpC s0 e else s0), (if p1 = 0 then s1 else cpC s1 e), (va_up z 0 0), rr, g, tr, d, (cpE 427 g 0 kp (427 * p1)), (va_up ik p1 1), y, mt, _) _ _ _ _ ⟨⟨(up_n (by decide)).trans h1, hn, ht, hr, he, het, hR, hH.upd (by decide), hS.save hR he hc⟩, hW.upd (by decide) (by decide)⟩ (by omega) (by omega)
          · exfalso; omega
      · exfalso; omega
  · refine ⟨rfl, ?_⟩
    dsimp only [vfill, List.set_cons_zero, List.set_cons_succ, Option.toList, List.cons_append, List.nil_append, Nat.add_zero]
    refine V_istore (i := 5) dL_law_1534 rfl rfl ?_
    dsimp only [List.set_cons_zero, List.set_cons_succ]
    refine V_aload_n (i := 2) dL_law_1536 rfl rfl ?_
    refine V_aload_n (i := 0) dL_law_1537 rfl rfl ?_
    refine V_iload (i := 4) dL_law_1538 rfl ?_
    refine V_iconst (v := 1) dL_law_1540 rfl ?_
    refine V_iadd dL_law_1541 ?_
    refine V_sld hS9 (by omega) e1 dL_law_1542 ?_
    refine V_callV (C := RX7) (q := 0) (ci := 6) (As := _) (rest := []) [14, 17, 20, 21] (c_X7_save l G B z g kp ik p1 hp1) vy_X7_save gL_law_X7_save rfl rfl rfl rfl rfl rfl rfl ⟨rfl, rfl⟩ ⟨rfl, rfl⟩ ⟨hk, hn9⟩ rfl dL_law_1543 (fun v Y hE => ?_)
    rcases hE with ⟨m1, rfl, rfl⟩ | ⟨m1, rfl, rfl⟩
    · refine ⟨rfl, ?_⟩
      dsimp only [vfill, w3, List.set_cons_zero, List.set_cons_succ, Option.toList, List.cons_append, List.nil_append, Nat.add_zero]
      refine V_istore (i := 6) dL_law_1546 rfl rfl ?_
      dsimp only [List.set_cons_zero, List.set_cons_succ]
      refine V_aload_n (i := 2) dL_law_1548 rfl rfl ?_
      refine V_callV (C := RX7) (q := 0) (ci := 6) (As := []) (rest := []) [14] (c_X7_thrown l G B (va_up z 0 1)) vy_X7_thrown gL_law_X7_thrown rfl rfl rfl rfl rfl rfl rfl ⟨rfl, rfl⟩ ⟨rfl, rfl⟩ ⟨hk, hn9⟩ rfl dL_law_1549 (fun v Y hE => ?_)
      obtain ⟨rfl, rfl⟩ := hE
      refine ⟨rfl, ?_⟩
      dsimp only [vfill, List.set_cons_zero, List.set_cons_succ, Option.toList, List.cons_append, List.nil_append, Nat.add_zero]
      refine V_top (b := 1) rfl ?_
      refine V_iload (i := 5) dL_law_1552 rfl ?_
      refine V_icmp_eq (tgt := 1559) (by omega) (by omega) dL_law_1554 rfl (fun h_1554 => ?_) (fun h_1554 => ?_)
      · refine V_iload (i := 5) dL_law_1559 rfl ?_
        refine V_if_ne (tgt := 1576) (by omega) dL_law_1561 rfl (fun h_1561 => ?_) (fun h_1561 => ?_)
        · refine V_goto (tgt := 1635) dL_law_1576 rfl ?_
          exact kk (n, tx, r, ho, hs, zf, wo, sn, e, t, s0, s1, (va_up z 0 1), rr, g, tr, d, kp, ik, y, mt, _) _ _ _ _ ⟨⟨(up_n (by decide)).trans h1, hn, ht, hr, he, het, hR, hH.upd (by decide), hS⟩, hW.upd (by decide) (by decide)⟩ (by omega) (by omega)
        · exfalso; omega
      · exfalso; omega
    · exfalso
      omega

set_option maxHeartbeats 4000000 in
set_option maxRecDepth 100000 in
theorem L_restore (l : Launch) (hst : l.stackTraces = false) (G : vG) (Γ : vF) (b Ls : Nat) (xs : Nat → Int32) (hS9 : vScr Γ b Ls xs) (hE9 : vE9 Γ.2.2.1) (hZ9 : vZ Γ.2.2.2.2.2.2.2.2.2 Γ.2.2.1 Γ.2.2.1.heap) (hN9 : vNC Γ.2.2.1) (A : Nat → Nat) (ea : Nat → Nat → Nat) (B : Nat → Nat) (ou i k n9 : Nat) (hi6 : i + 6 ≤ Ls) (hk : k + 1 ≤ 601024) (hn9 : n9 + 6 ≤ 7293034) (p1 : Nat) (hp1 : p1 < 4294967296) (e1 : xs (i + 1) = nI p1) (n : Nat) (tx r ho : Nat → Nat) (hs : Nat → vE) (zf wo sn : Nat → Nat) (e t s0 s1 : vE) (z rr g tr d kp ik y mt : Nat → Nat) (fo : Nat → Int64) (hI : LX (n, tx, r, ho, hs, zf, wo, sn, e, t, s0, s1, z, rr, g, tr, d, kp, ik, y, mt, fo)) (u5 u6 : Option Value)
    (kk : ∀ (σ : LSt) (k9 n8 : Nat) (v5 v6 : Option Value), LX σ → k9 ≤ k + 1 → n8 ≤ n9 + 6 → V l G (cL_law, 7, wsL_law, RL, room_1) Γ k9 n8 1635 [some (.ref b), some (.ref (A 0)), some (.ref (B 0)), some (.ref ou), some (.int (nI i)), v5, v6] [] (W25 G A ea B ou σ)) :
    V l G (cL_law, 7, wsL_law, RL, room_1) Γ k n9 1579 [some (.ref b), some (.ref (A 0)), some (.ref (B 0)), some (.ref ou), some (.int (nI i)), u5, u6] [] [oO A ea n, iA G (A 1) 140 tx, tR (A 2) r, eK G (ea 14) e, eK G (ea 15) t, hO (A 3) (A 7) ho, hA G (A 7) ea, hK G ea hs, sA G A ea, zA G (A 5) 2 zf, wO (A 6) (A 8) wo, iA G (A 8) 96 sn, eK G (ea 16) s0, eK G (ea 17) s1, mO B z, iA G (B 1) 140 tx, iA G (B 2) 427 rr, iA G (B 3) 427 g, iA G (B 4) 427 tr, iA G (B 5) 5978 d, iA G (B 6) 854 kp, zA G (B 7) 2 ik, iA G (B 8) 96 y, zA G (B 9) 96 mt, lA G ou fo] := by
  obtain ⟨⟨h1, hn, ht, hr, he, het, hR, hH, hS⟩, hW⟩ := id hI
  have hik : p1 < 2 → ik p1 = zf p1 ∧ zf p1 < 2 := fun h9 => hS.1 p1 h9
  refine V_aload_n (i := 1) dL_law_1579 rfl rfl ?_
  refine V_aload_n (i := 0) dL_law_1580 rfl rfl ?_
  refine V_iload (i := 4) dL_law_1581 rfl ?_
  refine V_iconst (v := 1) dL_law_1583 rfl ?_
  refine V_iadd dL_law_1584 ?_
  refine V_sld hS9 (by omega) e1 dL_law_1585 ?_
  refine V_aload_n (i := 3) dL_law_1586 rfl rfl ?_
  refine V_callSW (As := _) (rest := []) [0, 8, 9, 12, 13, 5, 3, 24] hE9 hZ9 hN9 (c_L_restore l hst G A ea zf ho n p1 e s0 s1 hp1 (fun k hk => (hS.1 k hk).2) ou fo) rfl ⟨by decide +kernel, by decide +kernel, by simp only [List.length_cons, List.length_nil]; decide +kernel⟩ gL_law_L_restore rfl rfl rfl rfl ⟨rfl, rfl⟩ ⟨rfl, rfl⟩ ⟨hk, hn9⟩ rfl dL_law_1587 (fun v Y hE => ?_)
  rcases hE with ⟨hc, rfl, rfl⟩ | ⟨hc, rfl, rfl⟩ | ⟨hc, rfl, rfl⟩
  · refine ⟨rfl, ?_⟩
    dsimp only [vfill, List.set_cons_zero, List.set_cons_succ, Option.toList, List.cons_append, List.nil_append, Nat.add_zero]
    refine V_istore (i := 5) dL_law_1590 rfl rfl ?_
    dsimp only [List.set_cons_zero, List.set_cons_succ]
    refine V_aload_n (i := 2) dL_law_1592 rfl rfl ?_
    refine V_aload_n (i := 0) dL_law_1593 rfl rfl ?_
    refine V_iload (i := 4) dL_law_1594 rfl ?_
    refine V_iconst (v := 1) dL_law_1596 rfl ?_
    refine V_iadd dL_law_1597 ?_
    refine V_sld hS9 (by omega) e1 dL_law_1598 ?_
    refine V_callV (C := RX7) (q := 0) (ci := 6) (As := _) (rest := []) [14, 17, 20, 21] (c_X7_restore l G B z g kp ik p1 hp1 (fun k hk => by have := hS.1 k hk; omega)) vy_X7_restore gL_law_X7_restore rfl rfl rfl rfl rfl rfl rfl ⟨rfl, rfl⟩ ⟨rfl, rfl⟩ ⟨hk, hn9⟩ rfl dL_law_1599 (fun v Y hE => ?_)
    rcases hE with ⟨m1, rfl, rfl⟩ | ⟨m1, m2, rfl, rfl⟩ | ⟨m1, m2, rfl, rfl⟩
    · exfalso
      omega
    · exfalso
      omega
    · refine ⟨rfl, ?_⟩
      dsimp only [vfill, w3, List.set_cons_zero, List.set_cons_succ, Option.toList, List.cons_append, List.nil_append, Nat.add_zero]
      have hG := hS.get hc.1 hc.2
      have hv : nI ((if p1 = 0 then s0 else s1).2.2.2.2.2.1 1) = nI (kp (427 * p1 + 423)) := congrArg nI hG.1.2.2.2.2.1.1.symm
      refine V_istore (i := 6) dL_law_1602 rfl rfl ?_
      dsimp only [List.set_cons_zero, List.set_cons_succ]
      refine V_aload_n (i := 2) dL_law_1604 rfl rfl ?_
      refine V_callV (C := RX7) (q := 0) (ci := 6) (As := []) (rest := []) [14] (c_X7_thrown l G B (va_up (va_up z 0 0) 3 0)) vy_X7_thrown gL_law_X7_thrown rfl rfl rfl rfl rfl rfl rfl ⟨rfl, rfl⟩ ⟨rfl, rfl⟩ ⟨hk, hn9⟩ rfl dL_law_1605 (fun v Y hE => ?_)
      obtain ⟨rfl, rfl⟩ := hE
      refine ⟨rfl, ?_⟩
      dsimp only [vfill, List.set_cons_zero, List.set_cons_succ, Option.toList, List.cons_append, List.nil_append, Nat.add_zero]
      refine V_top (b := 0) rfl ?_
      refine V_iload (i := 5) dL_law_1608 rfl ?_
      refine V_icmp_eq (tgt := 1615) (by omega) (by omega) dL_law_1610 rfl (fun h_1610 => ?_) (fun h_1610 => ?_)
      · refine V_iload (i := 5) dL_law_1615 rfl ?_
        refine V_if_ne (tgt := 1632) (by omega) dL_law_1617 rfl (fun h_1617 => ?_) (fun h_1617 => ?_)
        · exfalso; omega
        · refine V_aload_n (i := 3) dL_law_1620 rfl rfl ?_
          refine V_iconst (v := 0) dL_law_1621 rfl ?_
          refine V_lald (q := 24) rfl (by omega) rfl dL_law_1622 ?_
          refine V_iload (i := 6) dL_law_1623 rfl ?_
          refine V_i2l dL_law_1625 ?_
          refine V_lcmp (v := 0) dL_law_1626 (lcq hv) ?_
          refine V_if_eq (tgt := 1632) (by omega) dL_law_1627 rfl (fun h_1627 => ?_) (fun h_1627 => ?_)
          · refine V_goto (tgt := 1635) dL_law_1632 rfl ?_
            exact kk (n, tx, r, (va_up ho 1 0), hs, zf, wo, sn, (cpC e (if p1 = 0 then s0 else s1)), t, s0, s1, (va_up (va_up z 0 0) 3 0), rr, (cpE 427 kp (427 * p1) g 0), tr, d, kp, ik, y, mt, _) _ _ _ _ ⟨⟨(up_n (by decide)).trans ((up_n (by decide)).trans h1), hn, ht, hr, eB_cp hG.2, het, hG.1.copy.cong (fun k hk => cpE_back hk), hH.forget up_s, hS⟩, (hW.upd (by decide) (by decide)).upd (by decide) (by decide)⟩ (by omega) (by omega)
          · exfalso; omega
      · exfalso; omega
  · refine ⟨rfl, ?_⟩
    dsimp only [vfill, List.set_cons_zero, List.set_cons_succ, Option.toList, List.cons_append, List.nil_append, Nat.add_zero]
    refine V_istore (i := 5) dL_law_1590 rfl rfl ?_
    dsimp only [List.set_cons_zero, List.set_cons_succ]
    refine V_aload_n (i := 2) dL_law_1592 rfl rfl ?_
    refine V_aload_n (i := 0) dL_law_1593 rfl rfl ?_
    refine V_iload (i := 4) dL_law_1594 rfl ?_
    refine V_iconst (v := 1) dL_law_1596 rfl ?_
    refine V_iadd dL_law_1597 ?_
    refine V_sld hS9 (by omega) e1 dL_law_1598 ?_
    refine V_callV (C := RX7) (q := 0) (ci := 6) (As := _) (rest := []) [14, 17, 20, 21] (c_X7_restore l G B z g kp ik p1 hp1 (fun k hk => by have := hS.1 k hk; omega)) vy_X7_restore gL_law_X7_restore rfl rfl rfl rfl rfl rfl rfl ⟨rfl, rfl⟩ ⟨rfl, rfl⟩ ⟨hk, hn9⟩ rfl dL_law_1599 (fun v Y hE => ?_)
    rcases hE with ⟨m1, rfl, rfl⟩ | ⟨m1, m2, rfl, rfl⟩ | ⟨m1, m2, rfl, rfl⟩
    · refine ⟨rfl, ?_⟩
      dsimp only [vfill, w3, List.set_cons_zero, List.set_cons_succ, Option.toList, List.cons_append, List.nil_append, Nat.add_zero]
      refine V_istore (i := 6) dL_law_1602 rfl rfl ?_
      dsimp only [List.set_cons_zero, List.set_cons_succ]
      refine V_aload_n (i := 2) dL_law_1604 rfl rfl ?_
      refine V_callV (C := RX7) (q := 0) (ci := 6) (As := []) (rest := []) [14] (c_X7_thrown l G B (va_up z 0 1)) vy_X7_thrown gL_law_X7_thrown rfl rfl rfl rfl rfl rfl rfl ⟨rfl, rfl⟩ ⟨rfl, rfl⟩ ⟨hk, hn9⟩ rfl dL_law_1605 (fun v Y hE => ?_)
      obtain ⟨rfl, rfl⟩ := hE
      refine ⟨rfl, ?_⟩
      dsimp only [vfill, List.set_cons_zero, List.set_cons_succ, Option.toList, List.cons_append, List.nil_append, Nat.add_zero]
      refine V_top (b := 1) rfl ?_
      refine V_iload (i := 5) dL_law_1608 rfl ?_
      refine V_icmp_eq (tgt := 1615) (by omega) (by omega) dL_law_1610 rfl (fun h_1610 => ?_) (fun h_1610 => ?_)
      · refine V_iload (i := 5) dL_law_1615 rfl ?_
        refine V_if_ne (tgt := 1632) (by omega) dL_law_1617 rfl (fun h_1617 => ?_) (fun h_1617 => ?_)
        · refine V_goto (tgt := 1635) dL_law_1632 rfl ?_
          exact kk (n, tx, r, ho, hs, zf, wo, sn, e, t, s0, s1, (va_up z 0 1), rr, g, tr, d, kp, ik, y, mt, _) _ _ _ _ ⟨⟨(up_n (by decide)).trans h1, hn, ht, hr, he, het, hR, hH.upd (by decide), hS⟩, hW.upd (by decide) (by decide)⟩ (by omega) (by omega)
        · exfalso; omega
      · exfalso; omega
    · exfalso
      omega
    · exfalso
      omega
  · refine ⟨rfl, ?_⟩
    dsimp only [vfill, List.set_cons_zero, List.set_cons_succ, Option.toList, List.cons_append, List.nil_append, Nat.add_zero]
    refine V_istore (i := 5) dL_law_1590 rfl rfl ?_
    dsimp only [List.set_cons_zero, List.set_cons_succ]
    refine V_aload_n (i := 2) dL_law_1592 rfl rfl ?_
    refine V_aload_n (i := 0) dL_law_1593 rfl rfl ?_
    refine V_iload (i := 4) dL_law_1594 rfl ?_
    refine V_iconst (v := 1) dL_law_1596 rfl ?_
    refine V_iadd dL_law_1597 ?_
    refine V_sld hS9 (by omega) e1 dL_law_1598 ?_
    refine V_callV (C := RX7) (q := 0) (ci := 6) (As := _) (rest := []) [14, 17, 20, 21] (c_X7_restore l G B z g kp ik p1 hp1 (fun k hk => by have := hS.1 k hk; omega)) vy_X7_restore gL_law_X7_restore rfl rfl rfl rfl rfl rfl rfl ⟨rfl, rfl⟩ ⟨rfl, rfl⟩ ⟨hk, hn9⟩ rfl dL_law_1599 (fun v Y hE => ?_)
    rcases hE with ⟨m1, rfl, rfl⟩ | ⟨m1, m2, rfl, rfl⟩ | ⟨m1, m2, rfl, rfl⟩
    · exfalso
      omega
    · refine ⟨rfl, ?_⟩
      dsimp only [vfill, w3, List.set_cons_zero, List.set_cons_succ, Option.toList, List.cons_append, List.nil_append, Nat.add_zero]
      refine V_istore (i := 6) dL_law_1602 rfl rfl ?_
      dsimp only [List.set_cons_zero, List.set_cons_succ]
      refine V_aload_n (i := 2) dL_law_1604 rfl rfl ?_
      refine V_callV (C := RX7) (q := 0) (ci := 6) (As := []) (rest := []) [14] (c_X7_thrown l G B (va_up z 0 2)) vy_X7_thrown gL_law_X7_thrown rfl rfl rfl rfl rfl rfl rfl ⟨rfl, rfl⟩ ⟨rfl, rfl⟩ ⟨hk, hn9⟩ rfl dL_law_1605 (fun v Y hE => ?_)
      obtain ⟨rfl, rfl⟩ := hE
      refine ⟨rfl, ?_⟩
      dsimp only [vfill, List.set_cons_zero, List.set_cons_succ, Option.toList, List.cons_append, List.nil_append, Nat.add_zero]
      refine V_top (b := 2) rfl ?_
      refine V_iload (i := 5) dL_law_1608 rfl ?_
      refine V_icmp_eq (tgt := 1615) (by omega) (by omega) dL_law_1610 rfl (fun h_1610 => ?_) (fun h_1610 => ?_)
      · refine V_iload (i := 5) dL_law_1615 rfl ?_
        refine V_if_ne (tgt := 1632) (by omega) dL_law_1617 rfl (fun h_1617 => ?_) (fun h_1617 => ?_)
        · refine V_goto (tgt := 1635) dL_law_1632 rfl ?_
          exact kk (n, tx, r, ho, hs, zf, wo, sn, e, t, s0, s1, (va_up z 0 2), rr, g, tr, d, kp, ik, y, mt, _) _ _ _ _ ⟨⟨(up_n (by decide)).trans h1, hn, ht, hr, he, het, hR, hH.upd (by decide), hS⟩, hW.upd (by decide) (by decide)⟩ (by omega) (by omega)
        · exfalso; omega
      · exfalso; omega
    · exfalso
      omega

set_option maxHeartbeats 4000000 in
set_option maxRecDepth 100000 in
theorem L_load (l : Launch) (hst : l.stackTraces = false) (G : vG) (Γ : vF) (b Ls : Nat) (xs : Nat → Int32) (hS9 : vScr Γ b Ls xs) (hE9 : vE9 Γ.2.2.1) (hZ9 : vZ Γ.2.2.2.2.2.2.2.2.2 Γ.2.2.1 Γ.2.2.1.heap) (hN9 : vNC Γ.2.2.1) (A : Nat → Nat) (ea : Nat → Nat → Nat) (B : Nat → Nat) (ou i k n9 : Nat) (hi6 : i + 6 ≤ Ls) (hk : k + 1 ≤ 601024) (hn9 : n9 + 6 ≤ 7293034)  (n : Nat) (tx r ho : Nat → Nat) (hs : Nat → vE) (zf wo sn : Nat → Nat) (e t s0 s1 : vE) (z rr g tr d kp ik y mt : Nat → Nat) (fo : Nat → Int64) (hI : LX (n, tx, r, ho, hs, zf, wo, sn, e, t, s0, s1, z, rr, g, tr, d, kp, ik, y, mt, fo)) (u5 u6 : Option Value)
    (kk : ∀ (σ : LSt) (k9 n8 : Nat) (v5 v6 : Option Value), LX σ → k9 ≤ k + 1 → n8 ≤ n9 + 6 → V l G (cL_law, 7, wsL_law, RL, room_1) Γ k9 n8 1635 [some (.ref b), some (.ref (A 0)), some (.ref (B 0)), some (.ref ou), some (.int (nI i)), v5, v6] [] (W25 G A ea B ou σ)) :
    V l G (cL_law, 7, wsL_law, RL, room_1) Γ k n9 238 [some (.ref b), some (.ref (A 0)), some (.ref (B 0)), some (.ref ou), some (.int (nI i)), u5, u6] [] [oO A ea n, iA G (A 1) 140 tx, tR (A 2) r, eK G (ea 14) e, eK G (ea 15) t, hO (A 3) (A 7) ho, hA G (A 7) ea, hK G ea hs, sA G A ea, zA G (A 5) 2 zf, wO (A 6) (A 8) wo, iA G (A 8) 96 sn, eK G (ea 16) s0, eK G (ea 17) s1, mO B z, iA G (B 1) 140 tx, iA G (B 2) 427 rr, iA G (B 3) 427 g, iA G (B 4) 427 tr, iA G (B 5) 5978 d, iA G (B 6) 854 kp, zA G (B 7) 2 ik, iA G (B 8) 96 y, zA G (B 9) 96 mt, lA G ou fo] := by
  obtain ⟨⟨h1, hn, ht, hr, he, het, hR, hH, hS⟩, hW⟩ := id hI
  subst h1
  have HP := rEg_psT (r := rr) (tx := tx) (r0 := r) (t := t) hn
  have HB := psT_B tx (z 1) 0 (va_up (va_up (va_up r 0 0) 2 0) 3 0, rsC t) (rB_0 hr) (eB_reset het)
  refine V_aload_n (i := 1) dL_law_238 rfl rfl ?_
  refine V_aload_n (i := 3) dL_law_239 rfl rfl ?_
  refine V_callSW (As := _) (rest := []) [0, 2, 4, 1, 3, 5, 9, 24] hE9 hZ9 hN9 (c_L_load l hst G A ea r tx t (z 1) hn ht hr het e ho zf ou fo) rfl ⟨by decide +kernel, by decide +kernel, by simp only [List.length_cons, List.length_nil]; decide +kernel⟩ gL_law_L_load rfl rfl rfl rfl ⟨rfl, rfl⟩ ⟨rfl, rfl⟩ ⟨hk, hn9⟩ rfl dL_law_240 (fun v Y hE => ?_)
  rcases hE with ⟨hc, rfl, rfl⟩ | ⟨hc, rfl, rfl⟩
  · refine ⟨rfl, ?_⟩
    dsimp only [vfill, List.set_cons_zero, List.set_cons_succ, Option.toList, List.cons_append, List.nil_append, Nat.add_zero]
    refine V_istore (i := 5) dL_law_243 rfl rfl ?_
    dsimp only [List.set_cons_zero, List.set_cons_succ]
    refine V_aload_n (i := 2) dL_law_245 rfl rfl ?_
    refine V_callV (C := RX7) (q := 0) (ci := 6) (As := []) (rest := []) [14, 15, 16, 17, 21] (c_X7_load l G B z rr tx g ik hn ht) vy_X7_load gL_law_X7_load rfl rfl rfl rfl rfl rfl rfl ⟨rfl, rfl⟩ ⟨rfl, rfl⟩ ⟨hk, hn9⟩ rfl dL_law_246 (fun v Y hE => ?_)
    rcases hE with ⟨m1, rfl, rfl⟩ | ⟨m1, rfl, rfl⟩
    · exfalso
      rcases HP with ⟨a, b, c⟩ | ⟨a, b, c⟩ <;> omega
    · refine ⟨rfl, ?_⟩
      dsimp only [vfill, w3, List.set_cons_zero, List.set_cons_succ, Option.toList, List.cons_append, List.nil_append, Nat.add_zero]
      have HR9 : Rel (rEg z rr tx).2.2 (psT tx (z 1) 0 (va_up (va_up (va_up r 0 0) 2 0) 3 0, rsC t)).2.2 := HP.elim (fun q => absurd q.1 m1) (fun q => q.2.2)
      have hv := congrArg nI (Rel.count (HR9.cong (g' := cpE 427 (rEg z rr tx).2.2 0 g 0) fun k hk => cpE_0427 hk) 1).symm
      refine V_istore (i := 6) dL_law_249 rfl rfl ?_
      dsimp only [List.set_cons_zero, List.set_cons_succ]
      refine V_aload_n (i := 2) dL_law_251 rfl rfl ?_
      refine V_callV (C := RX7) (q := 0) (ci := 6) (As := []) (rest := []) [14] (c_X7_thrown l G B (va_up (va_up (rEg z rr tx).2.1 0 0) 3 0)) vy_X7_thrown gL_law_X7_thrown rfl rfl rfl rfl rfl rfl rfl ⟨rfl, rfl⟩ ⟨rfl, rfl⟩ ⟨hk, hn9⟩ rfl dL_law_252 (fun v Y hE => ?_)
      obtain ⟨rfl, rfl⟩ := hE
      refine ⟨rfl, ?_⟩
      dsimp only [vfill, List.set_cons_zero, List.set_cons_succ, Option.toList, List.cons_append, List.nil_append, Nat.add_zero]
      refine V_top (b := 0) rfl ?_
      refine V_iload (i := 5) dL_law_255 rfl ?_
      refine V_icmp_eq (tgt := 262) (by omega) (by omega) dL_law_257 rfl (fun h_257 => ?_) (fun h_257 => ?_)
      · refine V_iload (i := 5) dL_law_262 rfl ?_
        refine V_if_ne (tgt := 279) (by omega) dL_law_264 rfl (fun h_264 => ?_) (fun h_264 => ?_)
        · exfalso; omega
        · refine V_aload_n (i := 3) dL_law_267 rfl rfl ?_
          refine V_iconst (v := 0) dL_law_268 rfl ?_
          refine V_lald (q := 24) rfl (by omega) rfl dL_law_269 ?_
          refine V_iload (i := 6) dL_law_270 rfl ?_
          refine V_i2l dL_law_272 ?_
          refine V_lcmp (v := 0) dL_law_273 (lcq hv) ?_
          refine V_if_eq (tgt := 279) (by omega) dL_law_274 rfl (fun h_274 => ?_) (fun h_274 => ?_)
          · refine V_goto (tgt := 1635) dL_law_279 rfl ?_
            exact kk ((z 1), tx, (psT tx (z 1) 0 (va_up (va_up (va_up r 0 0) 2 0) 3 0, rsC t)).2.1, (va_up ho 1 0), hs, (va_up (va_up zf 0 0) 1 0), wo, sn, (cpC e (psT tx (z 1) 0 (va_up (va_up (va_up r 0 0) 2 0) 3 0, rsC t)).2.2), (psT tx (z 1) 0 (va_up (va_up (va_up r 0 0) 2 0) 3 0, rsC t)).2.2, s0, s1, (va_up (va_up (rEg z rr tx).2.1 0 0) 3 0), (rEg z rr tx).2.2, (cpE 427 (rEg z rr tx).2.2 0 g 0), tr, d, kp, (va_up (va_up ik 0 0) 1 0), y, mt, _) _ _ _ _ ⟨⟨(up_n (by decide)).trans ((up_n (by decide)).trans (rEg_k (by decide) (by decide) (by decide))), hn, ht, HB.1, eB_cp HB.2, HB.2, HR9.copy.cong (fun k hk => cpE_0427 hk), hH.forget up_s, SR.none⟩, ((hW.cong (rEg_k (by decide) (by decide) (by decide)) (rEg_k (by decide) (by decide) (by decide))).upd (by decide) (by decide)).upd (by decide) (by decide)⟩ (by omega) (by omega)
          · exfalso; omega
      · exfalso; omega
  · refine ⟨rfl, ?_⟩
    dsimp only [vfill, List.set_cons_zero, List.set_cons_succ, Option.toList, List.cons_append, List.nil_append, Nat.add_zero]
    refine V_istore (i := 5) dL_law_243 rfl rfl ?_
    dsimp only [List.set_cons_zero, List.set_cons_succ]
    refine V_aload_n (i := 2) dL_law_245 rfl rfl ?_
    refine V_callV (C := RX7) (q := 0) (ci := 6) (As := []) (rest := []) [14, 15, 16, 17, 21] (c_X7_load l G B z rr tx g ik hn ht) vy_X7_load gL_law_X7_load rfl rfl rfl rfl rfl rfl rfl ⟨rfl, rfl⟩ ⟨rfl, rfl⟩ ⟨hk, hn9⟩ rfl dL_law_246 (fun v Y hE => ?_)
    rcases hE with ⟨m1, rfl, rfl⟩ | ⟨m1, rfl, rfl⟩
    · refine ⟨rfl, ?_⟩
      dsimp only [vfill, w3, List.set_cons_zero, List.set_cons_succ, Option.toList, List.cons_append, List.nil_append, Nat.add_zero]
      refine V_istore (i := 6) dL_law_249 rfl rfl ?_
      dsimp only [List.set_cons_zero, List.set_cons_succ]
      refine V_aload_n (i := 2) dL_law_251 rfl rfl ?_
      refine V_callV (C := RX7) (q := 0) (ci := 6) (As := []) (rest := []) [14] (c_X7_thrown l G B (va_up (rEg z rr tx).2.1 0 1)) vy_X7_thrown gL_law_X7_thrown rfl rfl rfl rfl rfl rfl rfl ⟨rfl, rfl⟩ ⟨rfl, rfl⟩ ⟨hk, hn9⟩ rfl dL_law_252 (fun v Y hE => ?_)
      obtain ⟨rfl, rfl⟩ := hE
      refine ⟨rfl, ?_⟩
      dsimp only [vfill, List.set_cons_zero, List.set_cons_succ, Option.toList, List.cons_append, List.nil_append, Nat.add_zero]
      refine V_top (b := 1) rfl ?_
      refine V_iload (i := 5) dL_law_255 rfl ?_
      refine V_icmp_eq (tgt := 262) (by omega) (by omega) dL_law_257 rfl (fun h_257 => ?_) (fun h_257 => ?_)
      · refine V_iload (i := 5) dL_law_262 rfl ?_
        refine V_if_ne (tgt := 279) (by omega) dL_law_264 rfl (fun h_264 => ?_) (fun h_264 => ?_)
        · refine V_goto (tgt := 1635) dL_law_279 rfl ?_
          exact kk ((z 1), tx, (psT tx (z 1) 0 (va_up (va_up (va_up r 0 0) 2 0) 3 0, rsC t)).2.1, ho, hs, zf, wo, sn, e, (psT tx (z 1) 0 (va_up (va_up (va_up r 0 0) 2 0) 3 0, rsC t)).2.2, s0, s1, (va_up (rEg z rr tx).2.1 0 1), (rEg z rr tx).2.2, g, tr, d, kp, ik, y, mt, _) _ _ _ _ ⟨⟨(up_n (by decide)).trans (rEg_k (by decide) (by decide) (by decide)), hn, ht, HB.1, he, HB.2, hR, (hH.cong (rEg_k (by decide) (by decide) (by decide))).upd (by decide), hS⟩, (hW.cong (rEg_k (by decide) (by decide) (by decide)) (rEg_k (by decide) (by decide) (by decide))).upd (by decide) (by decide)⟩ (by omega) (by omega)
        · exfalso; omega
      · exfalso; omega
    · exfalso
      rcases HP with ⟨a, b, c⟩ | ⟨a, b, c⟩ <;> omega

set_option maxHeartbeats 4000000 in
set_option maxRecDepth 100000 in
theorem L_clearText (l : Launch) (hst : l.stackTraces = false) (G : vG) (Γ : vF) (b Ls : Nat) (xs : Nat → Int32) (hS9 : vScr Γ b Ls xs) (hE9 : vE9 Γ.2.2.1) (hZ9 : vZ Γ.2.2.2.2.2.2.2.2.2 Γ.2.2.1 Γ.2.2.1.heap) (hN9 : vNC Γ.2.2.1) (A : Nat → Nat) (ea : Nat → Nat → Nat) (B : Nat → Nat) (ou i k n9 : Nat) (hi6 : i + 6 ≤ Ls) (hk : k + 1 ≤ 601024) (hn9 : n9 + 6 ≤ 7293034)  (n : Nat) (tx r ho : Nat → Nat) (hs : Nat → vE) (zf wo sn : Nat → Nat) (e t s0 s1 : vE) (z rr g tr d kp ik y mt : Nat → Nat) (fo : Nat → Int64) (hI : LX (n, tx, r, ho, hs, zf, wo, sn, e, t, s0, s1, z, rr, g, tr, d, kp, ik, y, mt, fo)) (u5 u6 : Option Value)
    (kk : ∀ (σ : LSt) (k9 n8 : Nat) (v5 v6 : Option Value), LX σ → k9 ≤ k + 1 → n8 ≤ n9 + 6 → V l G (cL_law, 7, wsL_law, RL, room_1) Γ k9 n8 1635 [some (.ref b), some (.ref (A 0)), some (.ref (B 0)), some (.ref ou), some (.int (nI i)), v5, v6] [] (W25 G A ea B ou σ)) :
    V l G (cL_law, 7, wsL_law, RL, room_1) Γ k n9 212 [some (.ref b), some (.ref (A 0)), some (.ref (B 0)), some (.ref ou), some (.int (nI i)), u5, u6] [] [oO A ea n, iA G (A 1) 140 tx, tR (A 2) r, eK G (ea 14) e, eK G (ea 15) t, hO (A 3) (A 7) ho, hA G (A 7) ea, hK G ea hs, sA G A ea, zA G (A 5) 2 zf, wO (A 6) (A 8) wo, iA G (A 8) 96 sn, eK G (ea 16) s0, eK G (ea 17) s1, mO B z, iA G (B 1) 140 tx, iA G (B 2) 427 rr, iA G (B 3) 427 g, iA G (B 4) 427 tr, iA G (B 5) 5978 d, iA G (B 6) 854 kp, zA G (B 7) 2 ik, iA G (B 8) 96 y, zA G (B 9) 96 mt, lA G ou fo] := by
  have hk0 : k + 0 ≤ 601024 := by omega
  have hn0 : n9 + 0 ≤ 7293034 := by omega
  obtain ⟨⟨h1, hn, ht, hr, he, het, hR, hH, hS⟩, hW⟩ := id hI
  refine V_aload_n (i := 1) dL_law_212 rfl rfl ?_
  refine V_callV (C := RX6) (q := 0) (ci := 5) (As := []) (rest := []) [0] (c_X6_clearText l G A ea n) vy_X6_clearText gL_law_X6_clearText rfl rfl rfl rfl rfl rfl rfl ⟨rfl, rfl⟩ ⟨rfl, rfl⟩ ⟨hk0, hn0⟩ rfl dL_law_213 (fun v Y hE => ?_)
  obtain ⟨rfl, rfl⟩ := hE
  refine ⟨rfl, ?_⟩
  dsimp only [vfill, w3, List.set_cons_zero, List.set_cons_succ, Option.toList, List.cons_append, List.nil_append, Nat.add_zero]
  refine V_aload_n (i := 2) dL_law_216 rfl rfl ?_
  refine V_callV (C := RX7) (q := 0) (ci := 6) (As := []) (rest := _) [14] (c_X7_clearText l G B z) vy_X7_clearText gL_law_X7_clearText rfl rfl rfl rfl rfl rfl rfl ⟨rfl, rfl⟩ ⟨rfl, rfl⟩ ⟨hk0, hn0⟩ rfl dL_law_217 (fun v Y hE => ?_)
  obtain ⟨rfl, rfl⟩ := hE
  refine ⟨rfl, ?_⟩
  dsimp only [vfill, w3, List.set_cons_zero, List.set_cons_succ, Option.toList, List.cons_append, List.nil_append, Nat.add_zero]
  have hv : nI (z 1) = nI n := congrArg nI h1
  refine V_icmp_same (tgt := 1635) hv dL_law_220 rfl ?_
  exact kk (0, tx, r, ho, hs, zf, wo, sn, e, t, s0, s1, (va_up z 1 0), rr, g, tr, d, kp, ik, y, mt, fo) _ _ _ _ ⟨⟨up_s, Nat.zero_le _, ht, hr, he, het, hR, hH.upd (by decide), hS⟩, hW.upd (by decide) (by decide)⟩ (by omega) (by omega)

set_option maxHeartbeats 4000000 in
set_option maxRecDepth 100000 in
theorem L_errorPosition (l : Launch) (hst : l.stackTraces = false) (G : vG) (Γ : vF) (b Ls : Nat) (xs : Nat → Int32) (hS9 : vScr Γ b Ls xs) (hE9 : vE9 Γ.2.2.1) (hZ9 : vZ Γ.2.2.2.2.2.2.2.2.2 Γ.2.2.1 Γ.2.2.1.heap) (hN9 : vNC Γ.2.2.1) (A : Nat → Nat) (ea : Nat → Nat → Nat) (B : Nat → Nat) (ou i k n9 : Nat) (hi6 : i + 6 ≤ Ls) (hk : k + 1 ≤ 601024) (hn9 : n9 + 6 ≤ 7293034)  (n : Nat) (tx r ho : Nat → Nat) (hs : Nat → vE) (zf wo sn : Nat → Nat) (e t s0 s1 : vE) (z rr g tr d kp ik y mt : Nat → Nat) (fo : Nat → Int64) (hI : LX (n, tx, r, ho, hs, zf, wo, sn, e, t, s0, s1, z, rr, g, tr, d, kp, ik, y, mt, fo)) (u5 u6 : Option Value)
    (kk : ∀ (σ : LSt) (k9 n8 : Nat) (v5 v6 : Option Value), LX σ → k9 ≤ k + 1 → n8 ≤ n9 + 6 → V l G (cL_law, 7, wsL_law, RL, room_1) Γ k9 n8 1635 [some (.ref b), some (.ref (A 0)), some (.ref (B 0)), some (.ref ou), some (.int (nI i)), v5, v6] [] (W25 G A ea B ou σ)) :
    V l G (cL_law, 7, wsL_law, RL, room_1) Γ k n9 225 [some (.ref b), some (.ref (A 0)), some (.ref (B 0)), some (.ref ou), some (.int (nI i)), u5, u6] [] [oO A ea n, iA G (A 1) 140 tx, tR (A 2) r, eK G (ea 14) e, eK G (ea 15) t, hO (A 3) (A 7) ho, hA G (A 7) ea, hK G ea hs, sA G A ea, zA G (A 5) 2 zf, wO (A 6) (A 8) wo, iA G (A 8) 96 sn, eK G (ea 16) s0, eK G (ea 17) s1, mO B z, iA G (B 1) 140 tx, iA G (B 2) 427 rr, iA G (B 3) 427 g, iA G (B 4) 427 tr, iA G (B 5) 5978 d, iA G (B 6) 854 kp, zA G (B 7) 2 ik, iA G (B 8) 96 y, zA G (B 9) 96 mt, lA G ou fo] := by
  have hk0 : k + 0 ≤ 601024 := by omega
  have hn0 : n9 + 0 ≤ 7293034 := by omega
  obtain ⟨⟨h1, hn, ht, hr, he, het, hR, hH, hS⟩, hW⟩ := id hI
  subst h1
  have HP := rEg_psT (r := rr) (tx := tx) (r0 := r) (t := t) hn
  have HB := psT_B tx (z 1) 0 (va_up (va_up (va_up r 0 0) 2 0) 3 0, rsC t) (rB_0 hr) (eB_reset het)
  refine V_aload_n (i := 1) dL_law_225 rfl rfl ?_
  refine V_callV (C := RX6) (q := 0) (ci := 5) (As := []) (rest := []) [0, 2, 4, 1] (c_X6_errorPosition l G A ea r tx t (z 1) hn ht hr het) vy_X6_errorPosition gL_law_X6_errorPosition rfl rfl rfl rfl rfl rfl rfl ⟨rfl, rfl⟩ ⟨rfl, rfl⟩ ⟨hk0, hn0⟩ rfl dL_law_226 (fun v Y hE => ?_)
  obtain ⟨rfl, rfl⟩ := hE
  refine ⟨rfl, ?_⟩
  dsimp only [vfill, w3, List.set_cons_zero, List.set_cons_succ, Option.toList, List.cons_append, List.nil_append, Nat.add_zero]
  refine V_aload_n (i := 2) dL_law_229 rfl rfl ?_
  refine V_callV (C := RX7) (q := 0) (ci := 6) (As := []) (rest := _) [14, 15, 16] (c_X7_errorPosition l G B z rr tx hn ht) vy_X7_errorPosition gL_law_X7_errorPosition rfl rfl rfl rfl rfl rfl rfl ⟨rfl, rfl⟩ ⟨rfl, rfl⟩ ⟨hk0, hn0⟩ rfl dL_law_230 (fun v Y hE => ?_)
  obtain ⟨rfl, rfl⟩ := hE
  refine ⟨rfl, ?_⟩
  dsimp only [vfill, w3, List.set_cons_zero, List.set_cons_succ, Option.toList, List.cons_append, List.nil_append, Nat.add_zero]
  have hv : nI (if (rEg z rr tx).1 = 0 then (rEg z rr tx).2.1 2 else 4294967287) = nI (psT tx (z 1) 0 (va_up (va_up (va_up r 0 0) 2 0) 3 0, rsC t)).1 := by
    rcases HP with ⟨a, b, c⟩ | ⟨a, b, c⟩
    · rw [if_pos a, b]
    · rw [if_neg (by omega), b]
  refine V_icmp_same (tgt := 1635) hv dL_law_233 rfl ?_
  exact kk ((z 1), tx, (psT tx (z 1) 0 (va_up (va_up (va_up r 0 0) 2 0) 3 0, rsC t)).2.1, ho, hs, zf, wo, sn, e, (psT tx (z 1) 0 (va_up (va_up (va_up r 0 0) 2 0) 3 0, rsC t)).2.2, s0, s1, (rEg z rr tx).2.1, (rEg z rr tx).2.2, g, tr, d, kp, ik, y, mt, fo) _ _ _ _ ⟨⟨(rEg_k (by decide) (by decide) (by decide)), hn, ht, HB.1, he, HB.2, hR, hH.cong (rEg_k (by decide) (by decide) (by decide)), hS⟩, hW.cong (rEg_k (by decide) (by decide) (by decide)) (rEg_k (by decide) (by decide) (by decide))⟩ (by omega) (by omega)

set_option maxHeartbeats 4000000 in
set_option maxRecDepth 100000 in
theorem L_firstEdit (l : Launch) (hst : l.stackTraces = false) (G : vG) (Γ : vF) (b Ls : Nat) (xs : Nat → Int32) (hS9 : vScr Γ b Ls xs) (hE9 : vE9 Γ.2.2.1) (hZ9 : vZ Γ.2.2.2.2.2.2.2.2.2 Γ.2.2.1 Γ.2.2.1.heap) (hN9 : vNC Γ.2.2.1) (A : Nat → Nat) (ea : Nat → Nat → Nat) (B : Nat → Nat) (ou i k n9 : Nat) (hi6 : i + 6 ≤ Ls) (hk : k + 1 ≤ 601024) (hn9 : n9 + 6 ≤ 7293034)  (n : Nat) (tx r ho : Nat → Nat) (hs : Nat → vE) (zf wo sn : Nat → Nat) (e t s0 s1 : vE) (z rr g tr d kp ik y mt : Nat → Nat) (fo : Nat → Int64) (hI : LX (n, tx, r, ho, hs, zf, wo, sn, e, t, s0, s1, z, rr, g, tr, d, kp, ik, y, mt, fo)) (u5 u6 : Option Value)
    (kk : ∀ (σ : LSt) (k9 n8 : Nat) (v5 v6 : Option Value), LX σ → k9 ≤ k + 1 → n8 ≤ n9 + 6 → V l G (cL_law, 7, wsL_law, RL, room_1) Γ k9 n8 1635 [some (.ref b), some (.ref (A 0)), some (.ref (B 0)), some (.ref ou), some (.int (nI i)), v5, v6] [] (W25 G A ea B ou σ)) :
    V l G (cL_law, 7, wsL_law, RL, room_1) Γ k n9 1254 [some (.ref b), some (.ref (A 0)), some (.ref (B 0)), some (.ref ou), some (.int (nI i)), u5, u6] [] [oO A ea n, iA G (A 1) 140 tx, tR (A 2) r, eK G (ea 14) e, eK G (ea 15) t, hO (A 3) (A 7) ho, hA G (A 7) ea, hK G ea hs, sA G A ea, zA G (A 5) 2 zf, wO (A 6) (A 8) wo, iA G (A 8) 96 sn, eK G (ea 16) s0, eK G (ea 17) s1, mO B z, iA G (B 1) 140 tx, iA G (B 2) 427 rr, iA G (B 3) 427 g, iA G (B 4) 427 tr, iA G (B 5) 5978 d, iA G (B 6) 854 kp, zA G (B 7) 2 ik, iA G (B 8) 96 y, zA G (B 9) 96 mt, lA G ou fo] := by
  have hk0 : k + 0 ≤ 601024 := by omega
  have hn0 : n9 + 0 ≤ 7293034 := by omega
  obtain ⟨⟨h1, hn, ht, hr, he, het, hR, hH, hS⟩, hW⟩ := id hI
  obtain ⟨e9, HQ, HE⟩ := QZ.first 500 (QZ.try (z := z) (g := g) (t := tr) (b := y) (f := t) hR he)
  refine V_aload_n (i := 1) dL_law_1254 rfl rfl ?_
  refine V_callV (C := RX6) (q := 0) (ci := 5) (As := []) (rest := []) [0, 3, 4] (c_X6_firstEdit l G A ea n e t he) vy_X6_firstEdit gL_law_X6_firstEdit rfl rfl rfl rfl rfl rfl rfl ⟨rfl, rfl⟩ ⟨rfl, rfl⟩ ⟨hk0, hn0⟩ rfl dL_law_1255 (fun v Y hE => ?_)
  obtain ⟨rfl, rfl⟩ := hE
  refine ⟨rfl, ?_⟩
  dsimp only [vfill, w3, List.set_cons_zero, List.set_cons_succ, Option.toList, List.cons_append, List.nil_append, Nat.add_zero]
  refine V_aload_n (i := 2) dL_law_1258 rfl rfl ?_
  refine V_callV (C := RX7) (q := 0) (ci := 6) (As := []) (rest := _) [14, 17, 18, 22] (c_X7_firstEdit l G B z g tr y (fun t9 => ∃ e9, QZ z t9 e9) (fun t9 q9 => q9.elim fun _ h9 => h9.1.gB) (fun t9 q9 => q9.elim fun _ h9 => ⟨_, h9.tick⟩) ⟨_, QZ.try (f := t) hR he⟩) vy_X7_firstEdit gL_law_X7_firstEdit rfl rfl rfl rfl rfl rfl rfl ⟨rfl, rfl⟩ ⟨rfl, rfl⟩ ⟨hk0, hn0⟩ rfl dL_law_1259 (fun v Y hE => ?_)
  obtain ⟨rfl, rfl⟩ := hE
  refine ⟨rfl, ?_⟩
  dsimp only [vfill, w3, List.set_cons_zero, List.set_cons_succ, Option.toList, List.cons_append, List.nil_append, Nat.add_zero]
  have hv : nI (if (rFE 500 (rTry z g tr y)).1 5 = 4294967287 then 4294967287 else 100 * (rFE 500 (rTry z g tr y)).1 4 + (rFE 500 (rTry z g tr y)).1 5) = nI ((laC 500 t e).2.2.2.2.2.1 4) := congrArg nI (HQ.1.edit4.trans HE.symm)
  refine V_icmp_same (tgt := 1635) hv dL_law_1262 rfl ?_
  exact kk (n, tx, r, ho, hs, zf, wo, sn, e, (laC 500 t e), s0, s1, (rFE 500 (rTry z g tr y)).1, rr, g, (rFE 500 (rTry z g tr y)).2.1, d, kp, ik, (rFE 500 (rTry z g tr y)).2.2, mt, fo) _ _ _ _ ⟨⟨(HQ.2 1 (by decide) (by decide)).trans h1, hn, ht, hr, he, eB_run 500 _ (eB_cp he), hR, hH.cong (HQ.2 3 (by decide) (by decide)), hS⟩, HQ.1.wo⟩ (by omega) (by omega)

end LAWS2
