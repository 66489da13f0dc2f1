section LAWS1
set_option maxHeartbeats 4000000 in
set_option maxRecDepth 100000 in
theorem L_start (l : Launch) (hst : l.stackTraces = false) (G : vG) (Γ : vF) (b Ls : Nat) (xs : Nat → Int32) (hS9 : vScr Γ b Ls xs) (hE9 : vE9 Γ.2.2.1) (hZ9 : vZ Γ.2.2.2.2.2.2.2.2.2 Γ.2.2.1 Γ.2.2.1.heap) (hN9 : vNC Γ.2.2.1) (A : Nat → Nat) (ea : Nat → Nat → Nat) (B : Nat → Nat) (ou i k n9 : Nat) (hi6 : i + 6 ≤ Ls) (hk : k + 1 ≤ 601024) (hn9 : n9 + 6 ≤ 7293034) (p1 : Nat) (hp1 : p1 < 4294967296) (e1 : xs (i + 1) = nI p1) (p2 : Nat) (hp2 : p2 < 4294967296) (e2 : xs (i + 2) = nI p2) (n : Nat) (tx r ho : Nat → Nat) (hs : Nat → vE) (zf wo sn : Nat → Nat) (e t s0 s1 : vE) (z rr g tr d kp ik y mt : Nat → Nat) (fo : Nat → Int64) (hI : LX (n, tx, r, ho, hs, zf, wo, sn, e, t, s0, s1, z, rr, g, tr, d, kp, ik, y, mt, fo)) (u5 u6 : Option Value)
    (kk : ∀ (σ : LSt) (k9 n8 : Nat) (v5 v6 : Option Value), LX σ → k9 ≤ k + 1 → n8 ≤ n9 + 6 → V l G (cL_law, 7, wsL_law, RL, room_1) Γ k9 n8 1635 [some (.ref b), some (.ref (A 0)), some (.ref (B 0)), some (.ref ou), some (.int (nI i)), v5, v6] [] (W25 G A ea B ou σ)) :
    V l G (cL_law, 7, wsL_law, RL, room_1) Γ k n9 794 [some (.ref b), some (.ref (A 0)), some (.ref (B 0)), some (.ref ou), some (.int (nI i)), u5, u6] [] [oO A ea n, iA G (A 1) 140 tx, tR (A 2) r, eK G (ea 14) e, eK G (ea 15) t, hO (A 3) (A 7) ho, hA G (A 7) ea, hK G ea hs, sA G A ea, zA G (A 5) 2 zf, wO (A 6) (A 8) wo, iA G (A 8) 96 sn, eK G (ea 16) s0, eK G (ea 17) s1, mO B z, iA G (B 1) 140 tx, iA G (B 2) 427 rr, iA G (B 3) 427 g, iA G (B 4) 427 tr, iA G (B 5) 5978 d, iA G (B 6) 854 kp, zA G (B 7) 2 ik, iA G (B 8) 96 y, zA G (B 9) 96 mt, lA G ou fo] := by
  obtain ⟨⟨h1, hn, ht, hr, he, het, hR, hH, hS⟩, hW⟩ := id hI
  have hz3 : z 3 ≤ 14 := by
    have := hH.2.2.1
    have := hH.2.1
    omega
  refine V_aload_n (i := 1) dL_law_794 rfl rfl ?_
  refine V_aload_n (i := 0) dL_law_795 rfl rfl ?_
  refine V_iload (i := 4) dL_law_796 rfl ?_
  refine V_iconst (v := 1) dL_law_798 rfl ?_
  refine V_iadd dL_law_799 ?_
  refine V_sld hS9 (by omega) e1 dL_law_800 ?_
  refine V_aload_n (i := 0) dL_law_801 rfl rfl ?_
  refine V_iload (i := 4) dL_law_802 rfl ?_
  refine V_iconst (v := 2) dL_law_804 rfl ?_
  refine V_iadd dL_law_805 ?_
  refine V_sld hS9 (by omega) e2 dL_law_806 ?_
  refine V_aload_n (i := 3) dL_law_807 rfl rfl ?_
  refine V_callSW (As := _) (rest := []) [0, 5, 6, 7, 3, 24] hE9 hZ9 hN9 (c_L_start l hst G A ea ho hs n p1 p2 e he hH.1 hH.2.1 hp1 hp2 ou fo) rfl ⟨by decide +kernel, by decide +kernel, by simp only [List.length_cons, List.length_nil]; decide +kernel⟩ gL_law_L_start rfl rfl rfl rfl ⟨rfl, rfl⟩ ⟨rfl, rfl⟩ ⟨hk, hn9⟩ rfl dL_law_808 (fun v Y hE => ?_)
  rcases hE with ⟨hc, rfl, rfl⟩ | ⟨hc, rfl, rfl⟩
  · refine ⟨rfl, ?_⟩
    dsimp only [vfill, List.set_cons_zero, List.set_cons_succ, Option.toList, List.cons_append, List.nil_append, Nat.add_zero]
    refine V_istore (i := 5) dL_law_811 rfl rfl ?_
    dsimp only [List.set_cons_zero, List.set_cons_succ]
    refine V_aload_n (i := 2) dL_law_813 rfl rfl ?_
    refine V_aload_n (i := 0) dL_law_814 rfl rfl ?_
    refine V_iload (i := 4) dL_law_815 rfl ?_
    refine V_iconst (v := 1) dL_law_817 rfl ?_
    refine V_iadd dL_law_818 ?_
    refine V_sld hS9 (by omega) e1 dL_law_819 ?_
    refine V_aload_n (i := 0) dL_law_820 rfl rfl ?_
    refine V_iload (i := 4) dL_law_821 rfl ?_
    refine V_iconst (v := 2) dL_law_823 rfl ?_
    refine V_iadd dL_law_824 ?_
    refine V_sld hS9 (by omega) e2 dL_law_825 ?_
    refine V_callV (C := RX7) (q := 0) (ci := 6) (As := _) (rest := []) [14, 17, 19] (c_X7_start l G B z g d p1 p2 hz3 hp1 hp2) vy_X7_start gL_law_X7_start rfl rfl rfl rfl rfl rfl rfl ⟨rfl, rfl⟩ ⟨rfl, rfl⟩ ⟨hk, hn9⟩ rfl dL_law_826 (fun v Y hE => ?_)
    rcases hE with ⟨m1, rfl, rfl⟩ | ⟨m1, rfl, rfl⟩
    · exfalso
      omega
    · refine ⟨rfl, ?_⟩
      dsimp only [vfill, w3, List.set_cons_zero, List.set_cons_succ, Option.toList, List.cons_append, List.nil_append, Nat.add_zero]
      have hv : nI (e.2.2.2.2.2.2 p1 0) = nI (g (384 + 13 * p1)) := congrArg nI (hR.2.2.2.2.2 p1 hc.1).1.1.symm
      refine V_istore (i := 6) dL_law_829 rfl rfl ?_
      dsimp only [List.set_cons_zero, List.set_cons_succ]
      refine V_aload_n (i := 2) dL_law_831 rfl rfl ?_
      refine V_callV (C := RX7) (q := 0) (ci := 6) (As := []) (rest := []) [14] (c_X7_thrown l G B (va_up (va_up z 0 0) 3 (rmA (z 3)))) vy_X7_thrown gL_law_X7_thrown rfl rfl rfl rfl rfl rfl rfl ⟨rfl, rfl⟩ ⟨rfl, rfl⟩ ⟨hk, hn9⟩ rfl dL_law_832 (fun v Y hE => ?_)
      obtain ⟨rfl, rfl⟩ := hE
      refine ⟨rfl, ?_⟩
      dsimp only [vfill, List.set_cons_zero, List.set_cons_succ, Option.toList, List.cons_append, List.nil_append, Nat.add_zero]
      refine V_top (b := 0) rfl ?_
      refine V_iload (i := 5) dL_law_835 rfl ?_
      refine V_icmp_eq (tgt := 842) (by omega) (by omega) dL_law_837 rfl (fun h_837 => ?_) (fun h_837 => ?_)
      · refine V_iload (i := 5) dL_law_842 rfl ?_
        refine V_if_ne (tgt := 859) (by omega) dL_law_844 rfl (fun h_844 => ?_) (fun h_844 => ?_)
        · exfalso; omega
        · refine V_aload_n (i := 3) dL_law_847 rfl rfl ?_
          refine V_iconst (v := 0) dL_law_848 rfl ?_
          refine V_lald (q := 24) rfl (by omega) rfl dL_law_849 ?_
          refine V_iload (i := 6) dL_law_850 rfl ?_
          refine V_i2l dL_law_852 ?_
          refine V_lcmp (v := 0) dL_law_853 (lcq hv) ?_
          refine V_if_eq (tgt := 859) (by omega) dL_law_854 rfl (fun h_854 => ?_) (fun h_854 => ?_)
          · refine V_goto (tgt := 1635) dL_law_859 rfl ?_
            exact kk (n, tx, r, (rmO ho), (rmH ho hs e), zf, wo, sn, (setC e p1 (qBegin p2 (e.2.2.2.2.2.2 p1))), t, s0, s1, (va_up (va_up z 0 0) 3 (rmA (z 3))), rr, (rBegin p1 p2 1 g), tr, (rmD (z 3) g d), kp, ik, y, mt, _) _ _ _ _ ⟨⟨(up_n (by decide)).trans ((up_n (by decide)).trans h1), hn, ht, hr, eB_setC he (qB_begin (he.2.2.2.2.2.2 p1 hc.1) (by omega)), het, hR.setc hc.1 (fun k hk => rBegin_o hk) (by rw [blk_begin]; exact (hR.2.2.2.2.2 p1 hc.1).begin), hH.remember hR he up_s, hS⟩, (hW.upd (by decide) (by decide)).upd (by decide) (by decide)⟩ (by omega) (by omega)
          · exfalso; omega
      · exfalso; omega
  · refine ⟨rfl, ?_⟩
    dsimp only [vfill, List.set_cons_zero, List.set_cons_succ, Option.toList, List.cons_append, List.nil_append, Nat.add_zero]
    refine V_istore (i := 5) dL_law_811 rfl rfl ?_
    dsimp only [List.set_cons_zero, List.set_cons_succ]
    refine V_aload_n (i := 2) dL_law_813 rfl rfl ?_
    refine V_aload_n (i := 0) dL_law_814 rfl rfl ?_
    refine V_iload (i := 4) dL_law_815 rfl ?_
    refine V_iconst (v := 1) dL_law_817 rfl ?_
    refine V_iadd dL_law_818 ?_
    refine V_sld hS9 (by omega) e1 dL_law_819 ?_
    refine V_aload_n (i := 0) dL_law_820 rfl rfl ?_
    refine V_iload (i := 4) dL_law_821 rfl ?_
    refine V_iconst (v := 2) dL_law_823 rfl ?_
    refine V_iadd dL_law_824 ?_
    refine V_sld hS9 (by omega) e2 dL_law_825 ?_
    refine V_callV (C := RX7) (q := 0) (ci := 6) (As := _) (rest := []) [14, 17, 19] (c_X7_start l G B z g d p1 p2 hz3 hp1 hp2) vy_X7_start gL_law_X7_start rfl rfl rfl rfl rfl rfl rfl ⟨rfl, rfl⟩ ⟨rfl, rfl⟩ ⟨hk, hn9⟩ rfl dL_law_826 (fun v Y hE => ?_)
    rcases hE with ⟨m1, rfl, rfl⟩ | ⟨m1, rfl, rfl⟩
    · refine ⟨rfl, ?_⟩
      dsimp only [vfill, w3, List.set_cons_zero, List.set_cons_succ, Option.toList, List.cons_append, List.nil_append, Nat.add_zero]
      refine V_istore (i := 6) dL_law_829 rfl rfl ?_
      dsimp only [List.set_cons_zero, List.set_cons_succ]
      refine V_aload_n (i := 2) dL_law_831 rfl rfl ?_
      refine V_callV (C := RX7) (q := 0) (ci := 6) (As := []) (rest := []) [14] (c_X7_thrown l G B (va_up z 0 1)) vy_X7_thrown gL_law_X7_thrown rfl rfl rfl rfl rfl rfl rfl ⟨rfl, rfl⟩ ⟨rfl, rfl⟩ ⟨hk, hn9⟩ rfl dL_law_832 (fun v Y hE => ?_)
      obtain ⟨rfl, rfl⟩ := hE
      refine ⟨rfl, ?_⟩
      dsimp only [vfill, List.set_cons_zero, List.set_cons_succ, Option.toList, List.cons_append, List.nil_append, Nat.add_zero]
      refine V_top (b := 1) rfl ?_
      refine V_iload (i := 5) dL_law_835 rfl ?_
      refine V_icmp_eq (tgt := 842) (by omega) (by omega) dL_law_837 rfl (fun h_837 => ?_) (fun h_837 => ?_)
      · refine V_iload (i := 5) dL_law_842 rfl ?_
        refine V_if_ne (tgt := 859) (by omega) dL_law_844 rfl (fun h_844 => ?_) (fun h_844 => ?_)
        · refine V_goto (tgt := 1635) dL_law_859 rfl ?_
          exact kk (n, tx, r, ho, hs, zf, wo, sn, e, t, s0, s1, (va_up z 0 1), rr, g, tr, d, kp, ik, y, mt, _) _ _ _ _ ⟨⟨(up_n (by decide)).trans h1, hn, ht, hr, he, het, hR, hH.upd (by decide), hS⟩, hW.upd (by decide) (by decide)⟩ (by omega) (by omega)
        · exfalso; omega
      · exfalso; omega
    · exfalso
      omega

set_option maxHeartbeats 4000000 in
set_option maxRecDepth 100000 in
theorem L_stop (l : Launch) (hst : l.stackTraces = false) (G : vG) (Γ : vF) (b Ls : Nat) (xs : Nat → Int32) (hS9 : vScr Γ b Ls xs) (hE9 : vE9 Γ.2.2.1) (hZ9 : vZ Γ.2.2.2.2.2.2.2.2.2 Γ.2.2.1 Γ.2.2.1.heap) (hN9 : vNC Γ.2.2.1) (A : Nat → Nat) (ea : Nat → Nat → Nat) (B : Nat → Nat) (ou i k n9 : Nat) (hi6 : i + 6 ≤ Ls) (hk : k + 1 ≤ 601024) (hn9 : n9 + 6 ≤ 7293034) (p1 : Nat) (hp1 : p1 < 4294967296) (e1 : xs (i + 1) = nI p1) (n : Nat) (tx r ho : Nat → Nat) (hs : Nat → vE) (zf wo sn : Nat → Nat) (e t s0 s1 : vE) (z rr g tr d kp ik y mt : Nat → Nat) (fo : Nat → Int64) (hI : LX (n, tx, r, ho, hs, zf, wo, sn, e, t, s0, s1, z, rr, g, tr, d, kp, ik, y, mt, fo)) (u5 u6 : Option Value)
    (kk : ∀ (σ : LSt) (k9 n8 : Nat) (v5 v6 : Option Value), LX σ → k9 ≤ k + 1 → n8 ≤ n9 + 6 → V l G (cL_law, 7, wsL_law, RL, room_1) Γ k9 n8 1635 [some (.ref b), some (.ref (A 0)), some (.ref (B 0)), some (.ref ou), some (.int (nI i)), v5, v6] [] (W25 G A ea B ou σ)) :
    V l G (cL_law, 7, wsL_law, RL, room_1) Γ k n9 862 [some (.ref b), some (.ref (A 0)), some (.ref (B 0)), some (.ref ou), some (.int (nI i)), u5, u6] [] [oO A ea n, iA G (A 1) 140 tx, tR (A 2) r, eK G (ea 14) e, eK G (ea 15) t, hO (A 3) (A 7) ho, hA G (A 7) ea, hK G ea hs, sA G A ea, zA G (A 5) 2 zf, wO (A 6) (A 8) wo, iA G (A 8) 96 sn, eK G (ea 16) s0, eK G (ea 17) s1, mO B z, iA G (B 1) 140 tx, iA G (B 2) 427 rr, iA G (B 3) 427 g, iA G (B 4) 427 tr, iA G (B 5) 5978 d, iA G (B 6) 854 kp, zA G (B 7) 2 ik, iA G (B 8) 96 y, zA G (B 9) 96 mt, lA G ou fo] := by
  obtain ⟨⟨h1, hn, ht, hr, he, het, hR, hH, hS⟩, hW⟩ := id hI
  have hgB := gB_of hR he
  have hz3 : z 3 ≤ 14 := by
    have := hH.2.2.1
    have := hH.2.1
    omega
  have hst9 : p1 < 3 → g (384 + 13 * p1) = e.2.2.2.2.2.2 p1 0 := fun h9 => (hR.2.2.2.2.2 p1 h9).1.1
  refine V_aload_n (i := 1) dL_law_862 rfl rfl ?_
  refine V_aload_n (i := 0) dL_law_863 rfl rfl ?_
  refine V_iload (i := 4) dL_law_864 rfl ?_
  refine V_iconst (v := 1) dL_law_866 rfl ?_
  refine V_iadd dL_law_867 ?_
  refine V_sld hS9 (by omega) e1 dL_law_868 ?_
  refine V_aload_n (i := 3) dL_law_869 rfl rfl ?_
  refine V_callSW (As := _) (rest := []) [0, 5, 6, 7, 3, 24] hE9 hZ9 hN9 (c_L_stop l hst G A ea ho hs n p1 e he hH.1 hH.2.1 hp1 ou fo) rfl ⟨by decide +kernel, by decide +kernel, by simp only [List.length_cons, List.length_nil]; decide +kernel⟩ gL_law_L_stop rfl rfl rfl rfl ⟨rfl, rfl⟩ ⟨rfl, rfl⟩ ⟨hk, hn9⟩ rfl dL_law_870 (fun v Y hE => ?_)
  rcases hE with ⟨hc, rfl, rfl⟩ | ⟨hc, rfl, rfl⟩ | ⟨hc, rfl, rfl⟩
  · refine ⟨rfl, ?_⟩
    dsimp only [vfill, List.set_cons_zero, List.set_cons_succ, Option.toList, List.cons_append, List.nil_append, Nat.add_zero]
    refine V_istore (i := 5) dL_law_873 rfl rfl ?_
    dsimp only [List.set_cons_zero, List.set_cons_succ]
    refine V_aload_n (i := 2) dL_law_875 rfl rfl ?_
    refine V_aload_n (i := 0) dL_law_876 rfl rfl ?_
    refine V_iload (i := 4) dL_law_877 rfl ?_
    refine V_iconst (v := 1) dL_law_879 rfl ?_
    refine V_iadd dL_law_880 ?_
    refine V_sld hS9 (by omega) e1 dL_law_881 ?_
    refine V_callV (C := RX7) (q := 0) (ci := 6) (As := _) (rest := []) [14, 17, 19] (c_X7_stop l G B z g d p1 hz3 hp1 hgB.2.2.2.2) vy_X7_stop gL_law_X7_stop rfl rfl rfl rfl rfl rfl rfl ⟨rfl, rfl⟩ ⟨rfl, rfl⟩ ⟨hk, hn9⟩ rfl dL_law_882 (fun v Y hE => ?_)
    rcases hE with ⟨m1, rfl, rfl⟩ | ⟨m1, m2, rfl, rfl⟩ | ⟨m1, m2, rfl, rfl⟩
    · exfalso
      omega
    · exfalso
      omega
    · refine ⟨rfl, ?_⟩
      dsimp only [vfill, w3, List.set_cons_zero, List.set_cons_succ, Option.toList, List.cons_append, List.nil_append, Nat.add_zero]
      have hv := congrArg nI (hR.left hc.1).symm
      refine V_istore (i := 6) dL_law_885 rfl rfl ?_
      dsimp only [List.set_cons_zero, List.set_cons_succ]
      refine V_aload_n (i := 2) dL_law_887 rfl rfl ?_
      refine V_callV (C := RX7) (q := 0) (ci := 6) (As := []) (rest := []) [14] (c_X7_thrown l G B (va_up (va_up z 0 0) 3 (rmA (z 3)))) vy_X7_thrown gL_law_X7_thrown rfl rfl rfl rfl rfl rfl rfl ⟨rfl, rfl⟩ ⟨rfl, rfl⟩ ⟨hk, hn9⟩ rfl dL_law_888 (fun v Y hE => ?_)
      obtain ⟨rfl, rfl⟩ := hE
      refine ⟨rfl, ?_⟩
      dsimp only [vfill, List.set_cons_zero, List.set_cons_succ, Option.toList, List.cons_append, List.nil_append, Nat.add_zero]
      refine V_top (b := 0) rfl ?_
      refine V_iload (i := 5) dL_law_891 rfl ?_
      refine V_icmp_eq (tgt := 898) (by omega) (by omega) dL_law_893 rfl (fun h_893 => ?_) (fun h_893 => ?_)
      · refine V_iload (i := 5) dL_law_898 rfl ?_
        refine V_if_ne (tgt := 915) (by omega) dL_law_900 rfl (fun h_900 => ?_) (fun h_900 => ?_)
        · exfalso; omega
        · refine V_aload_n (i := 3) dL_law_903 rfl rfl ?_
          refine V_iconst (v := 0) dL_law_904 rfl ?_
          refine V_lald (q := 24) rfl (by omega) rfl dL_law_905 ?_
          refine V_iload (i := 6) dL_law_906 rfl ?_
          refine V_i2l dL_law_908 ?_
          refine V_lcmp (v := 0) dL_law_909 (lcq hv) ?_
          refine V_if_eq (tgt := 915) (by omega) dL_law_910 rfl (fun h_910 => ?_) (fun h_910 => ?_)
          · refine V_goto (tgt := 1635) dL_law_915 rfl ?_
            exact kk (n, tx, r, (rmO ho), (rmH ho hs e), zf, wo, sn, (setC e p1 (qBc 0 (e.2.2.2.2.2.2 p1))), t, s0, s1, (va_up (va_up z 0 0) 3 (rmA (z 3))), rr, (rBegin p1 (g (384 + 13 * p1 + 1)) 0 g), tr, (rmD (z 3) g d), kp, ik, y, mt, _) _ _ _ _ ⟨⟨(up_n (by decide)).trans ((up_n (by decide)).trans h1), hn, ht, hr, eB_setC he (qB_bc (he.2.2.2.2.2.2 p1 hc.1) (by decide)), het, hR.setc hc.1 (fun k hk => rBegin_o hk) (by rw [blk_begin]; exact (hR.2.2.2.2.2 p1 hc.1).idle (hR.2.2.2.2.2 p1 hc.1).1.2.1), hH.remember hR he up_s, hS⟩, (hW.upd (by decide) (by decide)).upd (by decide) (by decide)⟩ (by omega) (by omega)
          · exfalso; omega
      · exfalso; omega
  · refine ⟨rfl, ?_⟩
    dsimp only [vfill, List.set_cons_zero, List.set_cons_succ, Option.toList, List.cons_append, List.nil_append, Nat.add_zero]
    refine V_istore (i := 5) dL_law_873 rfl rfl ?_
    dsimp only [List.set_cons_zero, List.set_cons_succ]
    refine V_aload_n (i := 2) dL_law_875 rfl rfl ?_
    refine V_aload_n (i := 0) dL_law_876 rfl rfl ?_
    refine V_iload (i := 4) dL_law_877 rfl ?_
    refine V_iconst (v := 1) dL_law_879 rfl ?_
    refine V_iadd dL_law_880 ?_
    refine V_sld hS9 (by omega) e1 dL_law_881 ?_
    refine V_callV (C := RX7) (q := 0) (ci := 6) (As := _) (rest := []) [14, 17, 19] (c_X7_stop l G B z g d p1 hz3 hp1 hgB.2.2.2.2) vy_X7_stop gL_law_X7_stop rfl rfl rfl rfl rfl rfl rfl ⟨rfl, rfl⟩ ⟨rfl, rfl⟩ ⟨hk, hn9⟩ rfl dL_law_882 (fun v Y hE => ?_)
    rcases hE with ⟨m1, rfl, rfl⟩ | ⟨m1, m2, rfl, rfl⟩ | ⟨m1, m2, rfl, rfl⟩
    · refine ⟨rfl, ?_⟩
      dsimp only [vfill, w3, List.set_cons_zero, List.set_cons_succ, Option.toList, List.cons_append, List.nil_append, Nat.add_zero]
      refine V_istore (i := 6) dL_law_885 rfl rfl ?_
      dsimp only [List.set_cons_zero, List.set_cons_succ]
      refine V_aload_n (i := 2) dL_law_887 rfl rfl ?_
      refine V_callV (C := RX7) (q := 0) (ci := 6) (As := []) (rest := []) [14] (c_X7_thrown l G B (va_up z 0 1)) vy_X7_thrown gL_law_X7_thrown rfl rfl rfl rfl rfl rfl rfl ⟨rfl, rfl⟩ ⟨rfl, rfl⟩ ⟨hk, hn9⟩ rfl dL_law_888 (fun v Y hE => ?_)
      obtain ⟨rfl, rfl⟩ := hE
      refine ⟨rfl, ?_⟩
      dsimp only [vfill, List.set_cons_zero, List.set_cons_succ, Option.toList, List.cons_append, List.nil_append, Nat.add_zero]
      refine V_top (b := 1) rfl ?_
      refine V_iload (i := 5) dL_law_891 rfl ?_
      refine V_icmp_eq (tgt := 898) (by omega) (by omega) dL_law_893 rfl (fun h_893 => ?_) (fun h_893 => ?_)
      · refine V_iload (i := 5) dL_law_898 rfl ?_
        refine V_if_ne (tgt := 915) (by omega) dL_law_900 rfl (fun h_900 => ?_) (fun h_900 => ?_)
        · refine V_goto (tgt := 1635) dL_law_915 rfl ?_
          exact kk (n, tx, r, ho, hs, zf, wo, sn, e, t, s0, s1, (va_up z 0 1), rr, g, tr, d, kp, ik, y, mt, _) _ _ _ _ ⟨⟨(up_n (by decide)).trans h1, hn, ht, hr, he, het, hR, hH.upd (by decide), hS⟩, hW.upd (by decide) (by decide)⟩ (by omega) (by omega)
        · exfalso; omega
      · exfalso; omega
    · exfalso
      omega
    · exfalso
      omega
  · refine ⟨rfl, ?_⟩
    dsimp only [vfill, List.set_cons_zero, List.set_cons_succ, Option.toList, List.cons_append, List.nil_append, Nat.add_zero]
    refine V_istore (i := 5) dL_law_873 rfl rfl ?_
    dsimp only [List.set_cons_zero, List.set_cons_succ]
    refine V_aload_n (i := 2) dL_law_875 rfl rfl ?_
    refine V_aload_n (i := 0) dL_law_876 rfl rfl ?_
    refine V_iload (i := 4) dL_law_877 rfl ?_
    refine V_iconst (v := 1) dL_law_879 rfl ?_
    refine V_iadd dL_law_880 ?_
    refine V_sld hS9 (by omega) e1 dL_law_881 ?_
    refine V_callV (C := RX7) (q := 0) (ci := 6) (As := _) (rest := []) [14, 17, 19] (c_X7_stop l G B z g d p1 hz3 hp1 hgB.2.2.2.2) vy_X7_stop gL_law_X7_stop rfl rfl rfl rfl rfl rfl rfl ⟨rfl, rfl⟩ ⟨rfl, rfl⟩ ⟨hk, hn9⟩ rfl dL_law_882 (fun v Y hE => ?_)
    rcases hE with ⟨m1, rfl, rfl⟩ | ⟨m1, m2, rfl, rfl⟩ | ⟨m1, m2, rfl, rfl⟩
    · exfalso
      omega
    · refine ⟨rfl, ?_⟩
      dsimp only [vfill, w3, List.set_cons_zero, List.set_cons_succ, Option.toList, List.cons_append, List.nil_append, Nat.add_zero]
      refine V_istore (i := 6) dL_law_885 rfl rfl ?_
      dsimp only [List.set_cons_zero, List.set_cons_succ]
      refine V_aload_n (i := 2) dL_law_887 rfl rfl ?_
      refine V_callV (C := RX7) (q := 0) (ci := 6) (As := []) (rest := []) [14] (c_X7_thrown l G B (va_up z 0 2)) vy_X7_thrown gL_law_X7_thrown rfl rfl rfl rfl rfl rfl rfl ⟨rfl, rfl⟩ ⟨rfl, rfl⟩ ⟨hk, hn9⟩ rfl dL_law_888 (fun v Y hE => ?_)
      obtain ⟨rfl, rfl⟩ := hE
      refine ⟨rfl, ?_⟩
      dsimp only [vfill, List.set_cons_zero, List.set_cons_succ, Option.toList, List.cons_append, List.nil_append, Nat.add_zero]
      refine V_top (b := 2) rfl ?_
      refine V_iload (i := 5) dL_law_891 rfl ?_
      refine V_icmp_eq (tgt := 898) (by omega) (by omega) dL_law_893 rfl (fun h_893 => ?_) (fun h_893 => ?_)
      · refine V_iload (i := 5) dL_law_898 rfl ?_
        refine V_if_ne (tgt := 915) (by omega) dL_law_900 rfl (fun h_900 => ?_) (fun h_900 => ?_)
        · refine V_goto (tgt := 1635) dL_law_915 rfl ?_
          exact kk (n, tx, r, ho, hs, zf, wo, sn, e, t, s0, s1, (va_up z 0 2), rr, g, tr, d, kp, ik, y, mt, _) _ _ _ _ ⟨⟨(up_n (by decide)).trans h1, hn, ht, hr, he, het, hR, hH.upd (by decide), hS⟩, hW.upd (by decide) (by decide)⟩ (by omega) (by omega)
        · exfalso; omega
      · exfalso; omega
    · exfalso
      omega

set_option maxHeartbeats 4000000 in
set_option maxRecDepth 100000 in
theorem L_run (l : Launch) (hst : l.stackTraces = false) (G : vG) (Γ : vF) (b Ls : Nat) (xs : Nat → Int32) (hS9 : vScr Γ b Ls xs) (hE9 : vE9 Γ.2.2.1) (hZ9 : vZ Γ.2.2.2.2.2.2.2.2.2 Γ.2.2.1 Γ.2.2.1.heap) (hN9 : vNC Γ.2.2.1) (A : Nat → Nat) (ea : Nat → Nat → Nat) (B : Nat → Nat) (ou i k n9 : Nat) (hi6 : i + 6 ≤ Ls) (hk : k + 1 ≤ 601024) (hn9 : n9 + 6 ≤ 7293034) (p1 : Nat) (hp1 : p1 < 4294967296) (e1 : xs (i + 1) = nI p1) (n : Nat) (tx r ho : Nat → Nat) (hs : Nat → vE) (zf wo sn : Nat → Nat) (e t s0 s1 : vE) (z rr g tr d kp ik y mt : Nat → Nat) (fo : Nat → Int64) (hI : LX (n, tx, r, ho, hs, zf, wo, sn, e, t, s0, s1, z, rr, g, tr, d, kp, ik, y, mt, fo)) (u5 u6 : Option Value)
    (kk : ∀ (σ : LSt) (k9 n8 : Nat) (v5 v6 : Option Value), LX σ → k9 ≤ k + 1 → n8 ≤ n9 + 6 → V l G (cL_law, 7, wsL_law, RL, room_1) Γ k9 n8 1635 [some (.ref b), some (.ref (A 0)), some (.ref (B 0)), some (.ref ou), some (.int (nI i)), v5, v6] [] (W25 G A ea B ou σ)) :
    V l G (cL_law, 7, wsL_law, RL, room_1) Γ k n9 918 [some (.ref b), some (.ref (A 0)), some (.ref (B 0)), some (.ref ou), some (.int (nI i)), u5, u6] [] [oO A ea n, iA G (A 1) 140 tx, tR (A 2) r, eK G (ea 14) e, eK G (ea 15) t, hO (A 3) (A 7) ho, hA G (A 7) ea, hK G ea hs, sA G A ea, zA G (A 5) 2 zf, wO (A 6) (A 8) wo, iA G (A 8) 96 sn, eK G (ea 16) s0, eK G (ea 17) s1, mO B z, iA G (B 1) 140 tx, iA G (B 2) 427 rr, iA G (B 3) 427 g, iA G (B 4) 427 tr, iA G (B 5) 5978 d, iA G (B 6) 854 kp, zA G (B 7) 2 ik, iA G (B 8) 96 y, zA G (B 9) 96 mt, lA G ou fo] := by
  obtain ⟨⟨h1, hn, ht, hr, he, het, hR, hH, hS⟩, hW⟩ := id hI
  have hgB := gB_of hR he
  have hz3 : z 3 ≤ 14 := by
    have := hH.2.2.1
    have := hH.2.1
    omega
  have hT9 := rT_nT hR he.2.2.2.2.1
  refine V_aload_n (i := 1) dL_law_918 rfl rfl ?_
  refine V_aload_n (i := 0) dL_law_919 rfl rfl ?_
  refine V_iload (i := 4) dL_law_920 rfl ?_
  refine V_iconst (v := 1) dL_law_922 rfl ?_
  refine V_iadd dL_law_923 ?_
  refine V_sld hS9 (by omega) e1 dL_law_924 ?_
  refine V_aload_n (i := 3) dL_law_925 rfl rfl ?_
  refine V_callSW (As := _) (rest := []) [0, 5, 6, 7, 3, 24] hE9 hZ9 hN9 (c_L_run l hst G A ea ho hs n p1 e he hH.1 hH.2.1 hp1 ou fo) rfl ⟨by decide +kernel, by decide +kernel, by simp only [List.length_cons, List.length_nil]; decide +kernel⟩ gL_law_L_run rfl rfl rfl rfl ⟨rfl, rfl⟩ ⟨rfl, rfl⟩ ⟨hk, hn9⟩ rfl dL_law_926 (fun v Y hE => ?_)
  rcases hE with ⟨hc, rfl, rfl⟩ | ⟨hc, rfl, rfl⟩ | ⟨hc, rfl, rfl⟩
  · refine ⟨rfl, ?_⟩
    dsimp only [vfill, List.set_cons_zero, List.set_cons_succ, Option.toList, List.cons_append, List.nil_append, Nat.add_zero]
    refine V_istore (i := 5) dL_law_929 rfl rfl ?_
    dsimp only [List.set_cons_zero, List.set_cons_succ]
    refine V_aload_n (i := 2) dL_law_931 rfl rfl ?_
    refine V_aload_n (i := 0) dL_law_932 rfl rfl ?_
    refine V_iload (i := 4) dL_law_933 rfl ?_
    refine V_iconst (v := 1) dL_law_935 rfl ?_
    refine V_iadd dL_law_936 ?_
    refine V_sld hS9 (by omega) e1 dL_law_937 ?_
    refine V_callV (C := RX7) (q := 0) (ci := 6) (As := _) (rest := []) [14, 17, 19, 22] (c_X7_run l G B z g d y p1 hz3 hp1 hgB (fun t9 => ∃ e9, QZ (va_up (va_up z 0 0) 3 (rmA (z 3))) t9 e9) (fun t9 q9 => q9.elim fun _ h9 => h9.1.gB) (fun t9 q9 => q9.elim fun _ h9 => ⟨_, h9.tick⟩) ⟨_, QZ.watch ((hW.upd (i := 0) (v := 0) (by decide) (by decide)).upd (i := 3) (v := rmA (z 3)) (by decide) (by decide)) hR he⟩) vy_X7_run gL_law_X7_run rfl rfl rfl rfl rfl rfl rfl ⟨rfl, rfl⟩ ⟨rfl, rfl⟩ ⟨hk, hn9⟩ rfl dL_law_938 (fun v Y hE => ?_)
    rcases hE with ⟨m1, rfl, rfl⟩ | ⟨m1, m2, rfl, rfl⟩ | ⟨m1, m2, rfl, rfl⟩
    · exfalso
      omega
    · exfalso
      omega
    · refine ⟨rfl, ?_⟩
      dsimp only [vfill, w3, List.set_cons_zero, List.set_cons_succ, Option.toList, List.cons_append, List.nil_append, Nat.add_zero]
      have HL := run_live p1 ((hW.upd (i := 0) (v := 0) (by decide) (by decide)).upd (i := 3) (v := rmA (z 3)) (by decide) (by decide)) hR he
      have hv := congrArg nI HL.1.symm
      refine V_istore (i := 6) dL_law_941 rfl rfl ?_
      dsimp only [List.set_cons_zero, List.set_cons_succ]
      refine V_aload_n (i := 2) dL_law_943 rfl rfl ?_
      refine V_callV (C := RX7) (q := 0) (ci := 6) (As := []) (rest := []) [14] (c_X7_thrown l G B (rRun p1 ((va_up (va_up z 0 0) 3 (rmA (z 3))), g, y)).2.1) vy_X7_thrown gL_law_X7_thrown rfl rfl rfl rfl rfl rfl rfl ⟨rfl, rfl⟩ ⟨rfl, rfl⟩ ⟨hk, hn9⟩ rfl dL_law_944 (fun v Y hE => ?_)
      obtain ⟨rfl, rfl⟩ := hE
      refine ⟨rfl, ?_⟩
      dsimp only [vfill, List.set_cons_zero, List.set_cons_succ, Option.toList, List.cons_append, List.nil_append, Nat.add_zero]
      refine V_top (b := 0) ((HL.2.2.2 0 (by decide) (by decide)).trans rfl) ?_
      refine V_iload (i := 5) dL_law_947 rfl ?_
      refine V_icmp_eq (tgt := 954) (by omega) (by omega) dL_law_949 rfl (fun h_949 => ?_) (fun h_949 => ?_)
      · refine V_iload (i := 5) dL_law_954 rfl ?_
        refine V_if_ne (tgt := 971) (by omega) dL_law_956 rfl (fun h_956 => ?_) (fun h_956 => ?_)
        · exfalso; omega
        · refine V_aload_n (i := 3) dL_law_959 rfl rfl ?_
          refine V_iconst (v := 0) dL_law_960 rfl ?_
          refine V_lald (q := 24) rfl (by omega) rfl dL_law_961 ?_
          refine V_iload (i := 6) dL_law_962 rfl ?_
          refine V_i2l dL_law_964 ?_
          refine V_lcmp (v := 0) dL_law_965 (lcq hv) ?_
          refine V_if_eq (tgt := 971) (by omega) dL_law_966 rfl (fun h_966 => ?_) (fun h_966 => ?_)
          · refine V_goto (tgt := 1635) dL_law_971 rfl ?_
            exact kk (n, tx, r, (rmO ho), (rmH ho hs e), zf, wo, sn, (runC p1 e).2, t, s0, s1, (rRun p1 ((va_up (va_up z 0 0) 3 (rmA (z 3))), g, y)).2.1, rr, (rRun p1 ((va_up (va_up z 0 0) 3 (rmA (z 3))), g, y)).2.2.1, tr, (rmD (z 3) g d), kp, ik, (rRun p1 ((va_up (va_up z 0 0) 3 (rmA (z 3))), g, y)).2.2.2, mt, _) _ _ _ _ ⟨⟨(HL.2.2.2 1 (by decide) (by decide)).trans ((up_n (by decide)).trans ((up_n (by decide)).trans h1)), hn, ht, hr, eB_run p1 e he, het, HL.2.1, hH.remember hR he ((HL.2.2.2 3 (by decide) (by decide)).trans up_s), hS⟩, HL.2.2.1⟩ (by omega) (by omega)
          · exfalso; omega
      · exfalso; omega
  · refine ⟨rfl, ?_⟩
    dsimp only [vfill, List.set_cons_zero, List.set_cons_succ, Option.toList, List.cons_append, List.nil_append, Nat.add_zero]
    refine V_istore (i := 5) dL_law_929 rfl rfl ?_
    dsimp only [List.set_cons_zero, List.set_cons_succ]
    refine V_aload_n (i := 2) dL_law_931 rfl rfl ?_
    refine V_aload_n (i := 0) dL_law_932 rfl rfl ?_
    refine V_iload (i := 4) dL_law_933 rfl ?_
    refine V_iconst (v := 1) dL_law_935 rfl ?_
    refine V_iadd dL_law_936 ?_
    refine V_sld hS9 (by omega) e1 dL_law_937 ?_
    refine V_callV (C := RX7) (q := 0) (ci := 6) (As := _) (rest := []) [14, 17, 19, 22] (c_X7_run l G B z g d y p1 hz3 hp1 hgB (fun t9 => ∃ e9, QZ (va_up (va_up z 0 0) 3 (rmA (z 3))) t9 e9) (fun t9 q9 => q9.elim fun _ h9 => h9.1.gB) (fun t9 q9 => q9.elim fun _ h9 => ⟨_, h9.tick⟩) ⟨_, QZ.watch ((hW.upd (i := 0) (v := 0) (by decide) (by decide)).upd (i := 3) (v := rmA (z 3)) (by decide) (by decide)) hR he⟩) vy_X7_run gL_law_X7_run rfl rfl rfl rfl rfl rfl rfl ⟨rfl, rfl⟩ ⟨rfl, rfl⟩ ⟨hk, hn9⟩ rfl dL_law_938 (fun v Y hE => ?_)
    rcases hE with ⟨m1, rfl, rfl⟩ | ⟨m1, m2, rfl, rfl⟩ | ⟨m1, m2, rfl, rfl⟩
    · refine ⟨rfl, ?_⟩
      dsimp only [vfill, w3, List.set_cons_zero, List.set_cons_succ, Option.toList, List.cons_append, List.nil_append, Nat.add_zero]
      refine V_istore (i := 6) dL_law_941 rfl rfl ?_
      dsimp only [List.set_cons_zero, List.set_cons_succ]
      refine V_aload_n (i := 2) dL_law_943 rfl rfl ?_
      refine V_callV (C := RX7) (q := 0) (ci := 6) (As := []) (rest := []) [14] (c_X7_thrown l G B (va_up z 0 1)) vy_X7_thrown gL_law_X7_thrown rfl rfl rfl rfl rfl rfl rfl ⟨rfl, rfl⟩ ⟨rfl, rfl⟩ ⟨hk, hn9⟩ rfl dL_law_944 (fun v Y hE => ?_)
      obtain ⟨rfl, rfl⟩ := hE
      refine ⟨rfl, ?_⟩
      dsimp only [vfill, List.set_cons_zero, List.set_cons_succ, Option.toList, List.cons_append, List.nil_append, Nat.add_zero]
      refine V_top (b := 1) rfl ?_
      refine V_iload (i := 5) dL_law_947 rfl ?_
      refine V_icmp_eq (tgt := 954) (by omega) (by omega) dL_law_949 rfl (fun h_949 => ?_) (fun h_949 => ?_)
      · refine V_iload (i := 5) dL_law_954 rfl ?_
        refine V_if_ne (tgt := 971) (by omega) dL_law_956 rfl (fun h_956 => ?_) (fun h_956 => ?_)
        · refine V_goto (tgt := 1635) dL_law_971 rfl ?_
          exact kk (n, tx, r, ho, hs, zf, wo, sn, e, t, s0, s1, (va_up z 0 1), rr, g, tr, d, kp, ik, y, mt, _) _ _ _ _ ⟨⟨(up_n (by decide)).trans h1, hn, ht, hr, he, het, hR, hH.upd (by decide), hS⟩, hW.upd (by decide) (by decide)⟩ (by omega) (by omega)
        · exfalso; omega
      · exfalso; omega
    · exfalso
      omega
    · exfalso
      omega
  · refine ⟨rfl, ?_⟩
    dsimp only [vfill, List.set_cons_zero, List.set_cons_succ, Option.toList, List.cons_append, List.nil_append, Nat.add_zero]
    refine V_istore (i := 5) dL_law_929 rfl rfl ?_
    dsimp only [List.set_cons_zero, List.set_cons_succ]
    refine V_aload_n (i := 2) dL_law_931 rfl rfl ?_
    refine V_aload_n (i := 0) dL_law_932 rfl rfl ?_
    refine V_iload (i := 4) dL_law_933 rfl ?_
    refine V_iconst (v := 1) dL_law_935 rfl ?_
    refine V_iadd dL_law_936 ?_
    refine V_sld hS9 (by omega) e1 dL_law_937 ?_
    refine V_callV (C := RX7) (q := 0) (ci := 6) (As := _) (rest := []) [14, 17, 19, 22] (c_X7_run l G B z g d y p1 hz3 hp1 hgB (fun t9 => ∃ e9, QZ (va_up (va_up z 0 0) 3 (rmA (z 3))) t9 e9) (fun t9 q9 => q9.elim fun _ h9 => h9.1.gB) (fun t9 q9 => q9.elim fun _ h9 => ⟨_, h9.tick⟩) ⟨_, QZ.watch ((hW.upd (i := 0) (v := 0) (by decide) (by decide)).upd (i := 3) (v := rmA (z 3)) (by decide) (by decide)) hR he⟩) vy_X7_run gL_law_X7_run rfl rfl rfl rfl rfl rfl rfl ⟨rfl, rfl⟩ ⟨rfl, rfl⟩ ⟨hk, hn9⟩ rfl dL_law_938 (fun v Y hE => ?_)
    rcases hE with ⟨m1, rfl, rfl⟩ | ⟨m1, m2, rfl, rfl⟩ | ⟨m1, m2, rfl, rfl⟩
    · exfalso
      omega
    · refine ⟨rfl, ?_⟩
      dsimp only [vfill, w3, List.set_cons_zero, List.set_cons_succ, Option.toList, List.cons_append, List.nil_append, Nat.add_zero]
      refine V_istore (i := 6) dL_law_941 rfl rfl ?_
      dsimp only [List.set_cons_zero, List.set_cons_succ]
      refine V_aload_n (i := 2) dL_law_943 rfl rfl ?_
      refine V_callV (C := RX7) (q := 0) (ci := 6) (As := []) (rest := []) [14] (c_X7_thrown l G B (va_up z 0 2)) vy_X7_thrown gL_law_X7_thrown rfl rfl rfl rfl rfl rfl rfl ⟨rfl, rfl⟩ ⟨rfl, rfl⟩ ⟨hk, hn9⟩ rfl dL_law_944 (fun v Y hE => ?_)
      obtain ⟨rfl, rfl⟩ := hE
      refine ⟨rfl, ?_⟩
      dsimp only [vfill, List.set_cons_zero, List.set_cons_succ, Option.toList, List.cons_append, List.nil_append, Nat.add_zero]
      refine V_top (b := 2) rfl ?_
      refine V_iload (i := 5) dL_law_947 rfl ?_
      refine V_icmp_eq (tgt := 954) (by omega) (by omega) dL_law_949 rfl (fun h_949 => ?_) (fun h_949 => ?_)
      · refine V_iload (i := 5) dL_law_954 rfl ?_
        refine V_if_ne (tgt := 971) (by omega) dL_law_956 rfl (fun h_956 => ?_) (fun h_956 => ?_)
        · refine V_goto (tgt := 1635) dL_law_971 rfl ?_
          exact kk (n, tx, r, ho, hs, zf, wo, sn, e, t, s0, s1, (va_up z 0 2), rr, g, tr, d, kp, ik, y, mt, _) _ _ _ _ ⟨⟨(up_n (by decide)).trans h1, hn, ht, hr, he, het, hR, hH.upd (by decide), hS⟩, hW.upd (by decide) (by decide)⟩ (by omega) (by omega)
        · exfalso; omega
      · exfalso; omega
    · exfalso
      omega

set_option maxHeartbeats 4000000 in
set_option maxRecDepth 100000 in
theorem L_undo (l : Launch) (hst : l.stackTraces = false) (G : vG) (Γ : vF) (b Ls : Nat) (xs : Nat → Int32) (hS9 : vScr Γ b Ls xs) (hE9 : vE9 Γ.2.2.1) (hZ9 : vZ Γ.2.2.2.2.2.2.2.2.2 Γ.2.2.1 Γ.2.2.1.heap) (hN9 : vNC Γ.2.2.1) (A : Nat → Nat) (ea : Nat → Nat → Nat) (B : Nat → Nat) (ou i k n9 : Nat) (hi6 : i + 6 ≤ Ls) (hk : k + 1 ≤ 601024) (hn9 : n9 + 6 ≤ 7293034)  (n : Nat) (tx r ho : Nat → Nat) (hs : Nat → vE) (zf wo sn : Nat → Nat) (e t s0 s1 : vE) (z rr g tr d kp ik y mt : Nat → Nat) (fo : Nat → Int64) (hI : LX (n, tx, r, ho, hs, zf, wo, sn, e, t, s0, s1, z, rr, g, tr, d, kp, ik, y, mt, fo)) (u5 u6 : Option Value)
    (kk : ∀ (σ : LSt) (k9 n8 : Nat) (v5 v6 : Option Value), LX σ → k9 ≤ k + 1 → n8 ≤ n9 + 6 → V l G (cL_law, 7, wsL_law, RL, room_1) Γ k9 n8 1635 [some (.ref b), some (.ref (A 0)), some (.ref (B 0)), some (.ref ou), some (.int (nI i)), v5, v6] [] (W25 G A ea B ou σ)) :
    V l G (cL_law, 7, wsL_law, RL, room_1) Γ k n9 974 [some (.ref b), some (.ref (A 0)), some (.ref (B 0)), some (.ref ou), some (.int (nI i)), u5, u6] [] [oO A ea n, iA G (A 1) 140 tx, tR (A 2) r, eK G (ea 14) e, eK G (ea 15) t, hO (A 3) (A 7) ho, hA G (A 7) ea, hK G ea hs, sA G A ea, zA G (A 5) 2 zf, wO (A 6) (A 8) wo, iA G (A 8) 96 sn, eK G (ea 16) s0, eK G (ea 17) s1, mO B z, iA G (B 1) 140 tx, iA G (B 2) 427 rr, iA G (B 3) 427 g, iA G (B 4) 427 tr, iA G (B 5) 5978 d, iA G (B 6) 854 kp, zA G (B 7) 2 ik, iA G (B 8) 96 y, zA G (B 9) 96 mt, lA G ou fo] := by
  obtain ⟨⟨h1, hn, ht, hr, he, het, hR, hH, hS⟩, hW⟩ := id hI
  have hz3 : z 3 ≤ 14 := by
    have := hH.2.2.1
    have := hH.2.1
    omega
  have hz9 := hH.2.2.1
  refine V_aload_n (i := 1) dL_law_974 rfl rfl ?_
  refine V_aload_n (i := 3) dL_law_975 rfl rfl ?_
  refine V_callSW (As := _) (rest := []) [0, 5, 6, 7, 3, 24] hE9 hZ9 hN9 (c_L_undo l hst G A ea ho hs n e he hH.1 hH.2.1 ou fo) rfl ⟨by decide +kernel, by decide +kernel, by simp only [List.length_cons, List.length_nil]; decide +kernel⟩ gL_law_L_undo rfl rfl rfl rfl ⟨rfl, rfl⟩ ⟨rfl, rfl⟩ ⟨hk, hn9⟩ rfl dL_law_976 (fun v Y hE => ?_)
  rcases hE with ⟨hc, rfl, rfl⟩ | ⟨hc, rfl, rfl⟩
  · refine ⟨rfl, ?_⟩
    dsimp only [vfill, List.set_cons_zero, List.set_cons_succ, Option.toList, List.cons_append, List.nil_append, Nat.add_zero]
    refine V_istore (i := 5) dL_law_979 rfl rfl ?_
    dsimp only [List.set_cons_zero, List.set_cons_succ]
    refine V_aload_n (i := 2) dL_law_981 rfl rfl ?_
    refine V_callV (C := RX7) (q := 0) (ci := 6) (As := []) (rest := []) [14, 17, 19] (c_X7_undo l G B z g d hz3) vy_X7_undo gL_law_X7_undo rfl rfl rfl rfl rfl rfl rfl ⟨rfl, rfl⟩ ⟨rfl, rfl⟩ ⟨hk, hn9⟩ rfl dL_law_982 (fun v Y hE => ?_)
    rcases hE with ⟨m1, rfl, rfl⟩ | ⟨m1, rfl, rfl⟩
    · exfalso
      omega
    · refine ⟨rfl, ?_⟩
      dsimp only [vfill, w3, List.set_cons_zero, List.set_cons_succ, Option.toList, List.cons_append, List.nil_append, Nat.add_zero]
      have hG := hH.2.2.2 (ho 1 - 1) (by omega)
      have hv : nI (ho 1 - 1) = nI (z 3 - 1) := by rw [hz9]
      refine V_istore (i := 6) dL_law_985 rfl rfl ?_
      dsimp only [List.set_cons_zero, List.set_cons_succ]
      refine V_aload_n (i := 2) dL_law_987 rfl rfl ?_
      refine V_callV (C := RX7) (q := 0) (ci := 6) (As := []) (rest := []) [14] (c_X7_thrown l G B (va_up (va_up z 0 0) 3 (z 3 - 1))) vy_X7_thrown gL_law_X7_thrown rfl rfl rfl rfl rfl rfl rfl ⟨rfl, rfl⟩ ⟨rfl, rfl⟩ ⟨hk, hn9⟩ rfl dL_law_988 (fun v Y hE => ?_)
      obtain ⟨rfl, rfl⟩ := hE
      refine ⟨rfl, ?_⟩
      dsimp only [vfill, List.set_cons_zero, List.set_cons_succ, Option.toList, List.cons_append, List.nil_append, Nat.add_zero]
      refine V_top (b := 0) rfl ?_
      refine V_iload (i := 5) dL_law_991 rfl ?_
      refine V_icmp_eq (tgt := 998) (by omega) (by omega) dL_law_993 rfl (fun h_993 => ?_) (fun h_993 => ?_)
      · refine V_iload (i := 5) dL_law_998 rfl ?_
        refine V_if_ne (tgt := 1015) (by omega) dL_law_1000 rfl (fun h_1000 => ?_) (fun h_1000 => ?_)
        · exfalso; omega
        · refine V_aload_n (i := 3) dL_law_1003 rfl rfl ?_
          refine V_iconst (v := 0) dL_law_1004 rfl ?_
          refine V_lald (q := 24) rfl (by omega) rfl dL_law_1005 ?_
          refine V_iload (i := 6) dL_law_1006 rfl ?_
          refine V_i2l dL_law_1008 ?_
          refine V_lcmp (v := 0) dL_law_1009 (lcq hv) ?_
          refine V_if_eq (tgt := 1015) (by omega) dL_law_1010 rfl (fun h_1010 => ?_) (fun h_1010 => ?_)
          · refine V_goto (tgt := 1635) dL_law_1015 rfl ?_
            exact kk (n, tx, r, (va_up ho 1 (ho 1 - 1)), hs, zf, wo, sn, (cpC e (hs ((ho 0 + (ho 1 - 1)) % 14))), t, s0, s1, (va_up (va_up z 0 0) 3 (z 3 - 1)), rr, (cpE 427 d (427 * (z 3 - 1)) g 0), tr, d, kp, ik, y, mt, _) _ _ _ _ ⟨⟨(up_n (by decide)).trans ((up_n (by decide)).trans h1), hn, ht, hr, eB_cp hG.2, het, hG.1.copy.cong (fun k hk => by rw [cpE_back hk, hz9]), hH.back hc up_s, hS⟩, (hW.upd (by decide) (by decide)).upd (by decide) (by decide)⟩ (by omega) (by omega)
          · exfalso; omega
      · exfalso; omega
  · refine ⟨rfl, ?_⟩
    dsimp only [vfill, List.set_cons_zero, List.set_cons_succ, Option.toList, List.cons_append, List.nil_append, Nat.add_zero]
    refine V_istore (i := 5) dL_law_979 rfl rfl ?_
    dsimp only [List.set_cons_zero, List.set_cons_succ]
    refine V_aload_n (i := 2) dL_law_981 rfl rfl ?_
    refine V_callV (C := RX7) (q := 0) (ci := 6) (As := []) (rest := []) [14, 17, 19] (c_X7_undo l G B z g d hz3) vy_X7_undo gL_law_X7_undo rfl rfl rfl rfl rfl rfl rfl ⟨rfl, rfl⟩ ⟨rfl, rfl⟩ ⟨hk, hn9⟩ rfl dL_law_982 (fun v Y hE => ?_)
    rcases hE with ⟨m1, rfl, rfl⟩ | ⟨m1, rfl, rfl⟩
    · refine ⟨rfl, ?_⟩
      dsimp only [vfill, w3, List.set_cons_zero, List.set_cons_succ, Option.toList, List.cons_append, List.nil_append, Nat.add_zero]
      refine V_istore (i := 6) dL_law_985 rfl rfl ?_
      dsimp only [List.set_cons_zero, List.set_cons_succ]
      refine V_aload_n (i := 2) dL_law_987 rfl rfl ?_
      refine V_callV (C := RX7) (q := 0) (ci := 6) (As := []) (rest := []) [14] (c_X7_thrown l G B (va_up z 0 1)) vy_X7_thrown gL_law_X7_thrown rfl rfl rfl rfl rfl rfl rfl ⟨rfl, rfl⟩ ⟨rfl, rfl⟩ ⟨hk, hn9⟩ rfl dL_law_988 (fun v Y hE => ?_)
      obtain ⟨rfl, rfl⟩ := hE
      refine ⟨rfl, ?_⟩
      dsimp only [vfill, List.set_cons_zero, List.set_cons_succ, Option.toList, List.cons_append, List.nil_append, Nat.add_zero]
      refine V_top (b := 1) rfl ?_
      refine V_iload (i := 5) dL_law_991 rfl ?_
      refine V_icmp_eq (tgt := 998) (by omega) (by omega) dL_law_993 rfl (fun h_993 => ?_) (fun h_993 => ?_)
      · refine V_iload (i := 5) dL_law_998 rfl ?_
        refine V_if_ne (tgt := 1015) (by omega) dL_law_1000 rfl (fun h_1000 => ?_) (fun h_1000 => ?_)
        · refine V_goto (tgt := 1635) dL_law_1015 rfl ?_
          exact kk (n, tx, r, ho, hs, zf, wo, sn, e, t, s0, s1, (va_up z 0 1), rr, g, tr, d, kp, ik, y, mt, _) _ _ _ _ ⟨⟨(up_n (by decide)).trans h1, hn, ht, hr, he, het, hR, hH.upd (by decide), hS⟩, hW.upd (by decide) (by decide)⟩ (by omega) (by omega)
        · exfalso; omega
      · exfalso; omega
    · exfalso
      omega

set_option maxHeartbeats 4000000 in
set_option maxRecDepth 100000 in
theorem L_ends (l : Launch) (hst : l.stackTraces = false) (G : vG) (Γ : vF) (b Ls : Nat) (xs : Nat → Int32) (hS9 : vScr Γ b Ls xs) (hE9 : vE9 Γ.2.2.1) (hZ9 : vZ Γ.2.2.2.2.2.2.2.2.2 Γ.2.2.1 Γ.2.2.1.heap) (hN9 : vNC Γ.2.2.1) (A : Nat → Nat) (ea : Nat → Nat → Nat) (B : Nat → Nat) (ou i k n9 : Nat) (hi6 : i + 6 ≤ Ls) (hk : k + 1 ≤ 601024) (hn9 : n9 + 6 ≤ 7293034) (p1 : Nat) (hp1 : p1 < 4294967296) (e1 : xs (i + 1) = nI p1) (n : Nat) (tx r ho : Nat → Nat) (hs : Nat → vE) (zf wo sn : Nat → Nat) (e t s0 s1 : vE) (z rr g tr d kp ik y mt : Nat → Nat) (fo : Nat → Int64) (hI : LX (n, tx, r, ho, hs, zf, wo, sn, e, t, s0, s1, z, rr, g, tr, d, kp, ik, y, mt, fo)) (u5 u6 : Option Value)
    (kk : ∀ (σ : LSt) (k9 n8 : Nat) (v5 v6 : Option Value), LX σ → k9 ≤ k + 1 → n8 ≤ n9 + 6 → V l G (cL_law, 7, wsL_law, RL, room_1) Γ k9 n8 1635 [some (.ref b), some (.ref (A 0)), some (.ref (B 0)), some (.ref ou), some (.int (nI i)), v5, v6] [] (W25 G A ea B ou σ)) :
    V l G (cL_law, 7, wsL_law, RL, room_1) Γ k n9 1018 [some (.ref b), some (.ref (A 0)), some (.ref (B 0)), some (.ref ou), some (.int (nI i)), u5, u6] [] [oO A ea n, iA G (A 1) 140 tx, tR (A 2) r, eK G (ea 14) e, eK G (ea 15) t, hO (A 3) (A 7) ho, hA G (A 7) ea, hK G ea hs, sA G A ea, zA G (A 5) 2 zf, wO (A 6) (A 8) wo, iA G (A 8) 96 sn, eK G (ea 16) s0, eK G (ea 17) s1, mO B z, iA G (B 1) 140 tx, iA G (B 2) 427 rr, iA G (B 3) 427 g, iA G (B 4) 427 tr, iA G (B 5) 5978 d, iA G (B 6) 854 kp, zA G (B 7) 2 ik, iA G (B 8) 96 y, zA G (B 9) 96 mt, lA G ou fo] := by
  obtain ⟨⟨h1, hn, ht, hr, he, het, hR, hH, hS⟩, hW⟩ := id hI
  refine V_aload_n (i := 1) dL_law_1018 rfl rfl ?_
  refine V_aload_n (i := 0) dL_law_1019 rfl rfl ?_
  refine V_iload (i := 4) dL_law_1020 rfl ?_
  refine V_iconst (v := 1) dL_law_1022 rfl ?_
  refine V_iadd dL_law_1023 ?_
  refine V_sld hS9 (by omega) e1 dL_law_1024 ?_
  refine V_aload_n (i := 3) dL_law_1025 rfl rfl ?_
  refine V_callSW (As := _) (rest := []) [0, 3, 4, 24] hE9 hZ9 hN9 (c_L_ends l hst G A ea p1 n e t he hp1 ou fo) rfl ⟨by decide +kernel, by decide +kernel, by simp only [List.length_cons, List.length_nil]; decide +kernel⟩ gL_law_L_ends rfl rfl rfl rfl ⟨rfl, rfl⟩ ⟨rfl, rfl⟩ ⟨hk, hn9⟩ rfl dL_law_1026 (fun v Y hE => ?_)
  rcases hE with ⟨hc, rfl, rfl⟩ | ⟨hc, rfl, rfl⟩
  · refine ⟨rfl, ?_⟩
    dsimp only [vfill, List.set_cons_zero, List.set_cons_succ, Option.toList, List.cons_append, List.nil_append, Nat.add_zero]
    refine V_istore (i := 5) dL_law_1029 rfl rfl ?_
    dsimp only [List.set_cons_zero, List.set_cons_succ]
    refine V_aload_n (i := 2) dL_law_1031 rfl rfl ?_
    refine V_aload_n (i := 0) dL_law_1032 rfl rfl ?_
    refine V_iload (i := 4) dL_law_1033 rfl ?_
    refine V_iconst (v := 1) dL_law_1035 rfl ?_
    refine V_iadd dL_law_1036 ?_
    refine V_sld hS9 (by omega) e1 dL_law_1037 ?_
    refine V_callV (C := RX7) (q := 0) (ci := 6) (As := _) (rest := []) [14, 17, 18, 22] (c_X7_ends l G B z g tr y p1 (fun t9 => ∃ e9, QZ (va_up z 0 0) t9 e9) (fun t9 q9 => q9.elim fun _ h9 => h9.1.gB) (fun t9 q9 => q9.elim fun _ h9 => ⟨_, h9.tick⟩) ⟨_, (QZ.try (z := va_up z 0 0) (g := g) (t := tr) (b := y) (f := t) hR he)⟩ hp1) vy_X7_ends gL_law_X7_ends rfl rfl rfl rfl rfl rfl rfl ⟨rfl, rfl⟩ ⟨rfl, rfl⟩ ⟨hk, hn9⟩ rfl dL_law_1038 (fun v Y hE => ?_)
    rcases hE with ⟨m1, rfl, rfl⟩ | ⟨m1, rfl, rfl⟩
    · exfalso
      omega
    · refine ⟨rfl, ?_⟩
      dsimp only [vfill, w3, List.set_cons_zero, List.set_cons_succ, Option.toList, List.cons_append, List.nil_append, Nat.add_zero]
      have HQ := QZ.ends hc 501 0 (QZ.try (z := va_up z 0 0) (g := g) (t := tr) (b := y) (f := t) hR he)
      have hv := congrArg nI HQ.1.symm
      refine V_istore (i := 6) dL_law_1041 rfl rfl ?_
      dsimp only [List.set_cons_zero, List.set_cons_succ]
      refine V_aload_n (i := 2) dL_law_1043 rfl rfl ?_
      refine V_callV (C := RX7) (q := 0) (ci := 6) (As := []) (rest := []) [14] (c_X7_thrown l G B (rEn p1 501 0 (rTry (va_up z 0 0) g tr y)).2.1) vy_X7_thrown gL_law_X7_thrown rfl rfl rfl rfl rfl rfl rfl ⟨rfl, rfl⟩ ⟨rfl, rfl⟩ ⟨hk, hn9⟩ rfl dL_law_1044 (fun v Y hE => ?_)
      obtain ⟨rfl, rfl⟩ := hE
      refine ⟨rfl, ?_⟩
      dsimp only [vfill, List.set_cons_zero, List.set_cons_succ, Option.toList, List.cons_append, List.nil_append, Nat.add_zero]
      refine V_top (b := 0) ((HQ.2.2 0 (by decide) (by decide)).trans rfl) ?_
      refine V_iload (i := 5) dL_law_1047 rfl ?_
      refine V_icmp_eq (tgt := 1054) (by omega) (by omega) dL_law_1049 rfl (fun h_1049 => ?_) (fun h_1049 => ?_)
      · refine V_iload (i := 5) dL_law_1054 rfl ?_
        refine V_if_ne (tgt := 1071) (by omega) dL_law_1056 rfl (fun h_1056 => ?_) (fun h_1056 => ?_)
        · exfalso; omega
        · refine V_aload_n (i := 3) dL_law_1059 rfl rfl ?_
          refine V_iconst (v := 0) dL_law_1060 rfl ?_
          refine V_lald (q := 24) rfl (by omega) rfl dL_law_1061 ?_
          refine V_iload (i := 6) dL_law_1062 rfl ?_
          refine V_i2l dL_law_1064 ?_
          refine V_lcmp (v := 0) dL_law_1065 (lcq hv) ?_
          refine V_if_eq (tgt := 1071) (by omega) dL_law_1066 rfl (fun h_1066 => ?_) (fun h_1066 => ?_)
          · refine V_goto (tgt := 1635) dL_law_1071 rfl ?_
            exact kk (n, tx, r, ho, hs, zf, wo, sn, e, (enC p1 501 0 (cpC t e)).2, s0, s1, (rEn p1 501 0 (rTry (va_up z 0 0) g tr y)).2.1, rr, g, (rEn p1 501 0 (rTry (va_up z 0 0) g tr y)).2.2.1, d, kp, ik, (rEn p1 501 0 (rTry (va_up z 0 0) g tr y)).2.2.2, mt, _) _ _ _ _ ⟨⟨(HQ.2.2 1 (by decide) (by decide)).trans ((up_n (by decide)).trans h1), hn, ht, hr, he, HQ.2.1.1, hR, hH.cong ((HQ.2.2 3 (by decide) (by decide)).trans (up_n (by decide))), hS⟩, HQ.2.1.wo⟩ (by omega) (by omega)
          · exfalso; omega
      · exfalso; omega
  · refine ⟨rfl, ?_⟩
    dsimp only [vfill, List.set_cons_zero, List.set_cons_succ, Option.toList, List.cons_append, List.nil_append, Nat.add_zero]
    refine V_istore (i := 5) dL_law_1029 rfl rfl ?_
    dsimp only [List.set_cons_zero, List.set_cons_succ]
    refine V_aload_n (i := 2) dL_law_1031 rfl rfl ?_
    refine V_aload_n (i := 0) dL_law_1032 rfl rfl ?_
    refine V_iload (i := 4) dL_law_1033 rfl ?_
    refine V_iconst (v := 1) dL_law_1035 rfl ?_
    refine V_iadd dL_law_1036 ?_
    refine V_sld hS9 (by omega) e1 dL_law_1037 ?_
    refine V_callV (C := RX7) (q := 0) (ci := 6) (As := _) (rest := []) [14, 17, 18, 22] (c_X7_ends l G B z g tr y p1 (fun t9 => ∃ e9, QZ (va_up z 0 0) t9 e9) (fun t9 q9 => q9.elim fun _ h9 => h9.1.gB) (fun t9 q9 => q9.elim fun _ h9 => ⟨_, h9.tick⟩) ⟨_, (QZ.try (z := va_up z 0 0) (g := g) (t := tr) (b := y) (f := t) hR he)⟩ hp1) vy_X7_ends gL_law_X7_ends rfl rfl rfl rfl rfl rfl rfl ⟨rfl, rfl⟩ ⟨rfl, rfl⟩ ⟨hk, hn9⟩ rfl dL_law_1038 (fun v Y hE => ?_)
    rcases hE with ⟨m1, rfl, rfl⟩ | ⟨m1, rfl, rfl⟩
    · refine ⟨rfl, ?_⟩
      dsimp only [vfill, w3, List.set_cons_zero, List.set_cons_succ, Option.toList, List.cons_append, List.nil_append, Nat.add_zero]
      refine V_istore (i := 6) dL_law_1041 rfl rfl ?_
      dsimp only [List.set_cons_zero, List.set_cons_succ]
      refine V_aload_n (i := 2) dL_law_1043 rfl rfl ?_
      refine V_callV (C := RX7) (q := 0) (ci := 6) (As := []) (rest := []) [14] (c_X7_thrown l G B (va_up z 0 1)) vy_X7_thrown gL_law_X7_thrown rfl rfl rfl rfl rfl rfl rfl ⟨rfl, rfl⟩ ⟨rfl, rfl⟩ ⟨hk, hn9⟩ rfl dL_law_1044 (fun v Y hE => ?_)
      obtain ⟨rfl, rfl⟩ := hE
      refine ⟨rfl, ?_⟩
      dsimp only [vfill, List.set_cons_zero, List.set_cons_succ, Option.toList, List.cons_append, List.nil_append, Nat.add_zero]
      refine V_top (b := 1) rfl ?_
      refine V_iload (i := 5) dL_law_1047 rfl ?_
      refine V_icmp_eq (tgt := 1054) (by omega) (by omega) dL_law_1049 rfl (fun h_1049 => ?_) (fun h_1049 => ?_)
      · refine V_iload (i := 5) dL_law_1054 rfl ?_
        refine V_if_ne (tgt := 1071) (by omega) dL_law_1056 rfl (fun h_1056 => ?_) (fun h_1056 => ?_)
        · refine V_goto (tgt := 1635) dL_law_1071 rfl ?_
          exact kk (n, tx, r, ho, hs, zf, wo, sn, e, t, s0, s1, (va_up z 0 1), rr, g, tr, d, kp, ik, y, mt, _) _ _ _ _ ⟨⟨(up_n (by decide)).trans h1, hn, ht, hr, he, het, hR, hH.upd (by decide), hS⟩, hW.upd (by decide) (by decide)⟩ (by omega) (by omega)
        · exfalso; omega
      · exfalso; omega
    · exfalso
      omega

set_option maxHeartbeats 4000000 in
set_option maxRecDepth 100000 in
theorem L_endOf (l : Launch) (hst : l.stackTraces = false) (G : vG) (Γ : vF) (b Ls : Nat) (xs : Nat → Int32) (hS9 : vScr Γ b Ls xs) (hE9 : vE9 Γ.2.2.1) (hZ9 : vZ Γ.2.2.2.2.2.2.2.2.2 Γ.2.2.1 Γ.2.2.1.heap) (hN9 : vNC Γ.2.2.1) (A : Nat → Nat) (ea : Nat → Nat → Nat) (B : Nat → Nat) (ou i k n9 : Nat) (hi6 : i + 6 ≤ Ls) (hk : k + 1 ≤ 601024) (hn9 : n9 + 6 ≤ 7293034) (p1 : Nat) (hp1 : p1 < 4294967296) (e1 : xs (i + 1) = nI p1) (n : Nat) (tx r ho : Nat → Nat) (hs : Nat → vE) (zf wo sn : Nat → Nat) (e t s0 s1 : vE) (z rr g tr d kp ik y mt : Nat → Nat) (fo : Nat → Int64) (hI : LX (n, tx, r, ho, hs, zf, wo, sn, e, t, s0, s1, z, rr, g, tr, d, kp, ik, y, mt, fo)) (u5 u6 : Option Value)
    (kk : ∀ (σ : LSt) (k9 n8 : Nat) (v5 v6 : Option Value), LX σ → k9 ≤ k + 1 → n8 ≤ n9 + 6 → V l G (cL_law, 7, wsL_law, RL, room_1) Γ k9 n8 1635 [some (.ref b), some (.ref (A 0)), some (.ref (B 0)), some (.ref ou), some (.int (nI i)), v5, v6] [] (W25 G A ea B ou σ)) :
    V l G (cL_law, 7, wsL_law, RL, room_1) Γ k n9 1074 [some (.ref b), some (.ref (A 0)), some (.ref (B 0)), some (.ref ou), some (.int (nI i)), u5, u6] [] [oO A ea n, iA G (A 1) 140 tx, tR (A 2) r, eK G (ea 14) e, eK G (ea 15) t, hO (A 3) (A 7) ho, hA G (A 7) ea, hK G ea hs, sA G A ea, zA G (A 5) 2 zf, wO (A 6) (A 8) wo, iA G (A 8) 96 sn, eK G (ea 16) s0, eK G (ea 17) s1, mO B z, iA G (B 1) 140 tx, iA G (B 2) 427 rr, iA G (B 3) 427 g, iA G (B 4) 427 tr, iA G (B 5) 5978 d, iA G (B 6) 854 kp, zA G (B 7) 2 ik, iA G (B 8) 96 y, zA G (B 9) 96 mt, lA G ou fo] := by
  obtain ⟨⟨h1, hn, ht, hr, he, het, hR, hH, hS⟩, hW⟩ := id hI
  refine V_aload_n (i := 1) dL_law_1074 rfl rfl ?_
  refine V_aload_n (i := 0) dL_law_1075 rfl rfl ?_
  refine V_iload (i := 4) dL_law_1076 rfl ?_
  refine V_iconst (v := 1) dL_law_1078 rfl ?_
  refine V_iadd dL_law_1079 ?_
  refine V_sld hS9 (by omega) e1 dL_law_1080 ?_
  refine V_aload_n (i := 3) dL_law_1081 rfl rfl ?_
  refine V_callSW (As := _) (rest := []) [0, 3, 4, 24] hE9 hZ9 hN9 (c_L_endOf l hst G A ea p1 n e t he hp1 ou fo) rfl ⟨by decide +kernel, by decide +kernel, by simp only [List.length_cons, List.length_nil]; decide +kernel⟩ gL_law_L_endOf rfl rfl rfl rfl ⟨rfl, rfl⟩ ⟨rfl, rfl⟩ ⟨hk, hn9⟩ rfl dL_law_1082 (fun v Y hE => ?_)
  rcases hE with ⟨hc, rfl, rfl⟩ | ⟨hc, rfl, rfl⟩
  · refine ⟨rfl, ?_⟩
    dsimp only [vfill, List.set_cons_zero, List.set_cons_succ, Option.toList, List.cons_append, List.nil_append, Nat.add_zero]
    refine V_istore (i := 5) dL_law_1085 rfl rfl ?_
    dsimp only [List.set_cons_zero, List.set_cons_succ]
    refine V_aload_n (i := 2) dL_law_1087 rfl rfl ?_
    refine V_aload_n (i := 0) dL_law_1088 rfl rfl ?_
    refine V_iload (i := 4) dL_law_1089 rfl ?_
    refine V_iconst (v := 1) dL_law_1091 rfl ?_
    refine V_iadd dL_law_1092 ?_
    refine V_sld hS9 (by omega) e1 dL_law_1093 ?_
    refine V_callV (C := RX7) (q := 0) (ci := 6) (As := _) (rest := []) [14, 17, 18, 22] (c_X7_endOf l G B z g tr y p1 (fun t9 => ∃ e9, QZ (va_up z 0 0) t9 e9) (fun t9 q9 => q9.elim fun _ h9 => h9.1.gB) (fun t9 q9 => q9.elim fun _ h9 => ⟨_, h9.tick⟩) ⟨_, (QZ.try (z := va_up z 0 0) (g := g) (t := tr) (b := y) (f := t) hR he)⟩ hp1) vy_X7_endOf gL_law_X7_endOf rfl rfl rfl rfl rfl rfl rfl ⟨rfl, rfl⟩ ⟨rfl, rfl⟩ ⟨hk, hn9⟩ rfl dL_law_1094 (fun v Y hE => ?_)
    rcases hE with ⟨m1, rfl, rfl⟩ | ⟨m1, rfl, rfl⟩
    · exfalso
      omega
    · refine ⟨rfl, ?_⟩
      dsimp only [vfill, w3, List.set_cons_zero, List.set_cons_succ, Option.toList, List.cons_append, List.nil_append, Nat.add_zero]
      have HQ := (QZ.try (z := va_up z 0 0) (g := g) (t := tr) (b := y) (f := t) hR he).run 500
      have hv := congrArg nI (HQ.2.1.endOf hc).symm
      refine V_istore (i := 6) dL_law_1097 rfl rfl ?_
      dsimp only [List.set_cons_zero, List.set_cons_succ]
      refine V_aload_n (i := 2) dL_law_1099 rfl rfl ?_
      refine V_callV (C := RX7) (q := 0) (ci := 6) (As := []) (rest := []) [14] (c_X7_thrown l G B (rRun 500 (rTry (va_up z 0 0) g tr y)).2.1) vy_X7_thrown gL_law_X7_thrown rfl rfl rfl rfl rfl rfl rfl ⟨rfl, rfl⟩ ⟨rfl, rfl⟩ ⟨hk, hn9⟩ rfl dL_law_1100 (fun v Y hE => ?_)
      obtain ⟨rfl, rfl⟩ := hE
      refine ⟨rfl, ?_⟩
      dsimp only [vfill, List.set_cons_zero, List.set_cons_succ, Option.toList, List.cons_append, List.nil_append, Nat.add_zero]
      refine V_top (b := 0) ((HQ.2.2 0 (by decide) (by decide)).trans rfl) ?_
      refine V_iload (i := 5) dL_law_1103 rfl ?_
      refine V_icmp_eq (tgt := 1110) (by omega) (by omega) dL_law_1105 rfl (fun h_1105 => ?_) (fun h_1105 => ?_)
      · refine V_iload (i := 5) dL_law_1110 rfl ?_
        refine V_if_ne (tgt := 1127) (by omega) dL_law_1112 rfl (fun h_1112 => ?_) (fun h_1112 => ?_)
        · exfalso; omega
        · refine V_aload_n (i := 3) dL_law_1115 rfl rfl ?_
          refine V_iconst (v := 0) dL_law_1116 rfl ?_
          refine V_lald (q := 24) rfl (by omega) rfl dL_law_1117 ?_
          refine V_iload (i := 6) dL_law_1118 rfl ?_
          refine V_i2l dL_law_1120 ?_
          refine V_lcmp (v := 0) dL_law_1121 (lcq hv) ?_
          refine V_if_eq (tgt := 1127) (by omega) dL_law_1122 rfl (fun h_1122 => ?_) (fun h_1122 => ?_)
          · refine V_goto (tgt := 1635) dL_law_1127 rfl ?_
            exact kk (n, tx, r, ho, hs, zf, wo, sn, e, (laC 500 t e), s0, s1, (rRun 500 (rTry (va_up z 0 0) g tr y)).2.1, rr, g, (rRun 500 (rTry (va_up z 0 0) g tr y)).2.2.1, d, kp, ik, (rRun 500 (rTry (va_up z 0 0) g tr y)).2.2.2, mt, _) _ _ _ _ ⟨⟨(HQ.2.2 1 (by decide) (by decide)).trans ((up_n (by decide)).trans h1), hn, ht, hr, he, HQ.2.1.1, hR, hH.cong ((HQ.2.2 3 (by decide) (by decide)).trans (up_n (by decide))), hS⟩, HQ.2.1.wo⟩ (by omega) (by omega)
          · exfalso; omega
      · exfalso; omega
  · refine ⟨rfl, ?_⟩
    dsimp only [vfill, List.set_cons_zero, List.set_cons_succ, Option.toList, List.cons_append, List.nil_append, Nat.add_zero]
    refine V_istore (i := 5) dL_law_1085 rfl rfl ?_
    dsimp only [List.set_cons_zero, List.set_cons_succ]
    refine V_aload_n (i := 2) dL_law_1087 rfl rfl ?_
    refine V_aload_n (i := 0) dL_law_1088 rfl rfl ?_
    refine V_iload (i := 4) dL_law_1089 rfl ?_
    refine V_iconst (v := 1) dL_law_1091 rfl ?_
    refine V_iadd dL_law_1092 ?_
    refine V_sld hS9 (by omega) e1 dL_law_1093 ?_
    refine V_callV (C := RX7) (q := 0) (ci := 6) (As := _) (rest := []) [14, 17, 18, 22] (c_X7_endOf l G B z g tr y p1 (fun t9 => ∃ e9, QZ (va_up z 0 0) t9 e9) (fun t9 q9 => q9.elim fun _ h9 => h9.1.gB) (fun t9 q9 => q9.elim fun _ h9 => ⟨_, h9.tick⟩) ⟨_, (QZ.try (z := va_up z 0 0) (g := g) (t := tr) (b := y) (f := t) hR he)⟩ hp1) vy_X7_endOf gL_law_X7_endOf rfl rfl rfl rfl rfl rfl rfl ⟨rfl, rfl⟩ ⟨rfl, rfl⟩ ⟨hk, hn9⟩ rfl dL_law_1094 (fun v Y hE => ?_)
    rcases hE with ⟨m1, rfl, rfl⟩ | ⟨m1, rfl, rfl⟩
    · refine ⟨rfl, ?_⟩
      dsimp only [vfill, w3, List.set_cons_zero, List.set_cons_succ, Option.toList, List.cons_append, List.nil_append, Nat.add_zero]
      refine V_istore (i := 6) dL_law_1097 rfl rfl ?_
      dsimp only [List.set_cons_zero, List.set_cons_succ]
      refine V_aload_n (i := 2) dL_law_1099 rfl rfl ?_
      refine V_callV (C := RX7) (q := 0) (ci := 6) (As := []) (rest := []) [14] (c_X7_thrown l G B (va_up z 0 1)) vy_X7_thrown gL_law_X7_thrown rfl rfl rfl rfl rfl rfl rfl ⟨rfl, rfl⟩ ⟨rfl, rfl⟩ ⟨hk, hn9⟩ rfl dL_law_1100 (fun v Y hE => ?_)
      obtain ⟨rfl, rfl⟩ := hE
      refine ⟨rfl, ?_⟩
      dsimp only [vfill, List.set_cons_zero, List.set_cons_succ, Option.toList, List.cons_append, List.nil_append, Nat.add_zero]
      refine V_top (b := 1) rfl ?_
      refine V_iload (i := 5) dL_law_1103 rfl ?_
      refine V_icmp_eq (tgt := 1110) (by omega) (by omega) dL_law_1105 rfl (fun h_1105 => ?_) (fun h_1105 => ?_)
      · refine V_iload (i := 5) dL_law_1110 rfl ?_
        refine V_if_ne (tgt := 1127) (by omega) dL_law_1112 rfl (fun h_1112 => ?_) (fun h_1112 => ?_)
        · refine V_goto (tgt := 1635) dL_law_1127 rfl ?_
          exact kk (n, tx, r, ho, hs, zf, wo, sn, e, t, s0, s1, (va_up z 0 1), rr, g, tr, d, kp, ik, y, mt, _) _ _ _ _ ⟨⟨(up_n (by decide)).trans h1, hn, ht, hr, he, het, hR, hH.upd (by decide), hS⟩, hW.upd (by decide) (by decide)⟩ (by omega) (by omega)
        · exfalso; omega
      · exfalso; omega
    · exfalso
      omega

set_option maxHeartbeats 4000000 in
set_option maxRecDepth 100000 in
theorem L_later (l : Launch) (hst : l.stackTraces = false) (G : vG) (Γ : vF) (b Ls : Nat) (xs : Nat → Int32) (hS9 : vScr Γ b Ls xs) (hE9 : vE9 Γ.2.2.1) (hZ9 : vZ Γ.2.2.2.2.2.2.2.2.2 Γ.2.2.1 Γ.2.2.1.heap) (hN9 : vNC Γ.2.2.1) (A : Nat → Nat) (ea : Nat → Nat → Nat) (B : Nat → Nat) (ou i k n9 : Nat) (hi6 : i + 6 ≤ Ls) (hk : k + 1 ≤ 601024) (hn9 : n9 + 6 ≤ 7293034) (p1 : Nat) (hp1 : p1 < 4294967296) (e1 : xs (i + 1) = nI p1) (p2 : Nat) (hp2 : p2 < 4294967296) (e2 : xs (i + 2) = nI p2) (n : Nat) (tx r ho : Nat → Nat) (hs : Nat → vE) (zf wo sn : Nat → Nat) (e t s0 s1 : vE) (z rr g tr d kp ik y mt : Nat → Nat) (fo : Nat → Int64) (hI : LX (n, tx, r, ho, hs, zf, wo, sn, e, t, s0, s1, z, rr, g, tr, d, kp, ik, y, mt, fo)) (u5 u6 : Option Value)
    (kk : ∀ (σ : LSt) (k9 n8 : Nat) (v5 v6 : Option Value), LX σ → k9 ≤ k + 1 → n8 ≤ n9 + 6 → V l G (cL_law, 7, wsL_law, RL, room_1) Γ k9 n8 1635 [some (.ref b), some (.ref (A 0)), some (.ref (B 0)), some (.ref ou), some (.int (nI i)), v5, v6] [] (W25 G A ea B ou σ)) :
    V l G (cL_law, 7, wsL_law, RL, room_1) Γ k n9 1130 [some (.ref b), some (.ref (A 0)), some (.ref (B 0)), some (.ref ou), some (.int (nI i)), u5, u6] [] [oO A ea n, iA G (A 1) 140 tx, tR (A 2) r, eK G (ea 14) e, eK G (ea 15) t, hO (A 3) (A 7) ho, hA G (A 7) ea, hK G ea hs, sA G A ea, zA G (A 5) 2 zf, wO (A 6) (A 8) wo, iA G (A 8) 96 sn, eK G (ea 16) s0, eK G (ea 17) s1, mO B z, iA G (B 1) 140 tx, iA G (B 2) 427 rr, iA G (B 3) 427 g, iA G (B 4) 427 tr, iA G (B 5) 5978 d, iA G (B 6) 854 kp, zA G (B 7) 2 ik, iA G (B 8) 96 y, zA G (B 9) 96 mt, lA G ou fo] := by
  obtain ⟨⟨h1, hn, ht, hr, he, het, hR, hH, hS⟩, hW⟩ := id hI
  refine V_aload_n (i := 1) dL_law_1130 rfl rfl ?_
  refine V_aload_n (i := 0) dL_law_1131 rfl rfl ?_
  refine V_iload (i := 4) dL_law_1132 rfl ?_
  refine V_iconst (v := 1) dL_law_1134 rfl ?_
  refine V_iadd dL_law_1135 ?_
  refine V_sld hS9 (by omega) e1 dL_law_1136 ?_
  refine V_aload_n (i := 0) dL_law_1137 rfl rfl ?_
  refine V_iload (i := 4) dL_law_1138 rfl ?_
  refine V_iconst (v := 2) dL_law_1140 rfl ?_
  refine V_iadd dL_law_1141 ?_
  refine V_sld hS9 (by omega) e2 dL_law_1142 ?_
  refine V_aload_n (i := 3) dL_law_1143 rfl rfl ?_
  refine V_callSW (As := _) (rest := []) [0, 3, 4, 24] hE9 hZ9 hN9 (c_L_later l hst G A ea p1 p2 n e t he hp1 hp2 ou fo) rfl ⟨by decide +kernel, by decide +kernel, by simp only [List.length_cons, List.length_nil]; decide +kernel⟩ gL_law_L_later rfl rfl rfl rfl ⟨rfl, rfl⟩ ⟨rfl, rfl⟩ ⟨hk, hn9⟩ rfl dL_law_1144 (fun v Y hE => ?_)
  rcases hE with ⟨hc, rfl, rfl⟩ | ⟨hc, rfl, rfl⟩ | ⟨hc, rfl, rfl⟩
  · refine ⟨rfl, ?_⟩
    dsimp only [vfill, List.set_cons_zero, List.set_cons_succ, Option.toList, List.cons_append, List.nil_append, Nat.add_zero]
    refine V_istore (i := 5) dL_law_1147 rfl rfl ?_
    dsimp only [List.set_cons_zero, List.set_cons_succ]
    refine V_aload_n (i := 2) dL_law_1149 rfl rfl ?_
    refine V_aload_n (i := 0) dL_law_1150 rfl rfl ?_
    refine V_iload (i := 4) dL_law_1151 rfl ?_
    refine V_iconst (v := 1) dL_law_1153 rfl ?_
    refine V_iadd dL_law_1154 ?_
    refine V_sld hS9 (by omega) e1 dL_law_1155 ?_
    refine V_aload_n (i := 0) dL_law_1156 rfl rfl ?_
    refine V_iload (i := 4) dL_law_1157 rfl ?_
    refine V_iconst (v := 2) dL_law_1159 rfl ?_
    refine V_iadd dL_law_1160 ?_
    refine V_sld hS9 (by omega) e2 dL_law_1161 ?_
    refine V_callV (C := RX7) (q := 0) (ci := 6) (As := _) (rest := []) [14, 17, 18, 22] (c_X7_later l G B z g tr y p1 p2 (fun t9 => ∃ e9, QZ (va_up z 0 0) t9 e9) (fun t9 q9 => q9.elim fun _ h9 => h9.1.gB) (fun t9 q9 => q9.elim fun _ h9 => ⟨_, h9.tick⟩) ⟨_, (QZ.try (z := va_up z 0 0) (g := g) (t := tr) (b := y) (f := t) hR he)⟩ hp1 hp2) vy_X7_later gL_law_X7_later rfl rfl rfl rfl rfl rfl rfl ⟨rfl, rfl⟩ ⟨rfl, rfl⟩ ⟨hk, hn9⟩ rfl dL_law_1162 (fun v Y hE => ?_)
    rcases hE with ⟨m1, rfl, rfl⟩ | ⟨m1, m2, rfl, rfl⟩ | ⟨m1, m2, rfl, rfl⟩
    · exfalso
      omega
    · exfalso
      omega
    · refine ⟨rfl, ?_⟩
      dsimp only [vfill, w3, List.set_cons_zero, List.set_cons_succ, Option.toList, List.cons_append, List.nil_append, Nat.add_zero]
      have HQ := (QZ.try (z := va_up z 0 0) (g := g) (t := tr) (b := y) (f := t) hR he).run p2
      have hv := congrArg nI (HQ.2.1.val hc.1).symm
      refine V_istore (i := 6) dL_law_1165 rfl rfl ?_
      dsimp only [List.set_cons_zero, List.set_cons_succ]
      refine V_aload_n (i := 2) dL_law_1167 rfl rfl ?_
      refine V_callV (C := RX7) (q := 0) (ci := 6) (As := []) (rest := []) [14] (c_X7_thrown l G B (rRun p2 (rTry (va_up z 0 0) g tr y)).2.1) vy_X7_thrown gL_law_X7_thrown rfl rfl rfl rfl rfl rfl rfl ⟨rfl, rfl⟩ ⟨rfl, rfl⟩ ⟨hk, hn9⟩ rfl dL_law_1168 (fun v Y hE => ?_)
      obtain ⟨rfl, rfl⟩ := hE
      refine ⟨rfl, ?_⟩
      dsimp only [vfill, List.set_cons_zero, List.set_cons_succ, Option.toList, List.cons_append, List.nil_append, Nat.add_zero]
      refine V_top (b := 0) ((HQ.2.2 0 (by decide) (by decide)).trans rfl) ?_
      refine V_iload (i := 5) dL_law_1171 rfl ?_
      refine V_icmp_eq (tgt := 1178) (by omega) (by omega) dL_law_1173 rfl (fun h_1173 => ?_) (fun h_1173 => ?_)
      · refine V_iload (i := 5) dL_law_1178 rfl ?_
        refine V_if_ne (tgt := 1195) (by omega) dL_law_1180 rfl (fun h_1180 => ?_) (fun h_1180 => ?_)
        · exfalso; omega
        · refine V_aload_n (i := 3) dL_law_1183 rfl rfl ?_
          refine V_iconst (v := 0) dL_law_1184 rfl ?_
          refine V_lald (q := 24) rfl (by omega) rfl dL_law_1185 ?_
          refine V_iload (i := 6) dL_law_1186 rfl ?_
          refine V_i2l dL_law_1188 ?_
          refine V_lcmp (v := 0) dL_law_1189 (lcq hv) ?_
          refine V_if_eq (tgt := 1195) (by omega) dL_law_1190 rfl (fun h_1190 => ?_) (fun h_1190 => ?_)
          · refine V_goto (tgt := 1635) dL_law_1195 rfl ?_
            exact kk (n, tx, r, ho, hs, zf, wo, sn, e, (laC p2 t e), s0, s1, (rRun p2 (rTry (va_up z 0 0) g tr y)).2.1, rr, g, (rRun p2 (rTry (va_up z 0 0) g tr y)).2.2.1, d, kp, ik, (rRun p2 (rTry (va_up z 0 0) g tr y)).2.2.2, mt, _) _ _ _ _ ⟨⟨(HQ.2.2 1 (by decide) (by decide)).trans ((up_n (by decide)).trans h1), hn, ht, hr, he, HQ.2.1.1, hR, hH.cong ((HQ.2.2 3 (by decide) (by decide)).trans (up_n (by decide))), hS⟩, HQ.2.1.wo⟩ (by omega) (by omega)
          · exfalso; omega
      · exfalso; omega
  · refine ⟨rfl, ?_⟩
    dsimp only [vfill, List.set_cons_zero, List.set_cons_succ, Option.toList, List.cons_append, List.nil_append, Nat.add_zero]
    refine V_istore (i := 5) dL_law_1147 rfl rfl ?_
    dsimp only [List.set_cons_zero, List.set_cons_succ]
    refine V_aload_n (i := 2) dL_law_1149 rfl rfl ?_
    refine V_aload_n (i := 0) dL_law_1150 rfl rfl ?_
    refine V_iload (i := 4) dL_law_1151 rfl ?_
    refine V_iconst (v := 1) dL_law_1153 rfl ?_
    refine V_iadd dL_law_1154 ?_
    refine V_sld hS9 (by omega) e1 dL_law_1155 ?_
    refine V_aload_n (i := 0) dL_law_1156 rfl rfl ?_
    refine V_iload (i := 4) dL_law_1157 rfl ?_
    refine V_iconst (v := 2) dL_law_1159 rfl ?_
    refine V_iadd dL_law_1160 ?_
    refine V_sld hS9 (by omega) e2 dL_law_1161 ?_
    refine V_callV (C := RX7) (q := 0) (ci := 6) (As := _) (rest := []) [14, 17, 18, 22] (c_X7_later l G B z g tr y p1 p2 (fun t9 => ∃ e9, QZ (va_up z 0 0) t9 e9) (fun t9 q9 => q9.elim fun _ h9 => h9.1.gB) (fun t9 q9 => q9.elim fun _ h9 => ⟨_, h9.tick⟩) ⟨_, (QZ.try (z := va_up z 0 0) (g := g) (t := tr) (b := y) (f := t) hR he)⟩ hp1 hp2) vy_X7_later gL_law_X7_later rfl rfl rfl rfl rfl rfl rfl ⟨rfl, rfl⟩ ⟨rfl, rfl⟩ ⟨hk, hn9⟩ rfl dL_law_1162 (fun v Y hE => ?_)
    rcases hE with ⟨m1, rfl, rfl⟩ | ⟨m1, m2, rfl, rfl⟩ | ⟨m1, m2, rfl, rfl⟩
    · refine ⟨rfl, ?_⟩
      dsimp only [vfill, w3, List.set_cons_zero, List.set_cons_succ, Option.toList, List.cons_append, List.nil_append, Nat.add_zero]
      refine V_istore (i := 6) dL_law_1165 rfl rfl ?_
      dsimp only [List.set_cons_zero, List.set_cons_succ]
      refine V_aload_n (i := 2) dL_law_1167 rfl rfl ?_
      refine V_callV (C := RX7) (q := 0) (ci := 6) (As := []) (rest := []) [14] (c_X7_thrown l G B (va_up z 0 1)) vy_X7_thrown gL_law_X7_thrown rfl rfl rfl rfl rfl rfl rfl ⟨rfl, rfl⟩ ⟨rfl, rfl⟩ ⟨hk, hn9⟩ rfl dL_law_1168 (fun v Y hE => ?_)
      obtain ⟨rfl, rfl⟩ := hE
      refine ⟨rfl, ?_⟩
      dsimp only [vfill, List.set_cons_zero, List.set_cons_succ, Option.toList, List.cons_append, List.nil_append, Nat.add_zero]
      refine V_top (b := 1) rfl ?_
      refine V_iload (i := 5) dL_law_1171 rfl ?_
      refine V_icmp_eq (tgt := 1178) (by omega) (by omega) dL_law_1173 rfl (fun h_1173 => ?_) (fun h_1173 => ?_)
      · refine V_iload (i := 5) dL_law_1178 rfl ?_
        refine V_if_ne (tgt := 1195) (by omega) dL_law_1180 rfl (fun h_1180 => ?_) (fun h_1180 => ?_)
        · refine V_goto (tgt := 1635) dL_law_1195 rfl ?_
          exact kk (n, tx, r, ho, hs, zf, wo, sn, e, t, s0, s1, (va_up z 0 1), rr, g, tr, d, kp, ik, y, mt, _) _ _ _ _ ⟨⟨(up_n (by decide)).trans h1, hn, ht, hr, he, het, hR, hH.upd (by decide), hS⟩, hW.upd (by decide) (by decide)⟩ (by omega) (by omega)
        · exfalso; omega
      · exfalso; omega
    · exfalso
      omega
    · exfalso
      omega
  · refine ⟨rfl, ?_⟩
    dsimp only [vfill, List.set_cons_zero, List.set_cons_succ, Option.toList, List.cons_append, List.nil_append, Nat.add_zero]
    refine V_istore (i := 5) dL_law_1147 rfl rfl ?_
    dsimp only [List.set_cons_zero, List.set_cons_succ]
    refine V_aload_n (i := 2) dL_law_1149 rfl rfl ?_
    refine V_aload_n (i := 0) dL_law_1150 rfl rfl ?_
    refine V_iload (i := 4) dL_law_1151 rfl ?_
    refine V_iconst (v := 1) dL_law_1153 rfl ?_
    refine V_iadd dL_law_1154 ?_
    refine V_sld hS9 (by omega) e1 dL_law_1155 ?_
    refine V_aload_n (i := 0) dL_law_1156 rfl rfl ?_
    refine V_iload (i := 4) dL_law_1157 rfl ?_
    refine V_iconst (v := 2) dL_law_1159 rfl ?_
    refine V_iadd dL_law_1160 ?_
    refine V_sld hS9 (by omega) e2 dL_law_1161 ?_
    refine V_callV (C := RX7) (q := 0) (ci := 6) (As := _) (rest := []) [14, 17, 18, 22] (c_X7_later l G B z g tr y p1 p2 (fun t9 => ∃ e9, QZ (va_up z 0 0) t9 e9) (fun t9 q9 => q9.elim fun _ h9 => h9.1.gB) (fun t9 q9 => q9.elim fun _ h9 => ⟨_, h9.tick⟩) ⟨_, (QZ.try (z := va_up z 0 0) (g := g) (t := tr) (b := y) (f := t) hR he)⟩ hp1 hp2) vy_X7_later gL_law_X7_later rfl rfl rfl rfl rfl rfl rfl ⟨rfl, rfl⟩ ⟨rfl, rfl⟩ ⟨hk, hn9⟩ rfl dL_law_1162 (fun v Y hE => ?_)
    rcases hE with ⟨m1, rfl, rfl⟩ | ⟨m1, m2, rfl, rfl⟩ | ⟨m1, m2, rfl, rfl⟩
    · exfalso
      omega
    · refine ⟨rfl, ?_⟩
      dsimp only [vfill, w3, List.set_cons_zero, List.set_cons_succ, Option.toList, List.cons_append, List.nil_append, Nat.add_zero]
      refine V_istore (i := 6) dL_law_1165 rfl rfl ?_
      dsimp only [List.set_cons_zero, List.set_cons_succ]
      refine V_aload_n (i := 2) dL_law_1167 rfl rfl ?_
      refine V_callV (C := RX7) (q := 0) (ci := 6) (As := []) (rest := []) [14] (c_X7_thrown l G B (va_up z 0 2)) vy_X7_thrown gL_law_X7_thrown rfl rfl rfl rfl rfl rfl rfl ⟨rfl, rfl⟩ ⟨rfl, rfl⟩ ⟨hk, hn9⟩ rfl dL_law_1168 (fun v Y hE => ?_)
      obtain ⟨rfl, rfl⟩ := hE
      refine ⟨rfl, ?_⟩
      dsimp only [vfill, List.set_cons_zero, List.set_cons_succ, Option.toList, List.cons_append, List.nil_append, Nat.add_zero]
      refine V_top (b := 2) rfl ?_
      refine V_iload (i := 5) dL_law_1171 rfl ?_
      refine V_icmp_eq (tgt := 1178) (by omega) (by omega) dL_law_1173 rfl (fun h_1173 => ?_) (fun h_1173 => ?_)
      · refine V_iload (i := 5) dL_law_1178 rfl ?_
        refine V_if_ne (tgt := 1195) (by omega) dL_law_1180 rfl (fun h_1180 => ?_) (fun h_1180 => ?_)
        · refine V_goto (tgt := 1635) dL_law_1195 rfl ?_
          exact kk (n, tx, r, ho, hs, zf, wo, sn, e, t, s0, s1, (va_up z 0 2), rr, g, tr, d, kp, ik, y, mt, _) _ _ _ _ ⟨⟨(up_n (by decide)).trans h1, hn, ht, hr, he, het, hR, hH.upd (by decide), hS⟩, hW.upd (by decide) (by decide)⟩ (by omega) (by omega)
        · exfalso; omega
      · exfalso; omega
    · exfalso
      omega

set_option maxHeartbeats 4000000 in
set_option maxRecDepth 100000 in
theorem L_contested (l : Launch) (hst : l.stackTraces = false) (G : vG) (Γ : vF) (b Ls : Nat) (xs : Nat → Int32) (hS9 : vScr Γ b Ls xs) (hE9 : vE9 Γ.2.2.1) (hZ9 : vZ Γ.2.2.2.2.2.2.2.2.2 Γ.2.2.1 Γ.2.2.1.heap) (hN9 : vNC Γ.2.2.1) (A : Nat → Nat) (ea : Nat → Nat → Nat) (B : Nat → Nat) (ou i k n9 : Nat) (hi6 : i + 6 ≤ Ls) (hk : k + 1 ≤ 601024) (hn9 : n9 + 6 ≤ 7293034) (p1 : Nat) (hp1 : p1 < 4294967296) (e1 : xs (i + 1) = nI p1) (n : Nat) (tx r ho : Nat → Nat) (hs : Nat → vE) (zf wo sn : Nat → Nat) (e t s0 s1 : vE) (z rr g tr d kp ik y mt : Nat → Nat) (fo : Nat → Int64) (hI : LX (n, tx, r, ho, hs, zf, wo, sn, e, t, s0, s1, z, rr, g, tr, d, kp, ik, y, mt, fo)) (u5 u6 : Option Value)
    (kk : ∀ (σ : LSt) (k9 n8 : Nat) (v5 v6 : Option Value), LX σ → k9 ≤ k + 1 → n8 ≤ n9 + 6 → V l G (cL_law, 7, wsL_law, RL, room_1) Γ k9 n8 1635 [some (.ref b), some (.ref (A 0)), some (.ref (B 0)), some (.ref ou), some (.int (nI i)), v5, v6] [] (W25 G A ea B ou σ)) :
    V l G (cL_law, 7, wsL_law, RL, room_1) Γ k n9 1198 [some (.ref b), some (.ref (A 0)), some (.ref (B 0)), some (.ref ou), some (.int (nI i)), u5, u6] [] [oO A ea n, iA G (A 1) 140 tx, tR (A 2) r, eK G (ea 14) e, eK G (ea 15) t, hO (A 3) (A 7) ho, hA G (A 7) ea, hK G ea hs, sA G A ea, zA G (A 5) 2 zf, wO (A 6) (A 8) wo, iA G (A 8) 96 sn, eK G (ea 16) s0, eK G (ea 17) s1, mO B z, iA G (B 1) 140 tx, iA G (B 2) 427 rr, iA G (B 3) 427 g, iA G (B 4) 427 tr, iA G (B 5) 5978 d, iA G (B 6) 854 kp, zA G (B 7) 2 ik, iA G (B 8) 96 y, zA G (B 9) 96 mt, lA G ou fo] := by
  obtain ⟨⟨h1, hn, ht, hr, he, het, hR, hH, hS⟩, hW⟩ := id hI
  refine V_aload_n (i := 1) dL_law_1198 rfl rfl ?_
  refine V_aload_n (i := 0) dL_law_1199 rfl rfl ?_
  refine V_iload (i := 4) dL_law_1200 rfl ?_
  refine V_iconst (v := 1) dL_law_1202 rfl ?_
  refine V_iadd dL_law_1203 ?_
  refine V_sld hS9 (by omega) e1 dL_law_1204 ?_
  refine V_aload_n (i := 3) dL_law_1205 rfl rfl ?_
  refine V_callSW (As := _) (rest := []) [0, 3, 4, 24] hE9 hZ9 hN9 (c_L_contested l hst G A ea p1 n e t he hp1 ou fo) rfl ⟨by decide +kernel, by decide +kernel, by simp only [List.length_cons, List.length_nil]; decide +kernel⟩ gL_law_L_contested rfl rfl rfl rfl ⟨rfl, rfl⟩ ⟨rfl, rfl⟩ ⟨hk, hn9⟩ rfl dL_law_1206 (fun v Y hE => ?_)
  rcases hE with ⟨hc, rfl, rfl⟩ | ⟨hc, rfl, rfl⟩
  · refine ⟨rfl, ?_⟩
    dsimp only [vfill, List.set_cons_zero, List.set_cons_succ, Option.toList, List.cons_append, List.nil_append, Nat.add_zero]
    refine V_istore (i := 5) dL_law_1209 rfl rfl ?_
    dsimp only [List.set_cons_zero, List.set_cons_succ]
    refine V_aload_n (i := 2) dL_law_1211 rfl rfl ?_
    refine V_aload_n (i := 0) dL_law_1212 rfl rfl ?_
    refine V_iload (i := 4) dL_law_1213 rfl ?_
    refine V_iconst (v := 1) dL_law_1215 rfl ?_
    refine V_iadd dL_law_1216 ?_
    refine V_sld hS9 (by omega) e1 dL_law_1217 ?_
    refine V_callV (C := RX7) (q := 0) (ci := 6) (As := _) (rest := []) [14, 17, 18, 22] (c_X7_contested l G B z g tr y p1 (fun t9 => ∃ e9, QZ (va_up z 0 0) t9 e9) (fun t9 q9 => q9.elim fun _ h9 => h9.1.gB) (fun t9 q9 => q9.elim fun _ h9 => ⟨_, h9.tick⟩) ⟨_, (QZ.try (z := va_up z 0 0) (g := g) (t := tr) (b := y) (f := t) hR he)⟩ (fun t9 q9 => q9.elim fun _ h9 => h9.1.wo.1) hp1) vy_X7_contested gL_law_X7_contested rfl rfl rfl rfl rfl rfl rfl ⟨rfl, rfl⟩ ⟨rfl, rfl⟩ ⟨hk, hn9⟩ rfl dL_law_1218 (fun v Y hE => ?_)
    rcases hE with ⟨m1, rfl, rfl⟩ | ⟨m1, rfl, rfl⟩
    · exfalso
      omega
    · refine ⟨rfl, ?_⟩
      dsimp only [vfill, w3, List.set_cons_zero, List.set_cons_succ, Option.toList, List.cons_append, List.nil_append, Nat.add_zero]
      have HQ := (QZ.try (z := va_up z 0 0) (g := g) (t := tr) (b := y) (f := t) hR he).run p1
      have hv := congrArg nI HQ.2.1.many
      refine V_istore (i := 6) dL_law_1221 rfl rfl ?_
      dsimp only [List.set_cons_zero, List.set_cons_succ]
      refine V_aload_n (i := 2) dL_law_1223 rfl rfl ?_
      refine V_callV (C := RX7) (q := 0) (ci := 6) (As := []) (rest := []) [14] (c_X7_thrown l G B (rRun p1 (rTry (va_up z 0 0) g tr y)).2.1) vy_X7_thrown gL_law_X7_thrown rfl rfl rfl rfl rfl rfl rfl ⟨rfl, rfl⟩ ⟨rfl, rfl⟩ ⟨hk, hn9⟩ rfl dL_law_1224 (fun v Y hE => ?_)
      obtain ⟨rfl, rfl⟩ := hE
      refine ⟨rfl, ?_⟩
      dsimp only [vfill, List.set_cons_zero, List.set_cons_succ, Option.toList, List.cons_append, List.nil_append, Nat.add_zero]
      refine V_top (b := 0) ((HQ.2.2 0 (by decide) (by decide)).trans rfl) ?_
      refine V_iload (i := 5) dL_law_1227 rfl ?_
      refine V_icmp_eq (tgt := 1234) (by omega) (by omega) dL_law_1229 rfl (fun h_1229 => ?_) (fun h_1229 => ?_)
      · refine V_iload (i := 5) dL_law_1234 rfl ?_
        refine V_if_ne (tgt := 1251) (by omega) dL_law_1236 rfl (fun h_1236 => ?_) (fun h_1236 => ?_)
        · exfalso; omega
        · refine V_aload_n (i := 3) dL_law_1239 rfl rfl ?_
          refine V_iconst (v := 0) dL_law_1240 rfl ?_
          refine V_lald (q := 24) rfl (by omega) rfl dL_law_1241 ?_
          refine V_iload (i := 6) dL_law_1242 rfl ?_
          refine V_i2l dL_law_1244 ?_
          refine V_lcmp (v := 0) dL_law_1245 (lcq hv) ?_
          refine V_if_eq (tgt := 1251) (by omega) dL_law_1246 rfl (fun h_1246 => ?_) (fun h_1246 => ?_)
          · refine V_goto (tgt := 1635) dL_law_1251 rfl ?_
            exact kk (n, tx, r, ho, hs, zf, wo, sn, e, (laC p1 t e), s0, s1, (rRun p1 (rTry (va_up z 0 0) g tr y)).2.1, rr, g, (rRun p1 (rTry (va_up z 0 0) g tr y)).2.2.1, d, kp, ik, (rRun p1 (rTry (va_up z 0 0) g tr y)).2.2.2, mt, _) _ _ _ _ ⟨⟨(HQ.2.2 1 (by decide) (by decide)).trans ((up_n (by decide)).trans h1), hn, ht, hr, he, HQ.2.1.1, hR, hH.cong ((HQ.2.2 3 (by decide) (by decide)).trans (up_n (by decide))), hS⟩, HQ.2.1.wo⟩ (by omega) (by omega)
          · exfalso; omega
      · exfalso; omega
  · refine ⟨rfl, ?_⟩
    dsimp only [vfill, List.set_cons_zero, List.set_cons_succ, Option.toList, List.cons_append, List.nil_append, Nat.add_zero]
    refine V_istore (i := 5) dL_law_1209 rfl rfl ?_
    dsimp only [List.set_cons_zero, List.set_cons_succ]
    refine V_aload_n (i := 2) dL_law_1211 rfl rfl ?_
    refine V_aload_n (i := 0) dL_law_1212 rfl rfl ?_
    refine V_iload (i := 4) dL_law_1213 rfl ?_
    refine V_iconst (v := 1) dL_law_1215 rfl ?_
    refine V_iadd dL_law_1216 ?_
    refine V_sld hS9 (by omega) e1 dL_law_1217 ?_
    refine V_callV (C := RX7) (q := 0) (ci := 6) (As := _) (rest := []) [14, 17, 18, 22] (c_X7_contested l G B z g tr y p1 (fun t9 => ∃ e9, QZ (va_up z 0 0) t9 e9) (fun t9 q9 => q9.elim fun _ h9 => h9.1.gB) (fun t9 q9 => q9.elim fun _ h9 => ⟨_, h9.tick⟩) ⟨_, (QZ.try (z := va_up z 0 0) (g := g) (t := tr) (b := y) (f := t) hR he)⟩ (fun t9 q9 => q9.elim fun _ h9 => h9.1.wo.1) hp1) vy_X7_contested gL_law_X7_contested rfl rfl rfl rfl rfl rfl rfl ⟨rfl, rfl⟩ ⟨rfl, rfl⟩ ⟨hk, hn9⟩ rfl dL_law_1218 (fun v Y hE => ?_)
    rcases hE with ⟨m1, rfl, rfl⟩ | ⟨m1, rfl, rfl⟩
    · refine ⟨rfl, ?_⟩
      dsimp only [vfill, w3, List.set_cons_zero, List.set_cons_succ, Option.toList, List.cons_append, List.nil_append, Nat.add_zero]
      refine V_istore (i := 6) dL_law_1221 rfl rfl ?_
      dsimp only [List.set_cons_zero, List.set_cons_succ]
      refine V_aload_n (i := 2) dL_law_1223 rfl rfl ?_
      refine V_callV (C := RX7) (q := 0) (ci := 6) (As := []) (rest := []) [14] (c_X7_thrown l G B (va_up z 0 1)) vy_X7_thrown gL_law_X7_thrown rfl rfl rfl rfl rfl rfl rfl ⟨rfl, rfl⟩ ⟨rfl, rfl⟩ ⟨hk, hn9⟩ rfl dL_law_1224 (fun v Y hE => ?_)
      obtain ⟨rfl, rfl⟩ := hE
      refine ⟨rfl, ?_⟩
      dsimp only [vfill, List.set_cons_zero, List.set_cons_succ, Option.toList, List.cons_append, List.nil_append, Nat.add_zero]
      refine V_top (b := 1) rfl ?_
      refine V_iload (i := 5) dL_law_1227 rfl ?_
      refine V_icmp_eq (tgt := 1234) (by omega) (by omega) dL_law_1229 rfl (fun h_1229 => ?_) (fun h_1229 => ?_)
      · refine V_iload (i := 5) dL_law_1234 rfl ?_
        refine V_if_ne (tgt := 1251) (by omega) dL_law_1236 rfl (fun h_1236 => ?_) (fun h_1236 => ?_)
        · refine V_goto (tgt := 1635) dL_law_1251 rfl ?_
          exact kk (n, tx, r, ho, hs, zf, wo, sn, e, t, s0, s1, (va_up z 0 1), rr, g, tr, d, kp, ik, y, mt, _) _ _ _ _ ⟨⟨(up_n (by decide)).trans h1, hn, ht, hr, he, het, hR, hH.upd (by decide), hS⟩, hW.upd (by decide) (by decide)⟩ (by omega) (by omega)
        · exfalso; omega
      · exfalso; omega
    · exfalso
      omega

end LAWS1
