section LAWM
theorem nI_and31 {p : Nat} : nI p &&& nI 31 = nI (p % 32) := by
  apply Int32.toBitVec_inj.mp
  show BitVec.ofNat 32 p &&& BitVec.ofNat 32 31 = BitVec.ofNat 32 (p % 32)
  apply BitVec.eq_of_toNat_eq
  simp only [BitVec.toNat_and, BitVec.toNat_ofNat]
  have h1 : (31 : Nat) % 2 ^ 32 = 2 ^ 5 - 1 := by decide
  rw [h1, Nat.and_two_pow_sub_one_eq_mod]
  omega
theorem eB_new : eB eN := by
  refine ⟨fun _ _ => (by decide : 0 < 100), fun _ _ => (by decide : 0 < 4), fun _ _ => (by decide : 0 < 2), fun _ _ => (by decide : 0 < 8), (by decide : 2 < 3), (by decide : 4294967287 < 4294967296), fun _ _ => ?_⟩
  exact ⟨(by decide : 0 < 4), (by decide : 0 < 100), (by decide : 4294967287 < 4294967296), Or.inl ⟨rfl, rfl⟩, (by decide : 0 < 100), (by decide : 0 < 100), (by decide : 0 < 100), (by decide : 0 < 100), (by decide : 0 < 100), (by decide : 0 < 100), (by decide : 0 < 100)⟩
theorem Rel_new : Rel (fun _ => 0) eN := by
  refine ⟨fun _ _ => rfl, fun _ _ => rfl, fun _ _ => rfl, fun k hk => ?_, ⟨rfl, rfl, rfl, by show 0 = (2 + 1) % 3; decide⟩, fun h hh => ?_⟩
  · have e : lwE (eN.2.2.2.1 k) = 0 := by
      show lwE (if k < 96 then 4294967287 else 0) = 0
      rw [if_pos hk]
      exact if_pos rfl
    rw [e]
    exact ⟨rfl, by decide⟩
  · exact ⟨⟨rfl, rfl, rfl, rfl⟩, fun z => absurd z (by show ¬ (0 = 3); decide), fun _ => rfl, Or.inl ⟨rfl, rfl⟩, (by decide : 0 ≤ 90), (by decide : 0 < 100), (by decide : 0 < 100), (by decide : 0 < 100), (by decide : 0 < 100), (by decide : 0 < 100), (by decide : 0 < 100)⟩
theorem LX_new : LX (0, (fun _ => 0), (fun _ => 0), (fun _ => 0), (fun _ => eN), (fun _ => 0), (fun _ => 0), (fun _ => 0), eN, eN, eN, eN, (fun _ => 0), (fun _ => 0), (fun _ => 0), (fun _ => 0), (fun _ => 0), (fun _ => 0), (fun _ => 0), (fun _ => 0), (fun _ => 0), (fun _ => 0)) := by
  refine ⟨⟨rfl, by decide, fun _ _ => (by decide : 0 < 256), ?_, eB_new, eB_new, Rel_new, ?_, ?_⟩, fun _ _ => (by decide : 0 < 8), Or.inr ⟨(by decide : 0 < 96), (by decide : 0 < 3)⟩⟩
  · exact ⟨(by decide : 0 < 9), (by decide : 0 < 10), (by decide : 0 ≤ 96), fun h => absurd h (by show ¬ (0 = 4); decide), (by decide : 0 < 4), (by decide : 0 < 3)⟩
  · exact ⟨(by decide : 0 < 14), (by decide : 0 < 15), rfl, fun k hk => absurd hk (by show ¬ k < 0; omega)⟩
  · exact ⟨fun _ _ => ⟨rfl, (by decide : 0 < 2)⟩, fun h => absurd h (by show ¬ (0 = 1); decide), fun h => absurd h (by show ¬ (0 = 1); decide)⟩
set_option maxHeartbeats 4000000 in
set_option maxRecDepth 100000 in
theorem law_loop (l : Launch) (hst : l.stackTraces = false) (G : vG) (Γ : vF) (b Ls : Nat) (xs : Nat → Int32) (hS9 : vScr Γ b Ls xs) (hE9 : vE9 Γ.2.2.1) (hZ9 : vZ Γ.2.2.2.2.2.2.2.2.2 Γ.2.2.1 Γ.2.2.1.heap) (hN9 : vNC Γ.2.2.1) (A : Nat → Nat) (ea : Nat → Nat → Nat) (B : Nat → Nat) (ou : Nat) (hend : ∀ (k n : Nat) (L : List (Option Value)) (X : List va_W), k ≤ 601024 → n ≤ 7293034 → V l G (cL_law, 7, wsL_law, RL, room_1) Γ k n 1642 L [.int (nI 1)] X) : ∀ (fuel i k n9 : Nat) (σ : LSt) (u5 u6 : Option Value), Ls + 1 ≤ i + fuel → i ≤ Ls → k ≤ 1000 + i → n9 ≤ 100000 + i → LX σ → V l G (cL_law, 7, wsL_law, RL, room_1) Γ k n9 23 [some (.ref b), some (.ref (A 0)), some (.ref (B 0)), some (.ref ou), some (.int (nI i)), u5, u6] [] (W25 G A ea B ou σ) := by
  have hLs := hS9.2.2.2
  intro fuel
  induction fuel with
  | zero => intro i k n9 σ u5 u6 hf hi; exact absurd hf (by omega)
  | succ fuel ih =>
    intro i k n9 σ u5 u6 hf hi hk hn9 hI
    refine V_iload (i := 4) dL_law_23 rfl ?_
    refine V_aload_n (i := 0) dL_law_25 rfl rfl ?_
    refine V_slen hS9 dL_law_26 ?_
    refine V_bipush (v := 6) dL_law_27 (by decide) ?_
    by_cases h6 : Ls < 6
    · refine V_isubW dL_law_29 (by decide) ?_
      refine V_icmp_gtG (tgt := 1641) dL_law_30 rfl (fun h_30 => ?_) (fun h_30 => ?_)
      · refine V_iconst (v := 1) dL_law_1641 rfl ?_
        exact hend _ _ _ _ (by omega) (by omega)
      · exact absurd ((nI_ltB (a := Ls + (4294967296 - 6)) (b := i) (by omega) (by omega)).mpr (Or.inr (by omega))) h_30
    · refine V_isub dL_law_29 (by omega) ?_
      refine V_icmp_gt (tgt := 1641) (by omega) (by omega) dL_law_30 rfl (fun h_30 => ?_) (fun h_30 => ?_)
      · refine V_iconst (v := 1) dL_law_1641 rfl ?_
        exact hend _ _ _ _ (by omega) (by omega)
      · have hi6 : i + 6 ≤ Ls := by omega
        have h1635 : ∀ (σ : LSt) (k9 n8 : Nat) (v5 v6 : Option Value), LX σ → k9 ≤ k + 1 → n8 ≤ n9 + 6 → V l G (cL_law, 7, wsL_law, RL, room_1) Γ k9 n8 1635 [some (.ref b), some (.ref (A 0)), some (.ref (B 0)), some (.ref ou), some (.int (nI i)), v5, v6] [] (W25 G A ea B ou σ) := fun σ k9 n8 v5 v6 hI9 hk9 hn8 => by
          refine V_iinc (v := i + 6) dL_law_1635 rfl (by rw [show Int32.ofInt 6 = nI 6 from rfl, nI_add]) rfl rfl ?_
          dsimp only [List.set_cons_zero, List.set_cons_succ]
          refine V_goto (tgt := 23) dL_law_1638 rfl ?_
          exact ih (i + 6) k9 n8 σ v5 v6 (by omega) (by omega) (by omega) (by omega) hI9
        obtain ⟨p0, hp0, e0⟩ := nI_all (xs i)
        obtain ⟨p1, hp1, e1⟩ := nI_all (xs (i + 1))
        obtain ⟨p2, hp2, e2⟩ := nI_all (xs (i + 2))
        obtain ⟨p3, hp3, e3⟩ := nI_all (xs (i + 3))
        obtain ⟨p4, hp4, e4⟩ := nI_all (xs (i + 4))
        obtain ⟨p5, hp5, e5⟩ := nI_all (xs (i + 5))
        obtain ⟨n, tx, r, ho, hs, zf, wo, sn, e, t, s0, s1, z, rr, g, tr, d, kp, ik, y, mt, fo⟩ := σ
        refine V_aload_n (i := 0) dL_law_33 rfl rfl ?_
        refine V_iload (i := 4) dL_law_34 rfl ?_
        refine V_sld hS9 (by omega) e0 dL_law_36 ?_
        refine V_bipush (v := 31) dL_law_37 (by decide) ?_
        refine V_iandG (v := p0 % 32) dL_law_39 nI_and31 ?_
        have h32 : p0 % 32 < 32 := Nat.mod_lt _ (by decide)
        rcases (show p0 % 32 = 0 ∨ p0 % 32 = 1 ∨ p0 % 32 = 2 ∨ p0 % 32 = 3 ∨ p0 % 32 = 4 ∨ p0 % 32 = 5 ∨ p0 % 32 = 6 ∨ p0 % 32 = 7 ∨ p0 % 32 = 8 ∨ p0 % 32 = 9 ∨ p0 % 32 = 10 ∨ p0 % 32 = 11 ∨ p0 % 32 = 12 ∨ p0 % 32 = 13 ∨ p0 % 32 = 14 ∨ p0 % 32 = 15 ∨ p0 % 32 = 16 ∨ p0 % 32 = 17 ∨ p0 % 32 = 18 ∨ p0 % 32 = 19 ∨ p0 % 32 = 20 ∨ p0 % 32 = 21 ∨ p0 % 32 = 22 ∨ p0 % 32 = 23 ∨ p0 % 32 = 24 ∨ 25 ≤ p0 % 32 by omega) with c | c | c | c | c | c | c | c | c | c | c | c | c | c | c | c | c | c | c | c | c | c | c | c | c | c
        · refine V_top (b := 0) c ?_
          refine V_tableIn (tgt := 156) dL_law_40 (by omega) (by omega) (by omega) rfl rfl ?_
          exact L_append l hst G Γ b Ls xs hS9 hE9 hZ9 hN9 A ea B ou i k n9 hi6 (by omega) (by omega) p1 hp1 e1 n tx r ho hs zf wo sn e t s0 s1 z rr g tr d kp ik y mt fo hI _ _ h1635
        · refine V_top (b := 1) c ?_
          refine V_tableIn (tgt := 212) dL_law_40 (by omega) (by omega) (by omega) rfl rfl ?_
          exact L_clearText l hst G Γ b Ls xs hS9 hE9 hZ9 hN9 A ea B ou i k n9 hi6 (by omega) (by omega)  n tx r ho hs zf wo sn e t s0 s1 z rr g tr d kp ik y mt fo hI _ _ h1635
        · refine V_top (b := 2) c ?_
          refine V_tableIn (tgt := 225) dL_law_40 (by omega) (by omega) (by omega) rfl rfl ?_
          exact L_errorPosition l hst G Γ b Ls xs hS9 hE9 hZ9 hN9 A ea B ou i k n9 hi6 (by omega) (by omega)  n tx r ho hs zf wo sn e t s0 s1 z rr g tr d kp ik y mt fo hI _ _ h1635
        · refine V_top (b := 3) c ?_
          refine V_tableIn (tgt := 238) dL_law_40 (by omega) (by omega) (by omega) rfl rfl ?_
          exact L_load l hst G Γ b Ls xs hS9 hE9 hZ9 hN9 A ea B ou i k n9 hi6 (by omega) (by omega)  n tx r ho hs zf wo sn e t s0 s1 z rr g tr d kp ik y mt fo hI _ _ h1635
        · refine V_top (b := 4) c ?_
          refine V_tableIn (tgt := 282) dL_law_40 (by omega) (by omega) (by omega) rfl rfl ?_
          exact L_about l hst G Γ b Ls xs hS9 hE9 hZ9 hN9 A ea B ou i k n9 hi6 (by omega) (by omega) p1 hp1 e1 n tx r ho hs zf wo sn e t s0 s1 z rr g tr d kp ik y mt fo hI _ _ h1635
        · refine V_top (b := 5) c ?_
          refine V_tableIn (tgt := 338) dL_law_40 (by omega) (by omega) (by omega) rfl rfl ?_
          exact L_cell l hst G Γ b Ls xs hS9 hE9 hZ9 hN9 A ea B ou i k n9 hi6 (by omega) (by omega) p1 hp1 e1 p2 hp2 e2 n tx r ho hs zf wo sn e t s0 s1 z rr g tr d kp ik y mt fo hI _ _ h1635
        · refine V_top (b := 6) c ?_
          refine V_tableIn (tgt := 406) dL_law_40 (by omega) (by omega) (by omega) rfl rfl ?_
          exact L_channel l hst G Γ b Ls xs hS9 hE9 hZ9 hN9 A ea B ou i k n9 hi6 (by omega) (by omega) p1 hp1 e1 p2 hp2 e2 n tx r ho hs zf wo sn e t s0 s1 z rr g tr d kp ik y mt fo hI _ _ h1635
        · refine V_top (b := 7) c ?_
          refine V_tableIn (tgt := 474) dL_law_40 (by omega) (by omega) (by omega) rfl rfl ?_
          exact L_chain l hst G Γ b Ls xs hS9 hE9 hZ9 hN9 A ea B ou i k n9 hi6 (by omega) (by omega) p1 hp1 e1 p2 hp2 e2 n tx r ho hs zf wo sn e t s0 s1 z rr g tr d kp ik y mt fo hI _ _ h1635
        · refine V_top (b := 8) c ?_
          refine V_tableIn (tgt := 542) dL_law_40 (by omega) (by omega) (by omega) rfl rfl ?_
          exact L_poke l hst G Γ b Ls xs hS9 hE9 hZ9 hN9 A ea B ou i k n9 hi6 (by omega) (by omega) p1 hp1 e1 p2 hp2 e2 n tx r ho hs zf wo sn e t s0 s1 z rr g tr d kp ik y mt fo hI _ _ h1635
        · refine V_top (b := 9) c ?_
          refine V_tableIn (tgt := 610) dL_law_40 (by omega) (by omega) (by omega) rfl rfl ?_
          exact L_order l hst G Γ b Ls xs hS9 hE9 hZ9 hN9 A ea B ou i k n9 hi6 (by omega) (by omega) p1 hp1 e1 p2 hp2 e2 p3 hp3 e3 p4 hp4 e4 p5 hp5 e5 n tx r ho hs zf wo sn e t s0 s1 z rr g tr d kp ik y mt fo hI _ _ h1635
        · refine V_top (b := 10) c ?_
          refine V_tableIn (tgt := 714) dL_law_40 (by omega) (by omega) (by omega) rfl rfl ?_
          exact L_own l hst G Γ b Ls xs hS9 hE9 hZ9 hN9 A ea B ou i k n9 hi6 (by omega) (by omega) p1 hp1 e1 p2 hp2 e2 p3 hp3 e3 n tx r ho hs zf wo sn e t s0 s1 z rr g tr d kp ik y mt fo hI _ _ h1635
        · refine V_top (b := 11) c ?_
          refine V_tableIn (tgt := 794) dL_law_40 (by omega) (by omega) (by omega) rfl rfl ?_
          exact L_start l hst G Γ b Ls xs hS9 hE9 hZ9 hN9 A ea B ou i k n9 hi6 (by omega) (by omega) p1 hp1 e1 p2 hp2 e2 n tx r ho hs zf wo sn e t s0 s1 z rr g tr d kp ik y mt fo hI _ _ h1635
        · refine V_top (b := 12) c ?_
          refine V_tableIn (tgt := 862) dL_law_40 (by omega) (by omega) (by omega) rfl rfl ?_
          exact L_stop l hst G Γ b Ls xs hS9 hE9 hZ9 hN9 A ea B ou i k n9 hi6 (by omega) (by omega) p1 hp1 e1 n tx r ho hs zf wo sn e t s0 s1 z rr g tr d kp ik y mt fo hI _ _ h1635
        · refine V_top (b := 13) c ?_
          refine V_tableIn (tgt := 918) dL_law_40 (by omega) (by omega) (by omega) rfl rfl ?_
          exact L_run l hst G Γ b Ls xs hS9 hE9 hZ9 hN9 A ea B ou i k n9 hi6 (by omega) (by omega) p1 hp1 e1 n tx r ho hs zf wo sn e t s0 s1 z rr g tr d kp ik y mt fo hI _ _ h1635
        · refine V_top (b := 14) c ?_
          refine V_tableIn (tgt := 974) dL_law_40 (by omega) (by omega) (by omega) rfl rfl ?_
          exact L_undo l hst G Γ b Ls xs hS9 hE9 hZ9 hN9 A ea B ou i k n9 hi6 (by omega) (by omega)  n tx r ho hs zf wo sn e t s0 s1 z rr g tr d kp ik y mt fo hI _ _ h1635
        · refine V_top (b := 15) c ?_
          refine V_tableIn (tgt := 1018) dL_law_40 (by omega) (by omega) (by omega) rfl rfl ?_
          exact L_ends l hst G Γ b Ls xs hS9 hE9 hZ9 hN9 A ea B ou i k n9 hi6 (by omega) (by omega) p1 hp1 e1 n tx r ho hs zf wo sn e t s0 s1 z rr g tr d kp ik y mt fo hI _ _ h1635
        · refine V_top (b := 16) c ?_
          refine V_tableIn (tgt := 1074) dL_law_40 (by omega) (by omega) (by omega) rfl rfl ?_
          exact L_endOf l hst G Γ b Ls xs hS9 hE9 hZ9 hN9 A ea B ou i k n9 hi6 (by omega) (by omega) p1 hp1 e1 n tx r ho hs zf wo sn e t s0 s1 z rr g tr d kp ik y mt fo hI _ _ h1635
        · refine V_top (b := 17) c ?_
          refine V_tableIn (tgt := 1130) dL_law_40 (by omega) (by omega) (by omega) rfl rfl ?_
          exact L_later l hst G Γ b Ls xs hS9 hE9 hZ9 hN9 A ea B ou i k n9 hi6 (by omega) (by omega) p1 hp1 e1 p2 hp2 e2 n tx r ho hs zf wo sn e t s0 s1 z rr g tr d kp ik y mt fo hI _ _ h1635
        · refine V_top (b := 18) c ?_
          refine V_tableIn (tgt := 1198) dL_law_40 (by omega) (by omega) (by omega) rfl rfl ?_
          exact L_contested l hst G Γ b Ls xs hS9 hE9 hZ9 hN9 A ea B ou i k n9 hi6 (by omega) (by omega) p1 hp1 e1 n tx r ho hs zf wo sn e t s0 s1 z rr g tr d kp ik y mt fo hI _ _ h1635
        · refine V_top (b := 19) c ?_
          refine V_tableIn (tgt := 1254) dL_law_40 (by omega) (by omega) (by omega) rfl rfl ?_
          exact L_firstEdit l hst G Γ b Ls xs hS9 hE9 hZ9 hN9 A ea B ou i k n9 hi6 (by omega) (by omega)  n tx r ho hs zf wo sn e t s0 s1 z rr g tr d kp ik y mt fo hI _ _ h1635
        · refine V_top (b := 20) c ?_
          refine V_tableIn (tgt := 1267) dL_law_40 (by omega) (by omega) (by omega) rfl rfl ?_
          exact L_alone l hst G Γ b Ls xs hS9 hE9 hZ9 hN9 A ea B ou i k n9 hi6 (by omega) (by omega) p1 hp1 e1 n tx r ho hs zf wo sn e t s0 s1 z rr g tr d kp ik y mt fo hI _ _ h1635
        · refine V_top (b := 21) c ?_
          refine V_tableIn (tgt := 1323) dL_law_40 (by omega) (by omega) (by omega) rfl rfl ?_
          exact L_runScript l hst G Γ b Ls xs hS9 hE9 hZ9 hN9 A ea B ou i k n9 hi6 (by omega) (by omega) p1 hp1 e1 p2 hp2 e2 p3 hp3 e3 n tx r ho hs zf wo sn e t s0 s1 z rr g tr d kp ik y mt fo hI _ _ h1635
        · refine V_top (b := 22) c ?_
          refine V_tableIn (tgt := 1423) dL_law_40 (by omega) (by omega) (by omega) rfl rfl ?_
          exact L_simulate l hst G Γ b Ls xs hS9 hE9 hZ9 hN9 A ea B ou i k n9 hi6 (by omega) (by omega) p1 hp1 e1 p2 hp2 e2 p3 hp3 e3 n tx r ho hs zf wo sn e t s0 s1 z rr g tr d kp ik y mt fo hI _ _ h1635
        · refine V_top (b := 23) c ?_
          refine V_tableIn (tgt := 1523) dL_law_40 (by omega) (by omega) (by omega) rfl rfl ?_
          exact L_save l hst G Γ b Ls xs hS9 hE9 hZ9 hN9 A ea B ou i k n9 hi6 (by omega) (by omega) p1 hp1 e1 n tx r ho hs zf wo sn e t s0 s1 z rr g tr d kp ik y mt fo hI _ _ h1635
        · refine V_top (b := 24) c ?_
          refine V_tableIn (tgt := 1579) dL_law_40 (by omega) (by omega) (by omega) rfl rfl ?_
          exact L_restore l hst G Γ b Ls xs hS9 hE9 hZ9 hN9 A ea B ou i k n9 hi6 (by omega) (by omega) p1 hp1 e1 n tx r ho hs zf wo sn e t s0 s1 z rr g tr d kp ik y mt fo hI _ _ h1635
        · refine V_tableOut (tgt := 1635) dL_law_40 (Or.inr (by rw [nI_sm (by omega)]; omega)) rfl ?_
          exact h1635 (n, tx, r, ho, hs, zf, wo, sn, e, t, s0, s1, z, rr, g, tr, d, kp, ik, y, mt, fo) k n9 _ _ hI (by omega) (by omega)
theorem kl_L_law_8 : Cond.classLink RL 8 RX6 ∈ wsL_law := List.mem_of_getElem? (i := 0) rfl
theorem kn_L_law_6 : Cond.instantiable RX6 9 ∈ wsL_law := List.mem_of_getElem? (i := 1) rfl
theorem in_L_law_X6 : Cond.initialized RX6 ∈ wsL_law := List.mem_of_getElem? (i := 2) rfl
theorem kl_L_law_89 : Cond.classLink RL 89 RX7 ∈ wsL_law := List.mem_of_getElem? (i := 3) rfl
theorem kn_L_law_7 : Cond.instantiable RX7 17 ∈ wsL_law := List.mem_of_getElem? (i := 4) rfl
theorem in_L_law_X7 : Cond.initialized RX7 ∈ wsL_law := List.mem_of_getElem? (i := 5) rfl
theorem ka_L_law : Cond.arrayClass .long ∈ wsL_law := List.mem_of_getElem? (i := 6) rfl
theorem ml_L_law_88 : Cond.methodLink RL 88 yX6_init ∈ wsL_law := List.mem_of_getElem? (i := 8) rfl
theorem im_L_law_6 : Cond.instanceMethod yX6_init ∈ wsL_law := List.mem_of_getElem? (i := 9) rfl
theorem ml_L_law_91 : Cond.methodLink RL 91 yX7_init ∈ wsL_law := List.mem_of_getElem? (i := 98) rfl
theorem im_L_law_7 : Cond.instanceMethod yX7_init ∈ wsL_law := List.mem_of_getElem? (i := 99) rfl
set_option maxHeartbeats 4000000 in
set_option maxRecDepth 100000 in
theorem law_main (l : Launch) (hst : l.stackTraces = false) (G : vG) (Γ : vF) (b Ls : Nat) (xs : Nat → Int32) (hS9 : vScr Γ b Ls xs) (hE9 : vE9 Γ.2.2.1) (hZ9 : vZ Γ.2.2.2.2.2.2.2.2.2 Γ.2.2.1 Γ.2.2.1.heap) (hN9 : vNC Γ.2.2.1) (hend : ∀ (k n : Nat) (L : List (Option Value)) (X : List va_W), k ≤ 601024 → n ≤ 7293034 → V l G (cL_law, 7, wsL_law, RL, room_1) Γ k n 1642 L [.int (nI 1)] X) : V l G (cL_law, 7, wsL_law, RL, room_1) Γ 0 0 0 [some (.ref b), none, none, none, none, none, none] [] [] := by
  refine V_new (C := RX6) (T := TX6) (N := 9) (ci := 5) tyX6 kl_L_law_8 kn_L_law_6 in_L_law_X6 inlX6 tyX6_ok rfl dfX6 rfl rfl dL_law_0 (fun q1 => ?_)
  dsimp only [List.cons_append, List.nil_append]
  refine V_dup dL_law_3 rfl ?_
  refine V_callI [0] (c_X6_init l G q1) vy_X6_init gL_law_X6_init in_L_law_X6 ml_L_law_88 im_L_law_6 rfl rfl rfl ⟨rfl, rfl⟩ ⟨rfl, rfl⟩ ⟨rfl, rfl⟩ rfl dL_law_4 (fun v Y hE => ?_)
  obtain ⟨rfl, A, ea, hA0, rfl⟩ := hE
  subst hA0
  refine ⟨rfl, ?_⟩
  dsimp only [vfill, List.set_cons_zero, List.set_cons_succ, Option.toList, List.cons_append, List.nil_append, Nat.add_zero]
  refine V_astore_n (i := 1) dL_law_7 rfl rfl rfl ?_
  dsimp only [List.set_cons_zero, List.set_cons_succ]
  refine V_new (C := RX7) (T := TX7) (N := 17) (ci := 6) tyX7 kl_L_law_89 kn_L_law_7 in_L_law_X7 inlX7 tyX7_ok rfl dfX7 rfl rfl dL_law_8 (fun q2 => ?_)
  dsimp only [List.cons_append, List.nil_append]
  refine V_dup dL_law_11 rfl ?_
  refine V_callI [1] (c_X7_init l G q2) vy_X7_init gL_law_X7_init in_L_law_X7 ml_L_law_91 im_L_law_7 rfl rfl rfl ⟨rfl, rfl⟩ ⟨rfl, rfl⟩ ⟨rfl, rfl⟩ rfl dL_law_12 (fun v Y hE => ?_)
  obtain ⟨rfl, B, hB0, rfl⟩ := hE
  subst hB0
  refine ⟨rfl, ?_⟩
  dsimp only [vfill, List.set_cons_zero, List.set_cons_succ, Option.toList, List.cons_append, List.nil_append, Nat.add_zero]
  refine V_astore_n (i := 2) dL_law_15 rfl rfl rfl ?_
  dsimp only [List.set_cons_zero, List.set_cons_succ]
  refine V_iconst (v := 1) dL_law_16 rfl ?_
  refine V_newL (N := 1) ka_L_law rfl rfl rfl dL_law_17 (fun ou => ?_)
  dsimp only [List.cons_append, List.nil_append]
  refine V_astore_n (i := 3) dL_law_19 rfl rfl rfl ?_
  dsimp only [List.set_cons_zero, List.set_cons_succ]
  refine V_iconst (v := 0) dL_law_20 rfl ?_
  refine V_istore (i := 4) dL_law_21 rfl rfl ?_
  dsimp only [List.set_cons_zero, List.set_cons_succ]
  refine V_same (X' := W25 G A ea B ou (0, (fun _ => 0), (fun _ => 0), (fun _ => 0), (fun _ => eN), (fun _ => 0), (fun _ => 0), (fun _ => 0), eN, eN, eN, eN, (fun _ => 0), (fun _ => 0), (fun _ => 0), (fun _ => 0), (fun _ => 0), (fun _ => 0), (fun _ => 0), (fun _ => 0), (fun _ => 0), (fun _ => 0))) ?_ ?_
  · simp only [oW, mW, W25, lA, List.flatten_cons, List.flatten_nil, List.append_nil, List.append_assoc]
  exact law_loop l hst G Γ b Ls xs hS9 hE9 hZ9 hN9 A ea B ou hend (Ls + 1) 0 _ _ _ _ _ (by omega) (Nat.zero_le _) (by decide) (by decide) LX_new
end LAWM
