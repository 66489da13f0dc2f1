section HIST
-- the chain walk
def wO (b sa : Nat) (o : Nat → Nat) : va_W := [(b, .inr (0, [.ref sa, .int (nI (o 0)), .int (nI (o 1))]))]
def flC (val : Nat → Nat) : Nat → (Nat → Nat) → Nat → Nat → Nat × Nat × (Nat → Nat)
  | 0, sn, n, _ => (n, 9, sn)
  | f + 1, sn, n, p => if 90 < p then (n, 2, sn) else if sn p = 1 then (n, 3, sn) else if val p = 0 then (n + 1, 0, va_up sn p 1) else if 6 < val p then (n + 1, 1, va_up sn p 1) else flC val f (va_up sn p 1) (n + 1) (val (p + 5))
def unS (sn : Nat → Nat) (n : Nat) : Nat := vsum (fun k => if sn k = 0 then 1 else 0) n
theorem unS_out (sn : Nat → Nat) (i : Nat) : ∀ n, n ≤ i → unS (va_up sn i 1) n = unS sn n
  | 0, _ => rfl
  | n + 1, h => by
    show unS (va_up sn i 1) n + (if va_up sn i 1 n = 0 then 1 else 0) = unS sn n + (if sn n = 0 then 1 else 0)
    rw [unS_out sn i n (by omega), up_n (by omega)]
theorem unS_up (sn : Nat → Nat) (i : Nat) (h0 : sn i = 0) : ∀ n, i < n → unS (va_up sn i 1) n + 1 = unS sn n
  | 0, h => absurd h (Nat.not_lt_zero i)
  | n + 1, h => by
    show unS (va_up sn i 1) n + (if va_up sn i 1 n = 0 then 1 else 0) + 1 = unS sn n + (if sn n = 0 then 1 else 0)
    by_cases e : n = i
    · subst e
      rw [unS_out sn n n (Nat.le_refl n), up_s, if_neg (by decide), if_pos h0]
    · have := unS_up sn i h0 n (by omega)
      rw [up_n e]
      omega
theorem unS_all : ∀ (n : Nat) (sn : Nat → Nat), (∀ k, k < n → sn k = 0) → unS sn n = n
  | 0, _, _ => rfl
  | n + 1, sn, h => by
    show unS sn n + (if sn n = 0 then 1 else 0) = n + 1
    rw [unS_all n sn (fun k hk => h k (by omega)), if_pos (h n (by omega))]

abbrev rX0_follow : Room := { frames := 1, cells := 0, slots := 0, locals := 23 }
theorem vy_X0_follow : vY yX0_follow wsX0_follow cX0_follow 5 none 2 := ⟨⟨_, rfl⟩, by decide +kernel, by decide +kernel, by decide +kernel⟩
theorem fl_X0_follow_9 : Cond.fieldLink RX0 9 "OrderChains$ChainWalk" "seen" "[I" ∈ wsX0_follow := List.mem_of_getElem? (i := 1) rfl
theorem il_X0_follow_X0 : ∀ w ∈ wsX00, w ∈ wsX0_follow := fun _ h => List.mem_cons_of_mem _ (List.mem_append_right _ h)
theorem fl_X0_follow_15 : Cond.fieldLink RX0 15 "OrderChains$ChainWalk" "orders" "I" ∈ wsX0_follow := List.mem_of_getElem? (i := 2) rfl
theorem fl_X0_follow_19 : Cond.fieldLink RX0 19 "OrderChains$ChainWalk" "ending" "I" ∈ wsX0_follow := List.mem_of_getElem? (i := 3) rfl
set_option maxHeartbeats 4000000 in
set_option maxRecDepth 100000 in
/-- ChainWalk.follow -/
theorem c_X0_follow (l : Launch) (G : vG) (b sa va p : Nat) (o sn val : Nat → Nat) (hp : p < 100) (hv : ∀ k, k < 96 → val k < 100) : Kc l G yX0_follow wsX0_follow rX0_follow [.ref b, .ref va, .int (nI p)] [wO b sa o, iA G sa 96 sn, iA G va 96 val] (fun r Y => r = none ∧ Y = [wO b sa (va_up (va_up o 0 (flC val 97 (fil 0 sn) 0 p).1) 1 (flC val 97 (fil 0 sn) 0 p).2.1), iA G sa 96 (flC val 97 (fil 0 sn) 0 p).2.2, iA G va 96 val]) 0 0 := by
  refine V_enter (own := RX0) [some (.ref b), some (.ref va), some (.int (nI p)), none, none] (by decide +kernel) rfl rfl (Nat.le_of_ble_eq_true rfl) rfl (fun Γ hR hin => ?_)
  have hkc : 0 ≤ 0 := Nat.le_refl 0
  have hks : 0 ≤ 0 := Nat.le_refl 0
  have LP18 : ∀ (fuel : Nat) (c at_ n : Nat) (sm om : Nat → Nat), 98 ≤ c + fuel → at_ < 100 → (∀ k, k < 96 → sm k < 2) → c + unS sm 96 = 96 → om 0 = n → (flC val 97 (fil 0 sn) 0 p) = flC val (97 - c) sm n at_ → V l G (cX0_follow, 5, wsX0_follow, RX0, rX0_follow) Γ 0 0 18 [some (.ref b), some (.ref va), some (.int (nI p)), some (.int (nI at_)), some (.int (nI c))] [] [wO b sa om, iA G sa 96 sm, iA G va 96 val] := by
    intro fuel
    induction fuel with
    | zero => intro c at_ n sm om hf hat hsm hun hn hfl; exact absurd hf (by omega)
    | succ fuel ih =>
      intro c at_ n sm om hf hat hsm hun hn hfl
      refine V_iload (i := 4) dX0_follow_18 rfl ?_
      refine V_bipush (v := 96) dX0_follow_20 (by decide) ?_
      refine V_icmp_gt (tgt := 112) (by omega) (by omega) dX0_follow_22 rfl (fun h_22 => ?_) (fun h_22 => ?_)
      · exfalso; omega
      · refine V_iload_n (i := 3) dX0_follow_25 rfl rfl ?_
        refine V_bipush (v := 90) dX0_follow_26 (by decide) ?_
        refine V_icmp_le (tgt := 37) (by omega) (by omega) dX0_follow_28 rfl (fun h_28 => ?_) (fun h_28 => ?_)
        · refine V_aload_n (i := 0) dX0_follow_37 rfl rfl ?_
          refine V_get (C := RX0) (T := TX0) (N := 3) (ci := 0) (q := 0) (ref := "OrderChains$ChainWalk") 0 rfl il_X0_follow_X0 rfl rfl fl_X0_follow_9 rfl rfl dX0_follow_38 ?_
          refine V_iload_n (i := 3) dX0_follow_41 rfl rfl ?_
          refine V_iald (q := 1) rfl (by omega) rfl dX0_follow_42 ?_
          refine V_iconst (v := 1) dX0_follow_43 rfl ?_
          refine V_icmp_ne (tgt := 53) (by have := hsm at_ (by omega); omega) (by omega) dX0_follow_44 rfl (fun h_44 => ?_) (fun h_44 => ?_)
          · have h0 : sm at_ = 0 := by have := hsm at_ (by omega); omega
            have hup := unS_up sm at_ h0 96 (by omega)
            refine V_aload_n (i := 0) dX0_follow_53 rfl rfl ?_
            refine V_get (C := RX0) (T := TX0) (N := 3) (ci := 0) (q := 0) (ref := "OrderChains$ChainWalk") 0 rfl il_X0_follow_X0 rfl rfl fl_X0_follow_9 rfl rfl dX0_follow_54 ?_
            refine V_iload_n (i := 3) dX0_follow_57 rfl rfl ?_
            refine V_iconst (v := 1) dX0_follow_58 rfl ?_
            refine V_iast (q := 1) rfl (by omega) rfl dX0_follow_59 ?_
            dsimp only [List.set_cons_zero, List.set_cons_succ]
            refine V_aload_n (i := 0) dX0_follow_60 rfl rfl ?_
            refine V_dup dX0_follow_61 rfl ?_
            refine V_get (C := RX0) (T := TX0) (N := 3) (ci := 0) (q := 0) (ref := "OrderChains$ChainWalk") 1 rfl il_X0_follow_X0 rfl rfl fl_X0_follow_15 rfl rfl dX0_follow_62 ?_
            refine V_iconst (v := 1) dX0_follow_65 rfl ?_
            refine V_iadd dX0_follow_66 ?_
            refine V_put (C := RX0) (T := TX0) (N := 3) (ci := 0) (q := 0) (ref := "OrderChains$ChainWalk") (ty := .int) (ty0 := tyX0) 1 rfl il_X0_follow_X0 tyX0_ok nmX0 rfl rfl fl_X0_follow_15 rfl rfl rfl rfl rfl rfl dX0_follow_67 ?_
            dsimp only [List.set_cons_zero, List.set_cons_succ]
            refine V_aload_n (i := 1) dX0_follow_70 rfl rfl ?_
            refine V_iload_n (i := 3) dX0_follow_71 rfl rfl ?_
            refine V_iald (q := 2) rfl (by omega) rfl dX0_follow_72 ?_
            refine V_if_eq (tgt := 84) (by have := hv at_ (by omega); omega) dX0_follow_73 rfl (fun h_73 => ?_) (fun h_73 => ?_)
            · refine V_aload_n (i := 0) dX0_follow_84 rfl rfl ?_
              refine V_aload_n (i := 1) dX0_follow_85 rfl rfl ?_
              refine V_iload_n (i := 3) dX0_follow_86 rfl rfl ?_
              refine V_iald (q := 2) rfl (by omega) rfl dX0_follow_87 ?_
              refine V_if_ne (tgt := 95) (by have := hv at_ (by omega); omega) dX0_follow_88 rfl (fun h_88 => ?_) (fun h_88 => ?_)
              · refine V_iconst (v := 1) dX0_follow_95 rfl ?_
                refine V_put (C := RX0) (T := TX0) (N := 3) (ci := 0) (q := 0) (ref := "OrderChains$ChainWalk") (ty := .int) (ty0 := tyX0) 2 rfl il_X0_follow_X0 tyX0_ok nmX0 rfl rfl fl_X0_follow_19 rfl rfl rfl rfl rfl rfl dX0_follow_96 ?_
                dsimp only [List.set_cons_zero, List.set_cons_succ]
                refine V_vret hR dX0_follow_99 hkc hks ?_
                have hr : (flC val 97 (fil 0 sn) 0 p) = (n + 1, (if val at_ = 0 then 0 else 1), va_up sm at_ 1) := by
                  rw [hfl, show 97 - c = (97 - (c + 1)) + 1 by omega]
                  show (if _ then _ else _ : Nat × Nat × (Nat → Nat)) = _
                  rw [if_neg (show ¬ 90 < at_ by omega), if_neg (show ¬ sm at_ = 1 by omega)]
                  by_cases z : val at_ = 0
                  · rw [if_pos z, if_pos z]
                  · rw [if_neg z, if_neg z, if_pos (show 6 < val at_ by omega)]
                rw [hr, ← hn]
                first | (rw [if_pos h_88]; exact ⟨rfl, rfl⟩) | (rw [if_neg h_88]; exact ⟨rfl, rfl⟩)
              · refine V_iconst (v := 0) dX0_follow_91 rfl ?_
                refine V_goto (tgt := 96) dX0_follow_92 rfl ?_
                refine V_put (C := RX0) (T := TX0) (N := 3) (ci := 0) (q := 0) (ref := "OrderChains$ChainWalk") (ty := .int) (ty0 := tyX0) 2 rfl il_X0_follow_X0 tyX0_ok nmX0 rfl rfl fl_X0_follow_19 rfl rfl rfl rfl rfl rfl dX0_follow_96 ?_
                dsimp only [List.set_cons_zero, List.set_cons_succ]
                refine V_vret hR dX0_follow_99 hkc hks ?_
                have hr : (flC val 97 (fil 0 sn) 0 p) = (n + 1, (if val at_ = 0 then 0 else 1), va_up sm at_ 1) := by
                  rw [hfl, show 97 - c = (97 - (c + 1)) + 1 by omega]
                  show (if _ then _ else _ : Nat × Nat × (Nat → Nat)) = _
                  rw [if_neg (show ¬ 90 < at_ by omega), if_neg (show ¬ sm at_ = 1 by omega)]
                  by_cases z : val at_ = 0
                  · rw [if_pos z, if_pos z]
                  · rw [if_neg z, if_neg z, if_pos (show 6 < val at_ by omega)]
                rw [hr, ← hn]
                first | (rw [if_pos h_88]; exact ⟨rfl, rfl⟩) | (rw [if_neg h_88]; exact ⟨rfl, rfl⟩)
            · refine V_aload_n (i := 1) dX0_follow_76 rfl rfl ?_
              refine V_iload_n (i := 3) dX0_follow_77 rfl rfl ?_
              refine V_iald (q := 2) rfl (by omega) rfl dX0_follow_78 ?_
              refine V_bipush (v := 6) dX0_follow_79 (by decide) ?_
              refine V_icmp_le (tgt := 100) (by have := hv at_ (by omega); omega) (by omega) dX0_follow_81 rfl (fun h_81 => ?_) (fun h_81 => ?_)
              · refine V_aload_n (i := 1) dX0_follow_100 rfl rfl ?_
                refine V_iload_n (i := 3) dX0_follow_101 rfl rfl ?_
                refine V_iconst (v := 5) dX0_follow_102 rfl ?_
                refine V_iadd dX0_follow_103 ?_
                refine V_iald (q := 2) rfl (by omega) rfl dX0_follow_104 ?_
                refine V_istore_n (i := 3) dX0_follow_105 rfl rfl rfl ?_
                dsimp only [List.set_cons_zero, List.set_cons_succ]
                refine V_iinc dX0_follow_106 rfl (nI_1 _) rfl rfl ?_
                dsimp only [List.set_cons_zero, List.set_cons_succ]
                refine V_goto (tgt := 18) dX0_follow_109 rfl ?_
                refine ih (c + 1) (val (at_ + 5)) (n + 1) (va_up sm at_ 1) (va_up om 0 (om 0 + 1)) (by omega) (hv _ (by omega)) (up_all hsm (by decide)) (by omega) (by show om 0 + 1 = n + 1; rw [hn]) ?_
                rw [hfl, show 97 - c = (97 - (c + 1)) + 1 by omega]
                show (if _ then _ else _ : Nat × Nat × (Nat → Nat)) = _
                rw [if_neg (show ¬ 90 < at_ by omega), if_neg (show ¬ sm at_ = 1 by omega), if_neg h_73, if_neg (show ¬ 6 < val at_ by omega)]
              · refine V_aload_n (i := 0) dX0_follow_84 rfl rfl ?_
                refine V_aload_n (i := 1) dX0_follow_85 rfl rfl ?_
                refine V_iload_n (i := 3) dX0_follow_86 rfl rfl ?_
                refine V_iald (q := 2) rfl (by omega) rfl dX0_follow_87 ?_
                refine V_if_ne (tgt := 95) (by have := hv at_ (by omega); omega) dX0_follow_88 rfl (fun h_88 => ?_) (fun h_88 => ?_)
                · refine V_iconst (v := 1) dX0_follow_95 rfl ?_
                  refine V_put (C := RX0) (T := TX0) (N := 3) (ci := 0) (q := 0) (ref := "OrderChains$ChainWalk") (ty := .int) (ty0 := tyX0) 2 rfl il_X0_follow_X0 tyX0_ok nmX0 rfl rfl fl_X0_follow_19 rfl rfl rfl rfl rfl rfl dX0_follow_96 ?_
                  dsimp only [List.set_cons_zero, List.set_cons_succ]
                  refine V_vret hR dX0_follow_99 hkc hks ?_
                  have hr : (flC val 97 (fil 0 sn) 0 p) = (n + 1, (if val at_ = 0 then 0 else 1), va_up sm at_ 1) := by
                    rw [hfl, show 97 - c = (97 - (c + 1)) + 1 by omega]
                    show (if _ then _ else _ : Nat × Nat × (Nat → Nat)) = _
                    rw [if_neg (show ¬ 90 < at_ by omega), if_neg (show ¬ sm at_ = 1 by omega)]
                    by_cases z : val at_ = 0
                    · rw [if_pos z, if_pos z]
                    · rw [if_neg z, if_neg z, if_pos (show 6 < val at_ by omega)]
                  rw [hr, ← hn]
                  first | (rw [if_pos h_88]; exact ⟨rfl, rfl⟩) | (rw [if_neg h_88]; exact ⟨rfl, rfl⟩)
                · refine V_iconst (v := 0) dX0_follow_91 rfl ?_
                  refine V_goto (tgt := 96) dX0_follow_92 rfl ?_
                  refine V_put (C := RX0) (T := TX0) (N := 3) (ci := 0) (q := 0) (ref := "OrderChains$ChainWalk") (ty := .int) (ty0 := tyX0) 2 rfl il_X0_follow_X0 tyX0_ok nmX0 rfl rfl fl_X0_follow_19 rfl rfl rfl rfl rfl rfl dX0_follow_96 ?_
                  dsimp only [List.set_cons_zero, List.set_cons_succ]
                  refine V_vret hR dX0_follow_99 hkc hks ?_
                  have hr : (flC val 97 (fil 0 sn) 0 p) = (n + 1, (if val at_ = 0 then 0 else 1), va_up sm at_ 1) := by
                    rw [hfl, show 97 - c = (97 - (c + 1)) + 1 by omega]
                    show (if _ then _ else _ : Nat × Nat × (Nat → Nat)) = _
                    rw [if_neg (show ¬ 90 < at_ by omega), if_neg (show ¬ sm at_ = 1 by omega)]
                    by_cases z : val at_ = 0
                    · rw [if_pos z, if_pos z]
                    · rw [if_neg z, if_neg z, if_pos (show 6 < val at_ by omega)]
                  rw [hr, ← hn]
                  first | (rw [if_pos h_88]; exact ⟨rfl, rfl⟩) | (rw [if_neg h_88]; exact ⟨rfl, rfl⟩)
          · refine V_aload_n (i := 0) dX0_follow_47 rfl rfl ?_
            refine V_iconst (v := 3) dX0_follow_48 rfl ?_
            refine V_put (C := RX0) (T := TX0) (N := 3) (ci := 0) (q := 0) (ref := "OrderChains$ChainWalk") (ty := .int) (ty0 := tyX0) 2 rfl il_X0_follow_X0 tyX0_ok nmX0 rfl rfl fl_X0_follow_19 rfl rfl rfl rfl rfl rfl dX0_follow_49 ?_
            dsimp only [List.set_cons_zero, List.set_cons_succ]
            refine V_vret hR dX0_follow_52 hkc hks ?_
            have hr : (flC val 97 (fil 0 sn) 0 p) = (n, 3, sm) := by
              rw [hfl, show 97 - c = (97 - (c + 1)) + 1 by omega]
              show (if _ then _ else _ : Nat × Nat × (Nat → Nat)) = _
              rw [if_neg (show ¬ 90 < at_ by omega), if_pos h_44]
            rw [hr, ← hn]
            exact ⟨rfl, rfl⟩
        · refine V_aload_n (i := 0) dX0_follow_31 rfl rfl ?_
          refine V_iconst (v := 2) dX0_follow_32 rfl ?_
          refine V_put (C := RX0) (T := TX0) (N := 3) (ci := 0) (q := 0) (ref := "OrderChains$ChainWalk") (ty := .int) (ty0 := tyX0) 2 rfl il_X0_follow_X0 tyX0_ok nmX0 rfl rfl fl_X0_follow_19 rfl rfl rfl rfl rfl rfl dX0_follow_33 ?_
          dsimp only [List.set_cons_zero, List.set_cons_succ]
          refine V_vret hR dX0_follow_36 hkc hks ?_
          have hr : (flC val 97 (fil 0 sn) 0 p) = (n, 2, sm) := by
            rw [hfl, show 97 - c = (97 - (c + 1)) + 1 by omega]
            exact if_pos (show 90 < at_ by omega)
          rw [hr, ← hn]
          exact ⟨rfl, rfl⟩
  refine V_aload_n (i := 0) dX0_follow_0 rfl rfl ?_
  refine V_get (C := RX0) (T := TX0) (N := 3) (ci := 0) (q := 0) (ref := "OrderChains$ChainWalk") 0 rfl il_X0_follow_X0 rfl rfl fl_X0_follow_9 rfl rfl dX0_follow_1 ?_
  refine V_iconst (v := 0) dX0_follow_4 rfl ?_
  refine V_callS (As := _) (rest := []) [1] (c_J7_fill_53178 l G sa 96 0 sn rfl) vy_J7_fill_53178 gX0_follow_J7_fill_53178 rfl rfl rfl rfl ⟨rfl, rfl⟩ ⟨rfl, rfl⟩ ⟨Nat.zero_le _, Nat.zero_le _⟩ rfl dX0_follow_5 (fun v Y hE => ?_)
  obtain ⟨rfl, rfl⟩ := hE
  refine ⟨rfl, ?_⟩
  dsimp only [vfill, List.set_cons_zero, List.set_cons_succ, Option.toList, List.cons_append, List.nil_append, Nat.add_zero]
  refine V_aload_n (i := 0) dX0_follow_8 rfl rfl ?_
  refine V_iconst (v := 0) dX0_follow_9 rfl ?_
  refine V_put (C := RX0) (T := TX0) (N := 3) (ci := 0) (q := 0) (ref := "OrderChains$ChainWalk") (ty := .int) (ty0 := tyX0) 1 rfl il_X0_follow_X0 tyX0_ok nmX0 rfl rfl fl_X0_follow_15 rfl rfl rfl rfl rfl rfl dX0_follow_10 ?_
  dsimp only [List.set_cons_zero, List.set_cons_succ]
  refine V_iload_n (i := 2) dX0_follow_13 rfl rfl ?_
  refine V_istore_n (i := 3) dX0_follow_14 rfl rfl rfl ?_
  dsimp only [List.set_cons_zero, List.set_cons_succ]
  refine V_iconst (v := 0) dX0_follow_15 rfl ?_
  refine V_istore (i := 4) dX0_follow_16 rfl rfl ?_
  dsimp only [List.set_cons_zero, List.set_cons_succ]
  exact LP18 98 0 p 0 (fil 0 sn) (va_up o 0 0) (by omega) hp (fun k hk => by show fil 0 sn k < 2; unfold fil; rw [if_pos hk]; decide) (by show 0 + unS (fil 0 sn) 96 = 96; rw [unS_all 96 (fil 0 sn) (fun k hk => by unfold fil; rw [if_pos hk])]) rfl rfl

-- the history
def hO (b sa : Nat) (o : Nat → Nat) : va_W := [(b, .inr (3, [.ref sa, .int (nI (o 0)), .int (nI (o 1))]))]
def hA (G : vG) (sa : Nat) (ea : Nat → Nat → Nat) : va_W := [(sa, .inl (G.2 3, 14, .inr (.inr (.inr (.inr (rA (fun k => ea k 0)))))))]
def hL (G : vG) (ea : Nat → Nat → Nat) (hs : Nat → vE) : List va_W := (List.range 14).map (fun k => eK G (ea k) (hs k))
def hK (G : vG) (ea : Nat → Nat → Nat) (hs : Nat → vE) : va_W := (hL G ea hs).flatten
theorem hL_len (G : vG) (ea : Nat → Nat → Nat) (hs : Nat → vE) : (hL G ea hs).length = 14 := by simp [hL]
theorem hL_at {G : vG} {ea : Nat → Nat → Nat} {hs : Nat → vE} {i : Nat} (h : i < 14) : (hL G ea hs)[i]? = some (eK G (ea i) (hs i)) := by
  unfold hL
  rw [List.getElem?_map, List.getElem?_range h]
  rfl
theorem hL_set {G : vG} {ea : Nat → Nat → Nat} {hs : Nat → vE} {i : Nat} (e : vE) : (hL G ea hs).set i (eK G (ea i) e) = hL G ea (va_up hs i e) := by
  refine List.ext_getElem? (fun j => ?_)
  rw [List.getElem?_set]
  by_cases hij : i = j
  · subst hij
    rw [if_pos rfl]
    by_cases hl : i < (hL G ea hs).length
    · rw [if_pos hl, hL_at (by rw [hL_len] at hl; exact hl), up_s]
    · rw [if_neg hl, List.getElem?_eq_none (by rw [hL_len] at hl ⊢; omega)]
  · rw [if_neg hij]
    by_cases hl : j < 14
    · rw [hL_at hl, hL_at hl, up_n (Ne.symm hij)]
    · rw [List.getElem?_eq_none (by rw [hL_len]; omega), List.getElem?_eq_none (by rw [hL_len]; omega)]
/-- the others, without the i-th -/
def hRs (G : vG) (ea : Nat → Nat → Nat) (hs : Nat → vE) (i : Nat) : va_W := ((hL G ea hs).set i []).flatten
theorem hK_perm {G : vG} {ea : Nat → Nat → Nat} {hs : Nat → vE} {i : Nat} (h : i < 14) : (hK G ea hs).Perm (eK G (ea i) (hs i) ++ hRs G ea hs i) := by
  have := vpick_perm (hL G ea hs) [i]
  have e : vpick (hL G ea hs) [i] = eK G (ea i) (hs i) := by
    show (hL G ea hs).getD i [] ++ [] = _
    rw [List.append_nil, List.getD_eq_getElem?_getD, hL_at h]
    rfl
  rw [e] at this
  exact this
theorem hRs_up {G : vG} {ea : Nat → Nat → Nat} {hs : Nat → vE} {i : Nat} (e : vE) : hRs G ea (va_up hs i e) i = hRs G ea hs i := by
  unfold hRs
  rw [← hL_set (hs := hs) e, List.set_set]
theorem hK_fold {G : vG} {ea : Nat → Nat → Nat} {hs : Nat → vE} {i : Nat} (h : i < 14) (e : vE) : (eK G (ea i) e ++ hRs G ea hs i).Perm (hK G ea (va_up hs i e)) := by
  have := (hK_perm (G := G) (ea := ea) (hs := va_up hs i e) h).symm
  rw [up_s, hRs_up] at this
  exact this
theorem flK2 {G : vG} {a a2 : Nat → Nat} {e f : vE} : [eK G a e, eK G a2 f].flatten = (eX G a e ++ eX G a2 f).flatten := by
  rw [List.flatten_append]
  show eK G a e ++ (eK G a2 f ++ []) = _
  rw [List.append_nil]
  rfl
theorem c_X2_copyFromK (l : Launch) (G : vG) (a a2 : Nat → Nat) (e f : vE) : Kc l G yX2_copyFrom wsX2_copyFrom rX2_copyFrom [.ref (a 0), .ref (a2 0)] [eK G a e, eK G a2 f] (fun v Y => v = none ∧ Y = [eK G a (cpC e f), eK G a2 f]) 0 0 := by
  obtain ⟨val, own, mark, lw, bits, s, ch⟩ := e
  obtain ⟨val2, own2, mark2, lw2, bits2, s2, ch2⟩ := f
  refine (c_X2_copyFrom l G a a2 val own mark lw bits s val2 own2 mark2 lw2 bits2 s2 ch ch2).conv flK2 (fun v Y hE => ?_)
  obtain ⟨h1, rfl⟩ := hE
  exact ⟨_, flK2, h1, rfl⟩
theorem eB_cp {e f : vE} (hf : eB f) : eB (cpC e f) := by
  obtain ⟨val, own, mark, lw, bits, s, ch⟩ := e
  obtain ⟨val2, own2, mark2, lw2, bits2, s2, ch2⟩ := f
  obtain ⟨hv, ho, hm, hb, hs0, hs4, hq⟩ := hf
  dsimp only at hv ho hm hb hs0 hs4 hq
  refine ⟨fun k hk => ?_, fun k hk => ?_, fun k hk => ?_, fun k hk => ?_, hs0, show 4294967287 < 4294967296 by decide, hq⟩
  · show cp val2 val k < 100
    unfold cp
    rw [if_pos hk]
    exact hv k hk
  · show cp own2 own k < 4
    unfold cp
    rw [if_pos hk]
    exact ho k hk
  · show cp mark2 mark k < 2
    unfold cp
    rw [if_pos hk]
    exact hm k hk
  · show fil 0 bits k < 8
    unfold fil
    rw [if_pos hk]
    decide
def rmO (o : Nat → Nat) : Nat → Nat := if o 1 < 14 then va_up o 1 (o 1 + 1) else va_up o 0 ((o 0 + 1) % 14)

abbrev rX3_remember : Room := { frames := 3, cells := 0, slots := 0, locals := 65 }
theorem vy_X3_remember : vY yX3_remember wsX3_remember cX3_remember 2 none 1 := ⟨⟨_, rfl⟩, by decide +kernel, by decide +kernel, by decide +kernel⟩
theorem fl_X3_remember_11 : Cond.fieldLink RX3 11 "OrderChains$History" "states" "[LOrderChains$Engine;" ∈ wsX3_remember := List.mem_of_getElem? (i := 1) rfl
theorem il_X3_remember_X3 : ∀ w ∈ wsX30, w ∈ wsX3_remember := fun _ h => List.mem_cons_of_mem _ (List.mem_append_left _ (List.mem_append_left _ (List.mem_append_right _ h)))
theorem fl_X3_remember_17 : Cond.fieldLink RX3 17 "OrderChains$History" "oldest" "I" ∈ wsX3_remember := List.mem_of_getElem? (i := 2) rfl
theorem fl_X3_remember_21 : Cond.fieldLink RX3 21 "OrderChains$History" "size" "I" ∈ wsX3_remember := List.mem_of_getElem? (i := 3) rfl
set_option maxHeartbeats 4000000 in
set_option maxRecDepth 100000 in
/-- History.remember -/
theorem c_X3_remember (l : Launch) (G : vG) (b sa : Nat) (ea : Nat → Nat → Nat) (a o : Nat → Nat) (hs : Nat → vE) (f : vE) (h0 : o 0 < 14) (h1 : o 1 < 15) : Kc l G yX3_remember wsX3_remember rX3_remember [.ref b, .ref (a 0)] [hO b sa o, hA G sa ea, hK G ea hs, eK G a f] (fun r Y => r = none ∧ Y = [hO b sa (rmO o), hA G sa ea, hK G ea (va_up hs ((o 0 + o 1) % 14) (cpC (hs ((o 0 + o 1) % 14)) f)), eK G a f]) 0 0 := by
  refine V_enter (own := RX3) [some (.ref b), some (.ref (a 0))] (by decide +kernel) rfl rfl (Nat.le_of_ble_eq_true rfl) rfl (fun Γ hR hin => ?_)
  have hkc : 0 ≤ 0 := Nat.le_refl 0
  have hks : 0 ≤ 0 := Nat.le_refl 0
  have hix : (o 0 + o 1) % 14 < 14 := Nat.mod_lt _ (by decide)
  refine V_aload_n (i := 0) dX3_remember_0 rfl rfl ?_
  refine V_get (C := RX3) (T := TX3) (N := 3) (ci := 3) (q := 0) (ref := "OrderChains$History") 0 rfl il_X3_remember_X3 rfl rfl fl_X3_remember_11 rfl rfl dX3_remember_1 ?_
  refine V_aload_n (i := 0) dX3_remember_4 rfl rfl ?_
  refine V_get (C := RX3) (T := TX3) (N := 3) (ci := 3) (q := 0) (ref := "OrderChains$History") 1 rfl il_X3_remember_X3 rfl rfl fl_X3_remember_17 rfl rfl dX3_remember_5 ?_
  refine V_aload_n (i := 0) dX3_remember_8 rfl rfl ?_
  refine V_get (C := RX3) (T := TX3) (N := 3) (ci := 3) (q := 0) (ref := "OrderChains$History") 2 rfl il_X3_remember_X3 rfl rfl fl_X3_remember_21 rfl rfl dX3_remember_9 ?_
  refine V_iadd dX3_remember_12 ?_
  refine V_bipush (v := 14) dX3_remember_13 (by decide) ?_
  refine V_irem dX3_remember_15 (by omega) (by omega) (by omega) ?_
  refine V_wld (X' := [hO b sa o, hA G sa ea, eK G (ea ((o 0 + o 1) % 14)) (hs ((o 0 + o 1) % 14)), eK G a f, hRs G ea hs ((o 0 + o 1) % 14)]) (by
    have := hK_perm (G := G) (ea := ea) (hs := hs) hix
    show (hO b sa o ++ (hA G sa ea ++ (hK G ea hs ++ (eK G a f ++ [])))).Perm (hO b sa o ++ (hA G sa ea ++ (eK G (ea ((o 0 + o 1) % 14)) (hs ((o 0 + o 1) % 14)) ++ (eK G a f ++ (hRs G ea hs ((o 0 + o 1) % 14) ++ [])))))
    rw [List.append_nil, List.append_nil]
    exact ((this.append_right _).trans (by rw [List.append_assoc]; exact List.Perm.append_left _ List.perm_append_comm) |>.append_left _).append_left _) ?_
  refine V_aaldE (q := 1) rfl (by omega) rfl dX3_remember_16 ?_
  refine V_aload_n (i := 1) dX3_remember_17 rfl rfl ?_
  refine V_callV (C := RX2) (q := 0) (ci := 2) (As := _) (rest := []) [2, 3] (c_X2_copyFromK l G (ea ((o 0 + o 1) % 14)) a (hs ((o 0 + o 1) % 14)) f) vy_X2_copyFrom gX3_remember_X2_copyFrom rfl rfl rfl rfl rfl rfl rfl ⟨rfl, rfl⟩ ⟨rfl, rfl⟩ ⟨Nat.zero_le _, Nat.zero_le _⟩ rfl dX3_remember_18 (fun v Y hE => ?_)
  obtain ⟨rfl, rfl⟩ := hE
  refine ⟨rfl, ?_⟩
  dsimp only [vfill, List.set_cons_zero, List.set_cons_succ, Option.toList, List.cons_append, List.nil_append, Nat.add_zero]
  refine V_wld (X' := [hO b sa o, hA G sa ea, hK G ea (va_up hs ((o 0 + o 1) % 14) (cpC (hs ((o 0 + o 1) % 14)) f)), eK G a f]) (by
    have := hK_fold (G := G) (ea := ea) (hs := hs) hix ((cpC (hs ((o 0 + o 1) % 14)) f))
    show (hO b sa o ++ (hA G sa ea ++ (eK G (ea ((o 0 + o 1) % 14)) ((cpC (hs ((o 0 + o 1) % 14)) f)) ++ (eK G a (f) ++ (hRs G ea hs ((o 0 + o 1) % 14) ++ []))))).Perm (hO b sa o ++ (hA G sa ea ++ (hK G ea (va_up hs ((o 0 + o 1) % 14) (cpC (hs ((o 0 + o 1) % 14)) f)) ++ (eK G a f ++ []))))
    rw [List.append_nil, List.append_nil]
    exact ((((List.Perm.append_left _ List.perm_append_comm).trans (by rw [← List.append_assoc]; exact this.append_right _)).append_left _).append_left _)) ?_
  refine V_aload_n (i := 0) dX3_remember_21 rfl rfl ?_
  refine V_get (C := RX3) (T := TX3) (N := 3) (ci := 3) (q := 0) (ref := "OrderChains$History") 2 rfl il_X3_remember_X3 rfl rfl fl_X3_remember_21 rfl rfl dX3_remember_22 ?_
  refine V_bipush (v := 14) dX3_remember_25 (by decide) ?_
  refine V_icmp_ge (tgt := 43) (by omega) (by omega) dX3_remember_27 rfl (fun h_27 => ?_) (fun h_27 => ?_)
  · refine V_aload_n (i := 0) dX3_remember_43 rfl rfl ?_
    refine V_aload_n (i := 0) dX3_remember_44 rfl rfl ?_
    refine V_get (C := RX3) (T := TX3) (N := 3) (ci := 3) (q := 0) (ref := "OrderChains$History") 1 rfl il_X3_remember_X3 rfl rfl fl_X3_remember_17 rfl rfl dX3_remember_45 ?_
    refine V_iconst (v := 1) dX3_remember_48 rfl ?_
    refine V_iadd dX3_remember_49 ?_
    refine V_bipush (v := 14) dX3_remember_50 (by decide) ?_
    refine V_irem dX3_remember_52 (by omega) (by omega) (by omega) ?_
    refine V_put (C := RX3) (T := TX3) (N := 3) (ci := 3) (q := 0) (ref := "OrderChains$History") (ty := .int) (ty0 := tyX3) 1 rfl il_X3_remember_X3 tyX3_ok nmX3 rfl rfl fl_X3_remember_17 rfl rfl rfl rfl rfl rfl dX3_remember_53 ?_
    dsimp only [List.set_cons_zero, List.set_cons_succ]
    refine V_vret hR dX3_remember_56 hkc hks ?_
    refine ⟨rfl, ?_⟩
    unfold rmO
    first | (rw [if_neg (show ¬ o 1 < 14 by omega)]; rfl) | (rw [if_pos (show o 1 < 14 by omega)]; rfl)
  · refine V_aload_n (i := 0) dX3_remember_30 rfl rfl ?_
    refine V_dup dX3_remember_31 rfl ?_
    refine V_get (C := RX3) (T := TX3) (N := 3) (ci := 3) (q := 0) (ref := "OrderChains$History") 2 rfl il_X3_remember_X3 rfl rfl fl_X3_remember_21 rfl rfl dX3_remember_32 ?_
    refine V_iconst (v := 1) dX3_remember_35 rfl ?_
    refine V_iadd dX3_remember_36 ?_
    refine V_put (C := RX3) (T := TX3) (N := 3) (ci := 3) (q := 0) (ref := "OrderChains$History") (ty := .int) (ty0 := tyX3) 2 rfl il_X3_remember_X3 tyX3_ok nmX3 rfl rfl fl_X3_remember_21 rfl rfl rfl rfl rfl rfl dX3_remember_37 ?_
    dsimp only [List.set_cons_zero, List.set_cons_succ]
    refine V_goto (tgt := 56) dX3_remember_40 rfl ?_
    refine V_vret hR dX3_remember_56 hkc hks ?_
    refine ⟨rfl, ?_⟩
    unfold rmO
    first | (rw [if_neg (show ¬ o 1 < 14 by omega)]; rfl) | (rw [if_pos (show o 1 < 14 by omega)]; rfl)

abbrev rX3_takeBack : Room := { frames := 3, cells := 0, slots := 0, locals := 65 }
theorem vy_X3_takeBack : vY yX3_takeBack wsX3_takeBack cX3_takeBack 2 none 1 := ⟨⟨_, rfl⟩, by decide +kernel, by decide +kernel, by decide +kernel⟩
theorem fl_X3_takeBack_21 : Cond.fieldLink RX3 21 "OrderChains$History" "size" "I" ∈ wsX3_takeBack := List.mem_of_getElem? (i := 1) rfl
theorem il_X3_takeBack_X3 : ∀ w ∈ wsX30, w ∈ wsX3_takeBack := fun _ h => List.mem_cons_of_mem _ (List.mem_append_left _ (List.mem_append_left _ (List.mem_append_right _ h)))
theorem fl_X3_takeBack_11 : Cond.fieldLink RX3 11 "OrderChains$History" "states" "[LOrderChains$Engine;" ∈ wsX3_takeBack := List.mem_of_getElem? (i := 2) rfl
theorem fl_X3_takeBack_17 : Cond.fieldLink RX3 17 "OrderChains$History" "oldest" "I" ∈ wsX3_takeBack := List.mem_of_getElem? (i := 3) rfl
set_option maxHeartbeats 4000000 in
set_option maxRecDepth 100000 in
/-- History.takeBack -/
theorem c_X3_takeBack (l : Launch) (G : vG) (b sa : Nat) (ea : Nat → Nat → Nat) (a o : Nat → Nat) (hs : Nat → vE) (f : vE) (h0 : o 0 < 14) (h1 : o 1 < 15) (hp : 0 < o 1) : Kc l G yX3_takeBack wsX3_takeBack rX3_takeBack [.ref b, .ref (a 0)] [hO b sa o, hA G sa ea, hK G ea hs, eK G a f] (fun r Y => r = none ∧ Y = [hO b sa (va_up o 1 (o 1 - 1)), hA G sa ea, hK G ea hs, eK G a (cpC f (hs ((o 0 + (o 1 - 1)) % 14)))]) 0 0 := by
  refine V_enter (own := RX3) [some (.ref b), some (.ref (a 0))] (by decide +kernel) rfl rfl (Nat.le_of_ble_eq_true rfl) rfl (fun Γ hR hin => ?_)
  have hkc : 0 ≤ 0 := Nat.le_refl 0
  have hks : 0 ≤ 0 := Nat.le_refl 0
  have hix : (o 0 + (o 1 - 1)) % 14 < 14 := Nat.mod_lt _ (by decide)
  refine V_aload_n (i := 0) dX3_takeBack_0 rfl rfl ?_
  refine V_get (C := RX3) (T := TX3) (N := 3) (ci := 3) (q := 0) (ref := "OrderChains$History") 2 rfl il_X3_takeBack_X3 rfl rfl fl_X3_takeBack_21 rfl rfl dX3_takeBack_1 ?_
  refine V_if_le (tgt := 38) (by omega) dX3_takeBack_4 rfl (fun h_4 => ?_) (fun h_4 => ?_)
  · exfalso; omega
  · refine V_aload_n (i := 0) dX3_takeBack_7 rfl rfl ?_
    refine V_dup dX3_takeBack_8 rfl ?_
    refine V_get (C := RX3) (T := TX3) (N := 3) (ci := 3) (q := 0) (ref := "OrderChains$History") 2 rfl il_X3_takeBack_X3 rfl rfl fl_X3_takeBack_21 rfl rfl dX3_takeBack_9 ?_
    refine V_iconst (v := 1) dX3_takeBack_12 rfl ?_
    refine V_isub dX3_takeBack_13 (by omega) ?_
    refine V_put (C := RX3) (T := TX3) (N := 3) (ci := 3) (q := 0) (ref := "OrderChains$History") (ty := .int) (ty0 := tyX3) 2 rfl il_X3_takeBack_X3 tyX3_ok nmX3 rfl rfl fl_X3_takeBack_21 rfl rfl rfl rfl rfl rfl dX3_takeBack_14 ?_
    dsimp only [List.set_cons_zero, List.set_cons_succ]
    refine V_aload_n (i := 1) dX3_takeBack_17 rfl rfl ?_
    refine V_aload_n (i := 0) dX3_takeBack_18 rfl rfl ?_
    refine V_get (C := RX3) (T := TX3) (N := 3) (ci := 3) (q := 0) (ref := "OrderChains$History") 0 rfl il_X3_takeBack_X3 rfl rfl fl_X3_takeBack_11 rfl rfl dX3_takeBack_19 ?_
    refine V_aload_n (i := 0) dX3_takeBack_22 rfl rfl ?_
    refine V_get (C := RX3) (T := TX3) (N := 3) (ci := 3) (q := 0) (ref := "OrderChains$History") 1 rfl il_X3_takeBack_X3 rfl rfl fl_X3_takeBack_17 rfl rfl dX3_takeBack_23 ?_
    refine V_aload_n (i := 0) dX3_takeBack_26 rfl rfl ?_
    refine V_get (C := RX3) (T := TX3) (N := 3) (ci := 3) (q := 0) (ref := "OrderChains$History") 2 rfl il_X3_takeBack_X3 rfl rfl fl_X3_takeBack_21 rfl rfl dX3_takeBack_27 ?_
    refine V_iadd dX3_takeBack_30 ?_
    refine V_bipush (v := 14) dX3_takeBack_31 (by decide) ?_
    refine V_irem dX3_takeBack_33 (by omega) (by omega) (by omega) ?_
    refine V_wld (X' := [hO b sa (va_up o 1 (o 1 - 1)), hA G sa ea, eK G (ea ((o 0 + (o 1 - 1)) % 14)) (hs ((o 0 + (o 1 - 1)) % 14)), eK G a f, hRs G ea hs ((o 0 + (o 1 - 1)) % 14)]) (by
      have := hK_perm (G := G) (ea := ea) (hs := hs) hix
      show (hO b sa (va_up o 1 (o 1 - 1)) ++ (hA G sa ea ++ (hK G ea hs ++ (eK G a f ++ [])))).Perm (hO b sa (va_up o 1 (o 1 - 1)) ++ (hA G sa ea ++ (eK G (ea ((o 0 + (o 1 - 1)) % 14)) (hs ((o 0 + (o 1 - 1)) % 14)) ++ (eK G a f ++ (hRs G ea hs ((o 0 + (o 1 - 1)) % 14) ++ [])))))
      rw [List.append_nil, List.append_nil]
      exact ((this.append_right _).trans (by rw [List.append_assoc]; exact List.Perm.append_left _ List.perm_append_comm) |>.append_left _).append_left _) ?_
    refine V_aaldE (q := 1) rfl (by omega) rfl dX3_takeBack_34 ?_
    refine V_callV (C := RX2) (q := 0) (ci := 2) (As := _) (rest := []) [3, 2] (c_X2_copyFromK l G a (ea ((o 0 + (o 1 - 1)) % 14)) f (hs ((o 0 + (o 1 - 1)) % 14))) vy_X2_copyFrom gX3_takeBack_X2_copyFrom rfl rfl rfl rfl rfl rfl rfl ⟨rfl, rfl⟩ ⟨rfl, rfl⟩ ⟨Nat.zero_le _, Nat.zero_le _⟩ rfl dX3_takeBack_35 (fun v Y hE => ?_)
    obtain ⟨rfl, rfl⟩ := hE
    refine ⟨rfl, ?_⟩
    dsimp only [vfill, List.set_cons_zero, List.set_cons_succ, Option.toList, List.cons_append, List.nil_append, Nat.add_zero]
    refine V_wld (X' := [hO b sa (va_up o 1 (o 1 - 1)), hA G sa ea, hK G ea hs, eK G a (cpC f (hs ((o 0 + (o 1 - 1)) % 14)))]) (by
      have := (hK_perm (G := G) (ea := ea) (hs := hs) hix).symm
      show (hO b sa (va_up o 1 (o 1 - 1)) ++ (hA G sa ea ++ (eK G (ea ((o 0 + (o 1 - 1)) % 14)) (hs ((o 0 + (o 1 - 1)) % 14)) ++ (eK G a (cpC f (hs ((o 0 + (o 1 - 1)) % 14))) ++ (hRs G ea hs ((o 0 + (o 1 - 1)) % 14) ++ []))))).Perm (hO b sa (va_up o 1 (o 1 - 1)) ++ (hA G sa ea ++ (hK G ea hs ++ (eK G a (cpC f (hs ((o 0 + (o 1 - 1)) % 14))) ++ []))))
      rw [List.append_nil, List.append_nil]
      exact ((((List.Perm.append_left _ List.perm_append_comm).trans (by rw [← List.append_assoc]; exact this.append_right _)).append_left _).append_left _)) ?_
    refine V_vret hR dX3_takeBack_38 hkc hks ?_
    exact ⟨rfl, rfl⟩

abbrev rX3_forget : Room := { frames := 0, cells := 0, slots := 0, locals := 0 }
theorem vy_X3_forget : vY yX3_forget wsX3_forget cX3_forget 1 none 0 := ⟨⟨_, rfl⟩, by decide +kernel, by decide +kernel, by decide +kernel⟩
theorem fl_X3_forget_21 : Cond.fieldLink RX3 21 "OrderChains$History" "size" "I" ∈ wsX3_forget := List.mem_of_getElem? (i := 1) rfl
theorem il_X3_forget_X3 : ∀ w ∈ wsX30, w ∈ wsX3_forget := fun _ h => List.mem_cons_of_mem _ (List.mem_append_right _ h)
set_option maxHeartbeats 4000000 in
set_option maxRecDepth 100000 in
/-- History.forget -/
theorem c_X3_forget (l : Launch) (G : vG) (b sa : Nat) (o : Nat → Nat) : Kc l G yX3_forget wsX3_forget rX3_forget [.ref b] [hO b sa o] (fun r Y => r = none ∧ Y = [hO b sa (va_up o 1 0)]) 0 0 := by
  refine V_enter (own := RX3) [some (.ref b)] (by decide +kernel) rfl rfl (Nat.le_of_ble_eq_true rfl) rfl (fun Γ hR hin => ?_)
  have hkc : 0 ≤ 0 := Nat.le_refl 0
  have hks : 0 ≤ 0 := Nat.le_refl 0
  refine V_aload_n (i := 0) dX3_forget_0 rfl rfl ?_
  refine V_iconst (v := 0) dX3_forget_1 rfl ?_
  refine V_put (C := RX3) (T := TX3) (N := 3) (ci := 3) (q := 0) (ref := "OrderChains$History") (ty := .int) (ty0 := tyX3) 2 rfl il_X3_forget_X3 tyX3_ok nmX3 rfl rfl fl_X3_forget_21 rfl rfl rfl rfl rfl rfl dX3_forget_2 ?_
  dsimp only [List.set_cons_zero, List.set_cons_succ]
  refine V_vret hR dX3_forget_5 hkc hks ?_
  exact ⟨rfl, rfl⟩

end HIST
