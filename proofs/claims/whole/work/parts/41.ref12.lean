section REF12
theorem unF (mt : Nat → Nat) : unS (fiK 96 mt) 96 = 96 := unS_all 96 _ (fun k hk => by unfold fiK; rw [if_pos hk])

abbrev rX7_chain : Room := { frames := 2, cells := 0, slots := 0, locals := 45 }
theorem vy_X7_chain : vY yX7_chain wsX7_chain cX7_chain 6 (some .int) 2 := ⟨⟨_, rfl⟩, by decide +kernel, by decide +kernel, by decide +kernel⟩
theorem fl_X7_chain_35 : Cond.fieldLink RX7 35 "OrderChainsModel" "met" "[Z" ∈ wsX7_chain := List.mem_of_getElem? (i := 1) rfl
theorem il_X7_chain_X7 : ∀ w ∈ wsX70, w ∈ wsX7_chain := fun _ h => List.mem_cons_of_mem _ (List.mem_append_right _ h)
theorem fl_X7_chain_16 : Cond.fieldLink RX7 16 "OrderChainsModel" "now" "[I" ∈ wsX7_chain := List.mem_of_getElem? (i := 2) rfl
set_option maxHeartbeats 4000000 in
set_option maxRecDepth 100000 in
/-- chain -/
theorem c_X7_chain (l : Launch) (G : vG) (B z g mt : Nat → Nat) (p w : Nat) (hp : p < 4294967296) (hw : w < 4294967296) (hv : ∀ k, k < 96 → g k < 100) : Kc l G yX7_chain wsX7_chain rX7_chain [.ref (B 0), .int (nI p), .int (nI w)] [mO B z, iA G (B 3) 427 g, zA G (B 9) 96 mt] (fun v Y => (¬ p < 96 ∧ v = some (.int (nI 0)) ∧ Y = [mO B (va_up z 0 1), iA G (B 3) 427 g, zA G (B 9) 96 mt]) ∨ (p < 96 ∧ ¬ w < 2 ∧ v = some (.int (nI 0)) ∧ Y = [mO B (va_up z 0 2), iA G (B 3) 427 g, zA G (B 9) 96 mt]) ∨ (p < 96 ∧ w < 2 ∧ v = some (.int (nI (if w = 0 then (flC g 97 (fiK 96 mt) 0 p).1 else (flC g 97 (fiK 96 mt) 0 p).2.1))) ∧ Y = [mO B (va_up z 0 0), iA G (B 3) 427 g, zA G (B 9) 96 (flC g 97 (fiK 96 mt) 0 p).2.2])) 0 0 := by
  refine V_enter (own := RX7) [some (.ref (B 0)), some (.int (nI p)), some (.int (nI w)), none, none, none] (by decide +kernel) rfl rfl (Nat.le_of_ble_eq_true rfl) rfl (fun Γ hR hin => ?_)
  have hkc : 0 ≤ 0 := Nat.le_refl 0
  have hks : 0 ≤ 0 := Nat.le_refl 0
  have LP65 : ∀ (fuel : Nat) (q n f9 : Nat) (sn : Nat → Nat), p < 96 → w < 2 → f9 < fuel → q < 100 → (∀ k, k < 96 → sn k < 2) → unS sn 96 < f9 → (flC g 97 (fiK 96 mt) 0 p) = flC g f9 sn n q → V l G (cX7_chain, 6, wsX7_chain, RX7, rX7_chain) Γ 0 0 65 [some (.ref (B 0)), some (.int (nI p)), some (.int (nI w)), some (.int (nI n)), some (.int (nI 4294967287)), some (.int (nI q))] [] [mO B (va_up z 0 0), iA G (B 3) 427 g, zA G (B 9) 96 sn] := by
    intro fuel
    induction fuel with
    | zero => intro q n f9 sn hy hw2 hf hq hsn hun hfl; exact absurd hf (by omega)
    | succ fuel ih =>
      intro q n f9 sn hy hw2 hf hq hsn hun hfl
      obtain ⟨f, rfl⟩ : ∃ f, f9 = f + 1 := ⟨f9 - 1, by omega⟩
      refine V_iload (i := 4) dX7_chain_65 rfl ?_
      refine V_bipush (v := 4294967287) dX7_chain_67 (by decide) ?_
      refine V_icmp_ne (tgt := 160) (by omega) (by omega) dX7_chain_69 rfl (fun h_69 => ?_) (fun h_69 => ?_)
      · exfalso; omega
      · refine V_iload (i := 5) dX7_chain_72 rfl ?_
        refine V_bipush (v := 90) dX7_chain_74 (by decide) ?_
        refine V_icmp_le (tgt := 85) (by omega) (by omega) dX7_chain_76 rfl (fun h_76 => ?_) (fun h_76 => ?_)
        · refine V_aload_n (i := 0) dX7_chain_85 rfl rfl ?_
          refine V_get (C := RX7) (T := TX7) (N := 17) (ci := 6) (q := 0) (ref := "OrderChainsModel") 16 rfl il_X7_chain_X7 rfl rfl fl_X7_chain_35 rfl rfl dX7_chain_86 ?_
          refine V_iload (i := 5) dX7_chain_89 rfl ?_
          refine V_zald (q := 2) rfl (by omega) rfl dX7_chain_91 ?_
          refine V_if_eq (tgt := 101) (by have := hsn q (by omega); omega) dX7_chain_92 rfl (fun h_92 => ?_) (fun h_92 => ?_)
          · refine V_aload_n (i := 0) dX7_chain_101 rfl rfl ?_
            refine V_get (C := RX7) (T := TX7) (N := 17) (ci := 6) (q := 0) (ref := "OrderChainsModel") 16 rfl il_X7_chain_X7 rfl rfl fl_X7_chain_35 rfl rfl dX7_chain_102 ?_
            refine V_iload (i := 5) dX7_chain_105 rfl ?_
            refine V_iconst (v := 1) dX7_chain_107 rfl ?_
            refine V_zast (q := 2) rfl (by omega) rfl (by omega) dX7_chain_108 ?_
            dsimp only [List.set_cons_zero, List.set_cons_succ]
            refine V_iinc dX7_chain_109 rfl (nI_1 _) rfl rfl ?_
            dsimp only [List.set_cons_zero, List.set_cons_succ]
            refine V_aload_n (i := 0) dX7_chain_112 rfl rfl ?_
            refine V_get (C := RX7) (T := TX7) (N := 17) (ci := 6) (q := 0) (ref := "OrderChainsModel") 5 rfl il_X7_chain_X7 rfl rfl fl_X7_chain_16 rfl rfl dX7_chain_113 ?_
            refine V_iload (i := 5) dX7_chain_116 rfl ?_
            refine V_iald (q := 1) rfl (by omega) rfl dX7_chain_118 ?_
            refine V_if_ne (tgt := 126) (by have := hv q (by omega); omega) dX7_chain_119 rfl (fun h_119 => ?_) (fun h_119 => ?_)
            · refine V_aload_n (i := 0) dX7_chain_126 rfl rfl ?_
              refine V_get (C := RX7) (T := TX7) (N := 17) (ci := 6) (q := 0) (ref := "OrderChainsModel") 5 rfl il_X7_chain_X7 rfl rfl fl_X7_chain_16 rfl rfl dX7_chain_127 ?_
              refine V_iload (i := 5) dX7_chain_130 rfl ?_
              refine V_iald (q := 1) rfl (by omega) rfl dX7_chain_132 ?_
              refine V_bipush (v := 6) dX7_chain_133 (by decide) ?_
              refine V_icmp_le (tgt := 142) (by have := hv q (by omega); omega) (by omega) dX7_chain_135 rfl (fun h_135 => ?_) (fun h_135 => ?_)
              · refine V_bipush (v := 4294967287) dX7_chain_142 (by decide) ?_
                refine V_istore (i := 4) dX7_chain_144 rfl rfl ?_
                dsimp only [List.set_cons_zero, List.set_cons_succ]
                refine V_aload_n (i := 0) dX7_chain_146 rfl rfl ?_
                refine V_get (C := RX7) (T := TX7) (N := 17) (ci := 6) (q := 0) (ref := "OrderChainsModel") 5 rfl il_X7_chain_X7 rfl rfl fl_X7_chain_16 rfl rfl dX7_chain_147 ?_
                refine V_iload (i := 5) dX7_chain_150 rfl ?_
                refine V_iconst (v := 5) dX7_chain_152 rfl ?_
                refine V_iadd dX7_chain_153 ?_
                refine V_iald (q := 1) rfl (by omega) rfl dX7_chain_154 ?_
                refine V_istore (i := 5) dX7_chain_155 rfl rfl ?_
                dsimp only [List.set_cons_zero, List.set_cons_succ]
                refine V_goto (tgt := 65) dX7_chain_157 rfl ?_
                have h0 : sn q = 0 := by omega
                have hup := unS_up sn q h0 96 (by omega)
                exact ih (g (q + 5)) (n + 1) f (va_up sn q 1) hy hw2 (by omega) (hv _ (by omega)) (up_all hsn (by decide)) (by omega) (by
                  rw [hfl]
                  show (if _ then _ else _ : Nat × Nat × (Nat → Nat)) = _
                  rw [if_neg (show ¬ 90 < q by omega), if_neg (show ¬ sn q = 1 by omega), if_neg h_119, if_neg (show ¬ 6 < g q by omega)])
              · refine V_iconst (v := 1) dX7_chain_138 rfl ?_
                refine V_goto (tgt := 144) dX7_chain_139 rfl ?_
                refine V_istore (i := 4) dX7_chain_144 rfl rfl ?_
                dsimp only [List.set_cons_zero, List.set_cons_succ]
                refine V_aload_n (i := 0) dX7_chain_146 rfl rfl ?_
                refine V_get (C := RX7) (T := TX7) (N := 17) (ci := 6) (q := 0) (ref := "OrderChainsModel") 5 rfl il_X7_chain_X7 rfl rfl fl_X7_chain_16 rfl rfl dX7_chain_147 ?_
                refine V_iload (i := 5) dX7_chain_150 rfl ?_
                refine V_iconst (v := 5) dX7_chain_152 rfl ?_
                refine V_iadd dX7_chain_153 ?_
                refine V_iald (q := 1) rfl (by omega) rfl dX7_chain_154 ?_
                refine V_istore (i := 5) dX7_chain_155 rfl rfl ?_
                dsimp only [List.set_cons_zero, List.set_cons_succ]
                refine V_goto (tgt := 65) dX7_chain_157 rfl ?_
                refine V_iload (i := 4) dX7_chain_65 rfl ?_
                refine V_bipush (v := 4294967287) dX7_chain_67 (by decide) ?_
                refine V_icmp_ne (tgt := 160) (by omega) (by omega) dX7_chain_69 rfl (fun h_69_2 => ?_) (fun h_69_2 => ?_)
                · refine V_iload_n (i := 2) dX7_chain_160 rfl rfl ?_
                  refine V_if_ne (tgt := 168) (by omega) dX7_chain_161 rfl (fun h_161 => ?_) (fun h_161 => ?_)
                  · refine V_iload (i := 4) dX7_chain_168 rfl ?_
                    refine V_iret hR dX7_chain_170 hkc hks ?_
                    refine Or.inr (Or.inr ⟨hy, hw2, ?_⟩)
                    have hR : (flC g 97 (fiK 96 mt) 0 p) = _ := hfl.trans (show flC g (f + 1) sn n q = (if 90 < q then (n, 2, sn) else if sn q = 1 then (n, 3, sn) else if g q = 0 then (n + 1, 0, va_up sn q 1) else if 6 < g q then (n + 1, 1, va_up sn q 1) else flC g f (va_up sn q 1) (n + 1) (g (q + 5))) from rfl)
                    rw [hR]
                    first | rw [if_pos (show 90 < q by omega)] | rw [if_neg (show ¬ 90 < q by omega), if_pos (show sn q = 1 by have := hsn q (by omega); omega)] | rw [if_neg (show ¬ 90 < q by omega), if_neg (show ¬ sn q = 1 by omega), if_pos (show g q = 0 by omega)] | rw [if_neg (show ¬ 90 < q by omega), if_neg (show ¬ sn q = 1 by omega), if_neg (show ¬ g q = 0 by omega), if_pos (show 6 < g q by omega)]
                    first | (rw [if_pos (show w = 0 by omega)]; exact ⟨rfl, rfl⟩) | (rw [if_neg (show ¬ w = 0 by omega)]; exact ⟨rfl, rfl⟩)
                  · refine V_iload_n (i := 3) dX7_chain_164 rfl rfl ?_
                    refine V_goto (tgt := 170) dX7_chain_165 rfl ?_
                    refine V_iret hR dX7_chain_170 hkc hks ?_
                    refine Or.inr (Or.inr ⟨hy, hw2, ?_⟩)
                    have hR : (flC g 97 (fiK 96 mt) 0 p) = _ := hfl.trans (show flC g (f + 1) sn n q = (if 90 < q then (n, 2, sn) else if sn q = 1 then (n, 3, sn) else if g q = 0 then (n + 1, 0, va_up sn q 1) else if 6 < g q then (n + 1, 1, va_up sn q 1) else flC g f (va_up sn q 1) (n + 1) (g (q + 5))) from rfl)
                    rw [hR]
                    first | rw [if_pos (show 90 < q by omega)] | rw [if_neg (show ¬ 90 < q by omega), if_pos (show sn q = 1 by have := hsn q (by omega); omega)] | rw [if_neg (show ¬ 90 < q by omega), if_neg (show ¬ sn q = 1 by omega), if_pos (show g q = 0 by omega)] | rw [if_neg (show ¬ 90 < q by omega), if_neg (show ¬ sn q = 1 by omega), if_neg (show ¬ g q = 0 by omega), if_pos (show 6 < g q by omega)]
                    first | (rw [if_pos (show w = 0 by omega)]; exact ⟨rfl, rfl⟩) | (rw [if_neg (show ¬ w = 0 by omega)]; exact ⟨rfl, rfl⟩)
                · exfalso; omega
            · refine V_iconst (v := 0) dX7_chain_122 rfl ?_
              refine V_goto (tgt := 144) dX7_chain_123 rfl ?_
              refine V_istore (i := 4) dX7_chain_144 rfl rfl ?_
              dsimp only [List.set_cons_zero, List.set_cons_succ]
              refine V_aload_n (i := 0) dX7_chain_146 rfl rfl ?_
              refine V_get (C := RX7) (T := TX7) (N := 17) (ci := 6) (q := 0) (ref := "OrderChainsModel") 5 rfl il_X7_chain_X7 rfl rfl fl_X7_chain_16 rfl rfl dX7_chain_147 ?_
              refine V_iload (i := 5) dX7_chain_150 rfl ?_
              refine V_iconst (v := 5) dX7_chain_152 rfl ?_
              refine V_iadd dX7_chain_153 ?_
              refine V_iald (q := 1) rfl (by omega) rfl dX7_chain_154 ?_
              refine V_istore (i := 5) dX7_chain_155 rfl rfl ?_
              dsimp only [List.set_cons_zero, List.set_cons_succ]
              refine V_goto (tgt := 65) dX7_chain_157 rfl ?_
              refine V_iload (i := 4) dX7_chain_65 rfl ?_
              refine V_bipush (v := 4294967287) dX7_chain_67 (by decide) ?_
              refine V_icmp_ne (tgt := 160) (by omega) (by omega) dX7_chain_69 rfl (fun h_69_2 => ?_) (fun h_69_2 => ?_)
              · refine V_iload_n (i := 2) dX7_chain_160 rfl rfl ?_
                refine V_if_ne (tgt := 168) (by omega) dX7_chain_161 rfl (fun h_161 => ?_) (fun h_161 => ?_)
                · refine V_iload (i := 4) dX7_chain_168 rfl ?_
                  refine V_iret hR dX7_chain_170 hkc hks ?_
                  refine Or.inr (Or.inr ⟨hy, hw2, ?_⟩)
                  have hR : (flC g 97 (fiK 96 mt) 0 p) = _ := hfl.trans (show flC g (f + 1) sn n q = (if 90 < q then (n, 2, sn) else if sn q = 1 then (n, 3, sn) else if g q = 0 then (n + 1, 0, va_up sn q 1) else if 6 < g q then (n + 1, 1, va_up sn q 1) else flC g f (va_up sn q 1) (n + 1) (g (q + 5))) from rfl)
                  rw [hR]
                  first | rw [if_pos (show 90 < q by omega)] | rw [if_neg (show ¬ 90 < q by omega), if_pos (show sn q = 1 by have := hsn q (by omega); omega)] | rw [if_neg (show ¬ 90 < q by omega), if_neg (show ¬ sn q = 1 by omega), if_pos (show g q = 0 by omega)] | rw [if_neg (show ¬ 90 < q by omega), if_neg (show ¬ sn q = 1 by omega), if_neg (show ¬ g q = 0 by omega), if_pos (show 6 < g q by omega)]
                  first | (rw [if_pos (show w = 0 by omega)]; exact ⟨rfl, rfl⟩) | (rw [if_neg (show ¬ w = 0 by omega)]; exact ⟨rfl, rfl⟩)
                · refine V_iload_n (i := 3) dX7_chain_164 rfl rfl ?_
                  refine V_goto (tgt := 170) dX7_chain_165 rfl ?_
                  refine V_iret hR dX7_chain_170 hkc hks ?_
                  refine Or.inr (Or.inr ⟨hy, hw2, ?_⟩)
                  have hR : (flC g 97 (fiK 96 mt) 0 p) = _ := hfl.trans (show flC g (f + 1) sn n q = (if 90 < q then (n, 2, sn) else if sn q = 1 then (n, 3, sn) else if g q = 0 then (n + 1, 0, va_up sn q 1) else if 6 < g q then (n + 1, 1, va_up sn q 1) else flC g f (va_up sn q 1) (n + 1) (g (q + 5))) from rfl)
                  rw [hR]
                  first | rw [if_pos (show 90 < q by omega)] | rw [if_neg (show ¬ 90 < q by omega), if_pos (show sn q = 1 by have := hsn q (by omega); omega)] | rw [if_neg (show ¬ 90 < q by omega), if_neg (show ¬ sn q = 1 by omega), if_pos (show g q = 0 by omega)] | rw [if_neg (show ¬ 90 < q by omega), if_neg (show ¬ sn q = 1 by omega), if_neg (show ¬ g q = 0 by omega), if_pos (show 6 < g q by omega)]
                  first | (rw [if_pos (show w = 0 by omega)]; exact ⟨rfl, rfl⟩) | (rw [if_neg (show ¬ w = 0 by omega)]; exact ⟨rfl, rfl⟩)
              · exfalso; omega
          · refine V_iconst (v := 3) dX7_chain_95 rfl ?_
            refine V_istore (i := 4) dX7_chain_96 rfl rfl ?_
            dsimp only [List.set_cons_zero, List.set_cons_succ]
            refine V_goto (tgt := 65) dX7_chain_98 rfl ?_
            refine V_iload (i := 4) dX7_chain_65 rfl ?_
            refine V_bipush (v := 4294967287) dX7_chain_67 (by decide) ?_
            refine V_icmp_ne (tgt := 160) (by omega) (by omega) dX7_chain_69 rfl (fun h_69_2 => ?_) (fun h_69_2 => ?_)
            · refine V_iload_n (i := 2) dX7_chain_160 rfl rfl ?_
              refine V_if_ne (tgt := 168) (by omega) dX7_chain_161 rfl (fun h_161 => ?_) (fun h_161 => ?_)
              · refine V_iload (i := 4) dX7_chain_168 rfl ?_
                refine V_iret hR dX7_chain_170 hkc hks ?_
                refine Or.inr (Or.inr ⟨hy, hw2, ?_⟩)
                have hR : (flC g 97 (fiK 96 mt) 0 p) = _ := hfl.trans (show flC g (f + 1) sn n q = (if 90 < q then (n, 2, sn) else if sn q = 1 then (n, 3, sn) else if g q = 0 then (n + 1, 0, va_up sn q 1) else if 6 < g q then (n + 1, 1, va_up sn q 1) else flC g f (va_up sn q 1) (n + 1) (g (q + 5))) from rfl)
                rw [hR]
                first | rw [if_pos (show 90 < q by omega)] | rw [if_neg (show ¬ 90 < q by omega), if_pos (show sn q = 1 by have := hsn q (by omega); omega)] | rw [if_neg (show ¬ 90 < q by omega), if_neg (show ¬ sn q = 1 by omega), if_pos (show g q = 0 by omega)] | rw [if_neg (show ¬ 90 < q by omega), if_neg (show ¬ sn q = 1 by omega), if_neg (show ¬ g q = 0 by omega), if_pos (show 6 < g q by omega)]
                first | (rw [if_pos (show w = 0 by omega)]; exact ⟨rfl, rfl⟩) | (rw [if_neg (show ¬ w = 0 by omega)]; exact ⟨rfl, rfl⟩)
              · refine V_iload_n (i := 3) dX7_chain_164 rfl rfl ?_
                refine V_goto (tgt := 170) dX7_chain_165 rfl ?_
                refine V_iret hR dX7_chain_170 hkc hks ?_
                refine Or.inr (Or.inr ⟨hy, hw2, ?_⟩)
                have hR : (flC g 97 (fiK 96 mt) 0 p) = _ := hfl.trans (show flC g (f + 1) sn n q = (if 90 < q then (n, 2, sn) else if sn q = 1 then (n, 3, sn) else if g q = 0 then (n + 1, 0, va_up sn q 1) else if 6 < g q then (n + 1, 1, va_up sn q 1) else flC g f (va_up sn q 1) (n + 1) (g (q + 5))) from rfl)
                rw [hR]
                first | rw [if_pos (show 90 < q by omega)] | rw [if_neg (show ¬ 90 < q by omega), if_pos (show sn q = 1 by have := hsn q (by omega); omega)] | rw [if_neg (show ¬ 90 < q by omega), if_neg (show ¬ sn q = 1 by omega), if_pos (show g q = 0 by omega)] | rw [if_neg (show ¬ 90 < q by omega), if_neg (show ¬ sn q = 1 by omega), if_neg (show ¬ g q = 0 by omega), if_pos (show 6 < g q by omega)]
                first | (rw [if_pos (show w = 0 by omega)]; exact ⟨rfl, rfl⟩) | (rw [if_neg (show ¬ w = 0 by omega)]; exact ⟨rfl, rfl⟩)
            · exfalso; omega
        · refine V_iconst (v := 2) dX7_chain_79 rfl ?_
          refine V_istore (i := 4) dX7_chain_80 rfl rfl ?_
          dsimp only [List.set_cons_zero, List.set_cons_succ]
          refine V_goto (tgt := 65) dX7_chain_82 rfl ?_
          refine V_iload (i := 4) dX7_chain_65 rfl ?_
          refine V_bipush (v := 4294967287) dX7_chain_67 (by decide) ?_
          refine V_icmp_ne (tgt := 160) (by omega) (by omega) dX7_chain_69 rfl (fun h_69_2 => ?_) (fun h_69_2 => ?_)
          · refine V_iload_n (i := 2) dX7_chain_160 rfl rfl ?_
            refine V_if_ne (tgt := 168) (by omega) dX7_chain_161 rfl (fun h_161 => ?_) (fun h_161 => ?_)
            · refine V_iload (i := 4) dX7_chain_168 rfl ?_
              refine V_iret hR dX7_chain_170 hkc hks ?_
              refine Or.inr (Or.inr ⟨hy, hw2, ?_⟩)
              have hR : (flC g 97 (fiK 96 mt) 0 p) = _ := hfl.trans (show flC g (f + 1) sn n q = (if 90 < q then (n, 2, sn) else if sn q = 1 then (n, 3, sn) else if g q = 0 then (n + 1, 0, va_up sn q 1) else if 6 < g q then (n + 1, 1, va_up sn q 1) else flC g f (va_up sn q 1) (n + 1) (g (q + 5))) from rfl)
              rw [hR]
              first | rw [if_pos (show 90 < q by omega)] | rw [if_neg (show ¬ 90 < q by omega), if_pos (show sn q = 1 by have := hsn q (by omega); omega)] | rw [if_neg (show ¬ 90 < q by omega), if_neg (show ¬ sn q = 1 by omega), if_pos (show g q = 0 by omega)] | rw [if_neg (show ¬ 90 < q by omega), if_neg (show ¬ sn q = 1 by omega), if_neg (show ¬ g q = 0 by omega), if_pos (show 6 < g q by omega)]
              first | (rw [if_pos (show w = 0 by omega)]; exact ⟨rfl, rfl⟩) | (rw [if_neg (show ¬ w = 0 by omega)]; exact ⟨rfl, rfl⟩)
            · refine V_iload_n (i := 3) dX7_chain_164 rfl rfl ?_
              refine V_goto (tgt := 170) dX7_chain_165 rfl ?_
              refine V_iret hR dX7_chain_170 hkc hks ?_
              refine Or.inr (Or.inr ⟨hy, hw2, ?_⟩)
              have hR : (flC g 97 (fiK 96 mt) 0 p) = _ := hfl.trans (show flC g (f + 1) sn n q = (if 90 < q then (n, 2, sn) else if sn q = 1 then (n, 3, sn) else if g q = 0 then (n + 1, 0, va_up sn q 1) else if 6 < g q then (n + 1, 1, va_up sn q 1) else flC g f (va_up sn q 1) (n + 1) (g (q + 5))) from rfl)
              rw [hR]
              first | rw [if_pos (show 90 < q by omega)] | rw [if_neg (show ¬ 90 < q by omega), if_pos (show sn q = 1 by have := hsn q (by omega); omega)] | rw [if_neg (show ¬ 90 < q by omega), if_neg (show ¬ sn q = 1 by omega), if_pos (show g q = 0 by omega)] | rw [if_neg (show ¬ 90 < q by omega), if_neg (show ¬ sn q = 1 by omega), if_neg (show ¬ g q = 0 by omega), if_pos (show 6 < g q by omega)]
              first | (rw [if_pos (show w = 0 by omega)]; exact ⟨rfl, rfl⟩) | (rw [if_neg (show ¬ w = 0 by omega)]; exact ⟨rfl, rfl⟩)
          · exfalso; omega
  have LP37 : ∀ (fuel : Nat) (k : Nat) (m9 : Nat → Nat), 97 ≤ k + fuel → k ≤ 96 → m9 = fiK k mt → p < 96 → w < 2 → V l G (cX7_chain, 6, wsX7_chain, RX7, rX7_chain) Γ 0 0 37 [some (.ref (B 0)), some (.int (nI p)), some (.int (nI w)), some (.int (nI k)), none, none] [] [mO B (va_up z 0 0), iA G (B 3) 427 g, zA G (B 9) 96 m9] := by
    intro fuel
    induction fuel with
    | zero => intro k m9 hf hk hm9 hy hw2; exact absurd hf (by omega)
    | succ fuel ih =>
      intro k m9 hf hk hm9 hy hw2
      refine V_iload_n (i := 3) dX7_chain_37 rfl rfl ?_
      refine V_bipush (v := 96) dX7_chain_38 (by decide) ?_
      refine V_icmp_ge (tgt := 56) (by omega) (by omega) dX7_chain_40 rfl (fun h_40 => ?_) (fun h_40 => ?_)
      · refine V_iconst (v := 0) dX7_chain_56 rfl ?_
        refine V_istore_n (i := 3) dX7_chain_57 rfl rfl rfl ?_
        dsimp only [List.set_cons_zero, List.set_cons_succ]
        refine V_bipush (v := 4294967287) dX7_chain_58 (by decide) ?_
        refine V_istore (i := 4) dX7_chain_60 rfl rfl ?_
        dsimp only [List.set_cons_zero, List.set_cons_succ]
        refine V_iload_n (i := 1) dX7_chain_62 rfl rfl ?_
        refine V_istore (i := 5) dX7_chain_63 rfl rfl ?_
        dsimp only [List.set_cons_zero, List.set_cons_succ]
        have hk9 : k = 96 := by omega
        subst hk9
        subst hm9
        exact LP65 98 p 0 97 (fiK 96 mt) hy hw2 (by omega) (by omega) (fun k hk => by unfold fiK; rw [if_pos hk]; decide) (by rw [unF]; omega) rfl
      · refine V_aload_n (i := 0) dX7_chain_43 rfl rfl ?_
        refine V_get (C := RX7) (T := TX7) (N := 17) (ci := 6) (q := 0) (ref := "OrderChainsModel") 16 rfl il_X7_chain_X7 rfl rfl fl_X7_chain_35 rfl rfl dX7_chain_44 ?_
        refine V_iload_n (i := 3) dX7_chain_47 rfl rfl ?_
        refine V_iconst (v := 0) dX7_chain_48 rfl ?_
        refine V_zast (q := 2) rfl (by omega) rfl (by omega) dX7_chain_49 ?_
        dsimp only [List.set_cons_zero, List.set_cons_succ]
        refine V_iinc dX7_chain_50 rfl (nI_1 _) rfl rfl ?_
        dsimp only [List.set_cons_zero, List.set_cons_succ]
        refine V_goto (tgt := 37) dX7_chain_53 rfl ?_
        exact ih (k + 1) _ (by omega) (by omega) (by rw [hm9, fiK_s]) hy hw2
  refine V_aload_n (i := 0) dX7_chain_0 rfl rfl ?_
  refine V_iload_n (i := 1) dX7_chain_1 rfl rfl ?_
  refine V_callS (As := _) (rest := _) [] (c_X7_isCell l G (p) hp) vy_X7_isCell gX7_chain_X7_isCell rfl rfl rfl rfl ⟨rfl, rfl⟩ ⟨rfl, rfl⟩ ⟨Nat.zero_le _, Nat.zero_le _⟩ rfl dX7_chain_2 (fun v Y hE => ?_)
  obtain ⟨rfl, rfl⟩ := hE
  refine ⟨rfl, ?_⟩
  dsimp only [vfill, List.set_cons_zero, List.set_cons_succ, Option.toList, List.cons_append, List.nil_append, Nat.add_zero]
  refine V_if_ne (tgt := 12) (by split <;> decide) dX7_chain_5 rfl (fun h_5 => ?_) (fun h_5 => ?_)
  · have hy := b01 h_5
    refine V_iload_n (i := 2) dX7_chain_12 rfl rfl ?_
    refine V_i2l dX7_chain_13 ?_
    refine V_lconst dX7_chain_14 rfl ?_
    refine V_lconst dX7_chain_15 rfl ?_
    refine V_callS (As := _) (rest := _) [] (c_X7_inN l G (w) 0 1 _ _ (by decide) (by decide) hw (by decide)) vy_X7_in gX7_chain_X7_in rfl rfl rfl rfl ⟨rfl, rfl⟩ ⟨rfl, rfl⟩ ⟨Nat.zero_le _, Nat.zero_le _⟩ rfl dX7_chain_16 (fun v Y hE => ?_)
    obtain ⟨rfl, rfl⟩ := hE
    refine ⟨rfl, ?_⟩
    dsimp only [vfill, List.set_cons_zero, List.set_cons_succ, Option.toList, List.cons_append, List.nil_append, Nat.add_zero]
    refine V_if_eq (tgt := 26) (by split <;> decide) dX7_chain_19 rfl (fun h_19 => ?_) (fun h_19 => ?_)
    · refine V_iconst (v := 2) dX7_chain_26 rfl ?_
      refine V_callV (C := RX7) (q := 0) (ci := 6) (As := _) (rest := []) [0] (c_X7_refused l G B z 2 (by decide)) vy_X7_refused gX7_chain_X7_refused rfl rfl rfl rfl rfl rfl rfl ⟨rfl, rfl⟩ ⟨rfl, rfl⟩ ⟨Nat.zero_le _, Nat.zero_le _⟩ rfl dX7_chain_27 (fun v Y hE => ?_)
      obtain ⟨rfl, rfl⟩ := hE
      refine ⟨rfl, ?_⟩
      dsimp only [vfill, List.set_cons_zero, List.set_cons_succ, Option.toList, List.cons_append, List.nil_append, Nat.add_zero]
      refine V_top (b := 1) (by decide) ?_
      refine V_if_eq (tgt := 35) (by omega) dX7_chain_30 rfl (fun h_30 => ?_) (fun h_30 => ?_)
      · exfalso; omega
      · refine V_iconst (v := 0) dX7_chain_33 rfl ?_
        refine V_iret hR dX7_chain_34 hkc hks ?_
        first | exact Or.inl ⟨b00 h_5, rfl, rfl⟩ | exact Or.inr (Or.inl ⟨hy, fun y9 => b00 h_19 (by omega), rfl, rfl⟩)
    · have hx := b01 h_19
      refine V_iconst (v := 0) dX7_chain_22 rfl ?_
      refine V_goto (tgt := 27) dX7_chain_23 rfl ?_
      refine V_callV (C := RX7) (q := 0) (ci := 6) (As := _) (rest := []) [0] (c_X7_refused l G B z 0 (by decide)) vy_X7_refused gX7_chain_X7_refused rfl rfl rfl rfl rfl rfl rfl ⟨rfl, rfl⟩ ⟨rfl, rfl⟩ ⟨Nat.zero_le _, Nat.zero_le _⟩ rfl dX7_chain_27 (fun v Y hE => ?_)
      obtain ⟨rfl, rfl⟩ := hE
      refine ⟨rfl, ?_⟩
      dsimp only [vfill, List.set_cons_zero, List.set_cons_succ, Option.toList, List.cons_append, List.nil_append, Nat.add_zero]
      refine V_top (b := 0) (by decide) ?_
      refine V_if_eq (tgt := 35) (by omega) dX7_chain_30 rfl (fun h_30 => ?_) (fun h_30 => ?_)
      · refine V_iconst (v := 0) dX7_chain_35 rfl ?_
        refine V_istore_n (i := 3) dX7_chain_36 rfl rfl rfl ?_
        dsimp only [List.set_cons_zero, List.set_cons_succ]
        exact LP37 97 0 mt (by omega) (by omega) (fiK_0 mt).symm hy (by omega)
      · exfalso; omega
  · refine V_iconst (v := 1) dX7_chain_8 rfl ?_
    refine V_goto (tgt := 27) dX7_chain_9 rfl ?_
    refine V_callV (C := RX7) (q := 0) (ci := 6) (As := _) (rest := []) [0] (c_X7_refused l G B z 1 (by decide)) vy_X7_refused gX7_chain_X7_refused rfl rfl rfl rfl rfl rfl rfl ⟨rfl, rfl⟩ ⟨rfl, rfl⟩ ⟨Nat.zero_le _, Nat.zero_le _⟩ rfl dX7_chain_27 (fun v Y hE => ?_)
    obtain ⟨rfl, rfl⟩ := hE
    refine ⟨rfl, ?_⟩
    dsimp only [vfill, List.set_cons_zero, List.set_cons_succ, Option.toList, List.cons_append, List.nil_append, Nat.add_zero]
    refine V_top (b := 1) (by decide) ?_
    refine V_if_eq (tgt := 35) (by omega) dX7_chain_30 rfl (fun h_30 => ?_) (fun h_30 => ?_)
    · exfalso; omega
    · refine V_iconst (v := 0) dX7_chain_33 rfl ?_
      refine V_iret hR dX7_chain_34 hkc hks ?_
      first | exact Or.inl ⟨b00 h_5, rfl, rfl⟩ | exact Or.inr (Or.inl ⟨hy, fun y9 => b00 h_19 (by omega), rfl, rfl⟩)

end REF12
