section OC5
def lcN (x y : Int64) : Nat := if y < x then 1 else if x = y then 0 else 4294967295
theorem lcN_cmp (x y : Int64) : lg_cmp x y = nI (lcN x y) := by
  unfold lg_cmp lcN
  by_cases h : y < x
  · rw [if_pos h, if_pos h]; rfl
  · rw [if_neg h, if_neg h]
    by_cases h2 : x = y
    · rw [if_pos h2, if_pos h2]; rfl
    · rw [if_neg h2, if_neg h2]; rfl
theorem lcN_lt (x y : Int64) : lcN x y < 4294967296 := by
  unfold lcN
  repeat' split
  all_goals omega
theorem lcN_neg {x y : Int64} : 2147483648 ≤ lcN x y ↔ x.toInt < y.toInt := by
  unfold lcN
  by_cases h : y < x
  · rw [if_pos h]
    have := Int64.lt_iff_toInt_lt.mp h
    constructor <;> intro z <;> omega
  · rw [if_neg h]
    have h1 : ¬ y.toInt < x.toInt := fun z => h (Int64.lt_iff_toInt_lt.mpr z)
    by_cases h2 : x = y
    · rw [if_pos h2, h2]
      constructor <;> intro z <;> omega
    · rw [if_neg h2]
      have : x.toInt ≠ y.toInt := fun z => h2 (Int64.toInt_inj.mp z)
      constructor <;> intro z <;> omega
theorem lcN_z {x y : Int64} : lcN x y = 0 ↔ x.toInt = y.toInt := by
  unfold lcN
  by_cases h : y < x
  · rw [if_pos h]
    have := Int64.lt_iff_toInt_lt.mp h
    constructor <;> intro z <;> omega
  · rw [if_neg h]
    by_cases h2 : x = y
    · rw [if_pos h2, h2]
      constructor <;> intro z <;> omega
    · rw [if_neg h2]
      have : x.toInt ≠ y.toInt := fun z => h2 (Int64.toInt_inj.mp z)
      constructor <;> intro z <;> omega
def wl : Nat → Int64 → Int64
  | 0, x => x
  | k + 1, x => wl k (x / 100000)
theorem i64_lt (x : Int64) : x.toInt < 9223372036854775808 := Int64.toInt_lt x
theorem i64_ge (x : Int64) : -9223372036854775808 ≤ x.toInt := Int64.le_toInt x
theorem dv5 {x : Int64} (h : 0 ≤ x.toInt) : (x / 100000).toInt = x.toInt / 100000 := by
  rw [Int64.toInt_div]
  have h1 := i64_lt x
  have e : (100000 : Int64).toInt = 100000 := by decide
  rw [e, Int.tdiv_eq_ediv_of_nonneg h]
  rw [Int.bmod_def]
  split <;> omega
theorem rm5 {x : Int64} (h : 0 ≤ x.toInt) : (x - x / 100000 * 100000).toInt = x.toInt % 100000 := by
  rw [Int64.toInt_sub, Int64.toInt_mul, dv5 h]
  have h1 := i64_lt x
  have e : (100000 : Int64).toInt = 100000 := by decide
  rw [e, Int.bmod_def, Int.bmod_def]
  split <;> split <;> omega
theorem toI32 {x : Int64} {n : Nat} (h : x.toInt = n) : x.toInt32 = nI n := by
  apply Int32.toInt_inj.mp
  rw [Int64.toInt_toInt32, h]
  rw [← nI_ofInt, Int32.toInt_ofInt]
theorem wl_ge : ∀ (k : Nat) {x : Int64}, 0 ≤ x.toInt → 0 ≤ (wl k x).toInt
  | 0, _, h => h
  | k + 1, x, h => wl_ge k (by rw [dv5 h]; omega)
theorem wl_eq : ∀ (k : Nat) {x : Int64} {n : Nat}, x.toInt = (n : Int) → (wl k x).toInt = ((n / 100000 ^ k : Nat) : Int)
  | 0, x, n, h => by show x.toInt = _; rw [h, Nat.pow_zero, Nat.div_one]
  | k + 1, x, n, h => by
    show (wl k (x / 100000)).toInt = _
    rw [wl_eq k (n := n / 100000) (by rw [dv5 (by omega), h]; omega), Nat.div_div_eq_div_mul, Nat.pow_succ, Nat.mul_comm]
theorem wl_g {k : Nat} {x : Int64} (h : 0 ≤ x.toInt) : (wl k x - wl k x / 100000 * 100000).toInt32 = nI (x.toInt.toNat / 100000 ^ k % 100000) := by
  refine toI32 ?_
  rw [rm5 (wl_ge k h), wl_eq k (n := x.toInt.toNat) (by omega)]
  omega
theorem wl_0 {k : Nat} {x : Int64} (h : 0 ≤ x.toInt) : (wl k x).toInt = 0 ↔ x.toInt.toNat < 100000 ^ k := by
  rw [wl_eq k (n := x.toInt.toNat) (by omega)]
  have hp : 0 < 100000 ^ k := Nat.pow_pos (by decide)
  rw [← Nat.div_eq_zero_iff_lt hp]
  omega
theorem scC_lt (g : Nat) (e : vE) : (scC g e).1 < 4294967296 := by
  unfold scC
  repeat' split
  all_goals (dsimp only; omega)
theorem eB_setV {e : vE} {c v : Nat} (he : eB e) (hv : v < 100) : eB (setV e c v) := by
  refine ⟨fun k hk => ?_, he.2⟩
  show va_up e.1 c v k < 100
  unfold va_up
  split
  · exact hv
  · exact he.1 k hk
theorem eB_setC {e : vE} {h : Nat} {q : Nat → Nat} (he : eB e) (hq : qB q) : eB (setC e h q) := by
  obtain ⟨h1, h2, h3, h4, h5, h6, h7⟩ := he
  refine ⟨h1, h2, h3, h4, h5, h6, fun k hk => ?_⟩
  show qB (va_up e.2.2.2.2.2.2 h q k)
  unfold va_up
  split
  · exact hq
  · exact h7 k hk
theorem eB_setO {e : vE} {o : Nat → Nat} (he : eB e) (ho : ∀ k, k < 96 → o k < 4) : eB (setO e o) := ⟨he.1, ho, he.2.2⟩
theorem gv_lt {b m o : Nat} {own : Nat → Nat} (ho : o < 4) (hw : ∀ k, k < 96 → own k < 4) : ∀ k, k < 96 → gvF b m o own k < 4 := fun k hk => by
  unfold gvF
  split
  · exact ho
  · exact hw k hk
theorem eB_sc {g : Nat} {e : vE} (he : eB e) : eB (scC g e).2 := by
  unfold scC
  repeat' split
  all_goals first
    | exact he
    | exact eB_setV he (by omega)
    | exact eB_run _ _ he
    | exact eB_setC he (qB_begin (he.2.2.2.2.2.2 _ (by omega)) (by omega))
    | exact eB_setC he (qB_bc (he.2.2.2.2.2.2 _ (by omega)) (by decide))
    | exact eB_setO he (gv_lt (by omega) he.2.1)
/-- the commands from the i-th on, f of them -/
def rsL (xs : Nat) : Nat → Nat → vE → Nat × vE
  | 0, _, t => (4294967287, t)
  | f + 1, i, t => if (scC (xs / 100000 ^ f % 100000) t).1 = 0 then (i, (scC (xs / 100000 ^ f % 100000) t).2) else rsL xs f (i + 1) (scC (xs / 100000 ^ f % 100000) t).2
def smR (x : Int64) : Nat := x.toUInt64.toNat / 8589934592
theorem smR_lt (x : Int64) : smR x < 2147483648 := by
  have := x.toUInt64.toNat_lt
  unfold smR
  omega
theorem sm_shr (x : Int64) : (x.toUInt64 >>> ((nI 33).toInt64.toUInt64 &&& Int64.toUInt64 63)).toInt64 = Int64.ofNat (smR x) := by
  rw [show ((nI 33).toInt64.toUInt64 &&& Int64.toUInt64 63) = 33 by decide]
  apply Int64.toBitVec_inj.mp
  apply BitVec.eq_of_toNat_eq
  show (x.toUInt64 >>> 33).toNat = (BitVec.ofNat 64 (smR x)).toNat
  rw [UInt64.toNat_shiftRight]
  show x.toUInt64.toNat >>> 33 = _
  rw [Nat.shiftRight_eq_div_pow, BitVec.toNat_ofNat, Nat.mod_eq_of_lt (show smR x < 2 ^ 64 by have := smR_lt x; omega)]
  rfl
theorem sm_i (x : Int64) : (Int64.ofNat (smR x)).toInt32 = nI (smR x) := by
  refine toI32 ?_
  have := smR_lt x
  rw [Int64.toInt_ofNat_of_lt (by omega)]
def siX (x : Int64) : Int64 := x * 6364136223846793005 + 1442695040888963407
def siV (r : Nat) (t : vE) : vE := setV t (r % 96) (r / 128 % 100)
def siB (r : Nat) (t : vE) : vE := if r / 16384 % 4 = 0 then setC (siV r t) (r / 65536 % 3) (qBegin (r / 262144 % 91) (t.2.2.2.2.2.2 (r / 65536 % 3))) else siV r t
def siG (F : Int64 → Int64) : Nat → Int64 → vE → vE
  | 0, _, t => t
  | k + 1, x, t => siG F k (F x) (runC 8 (siB (smR (F x)) t)).2
theorem siG_s (F : Int64 → Int64) (n : Nat) (x : Int64) (t : vE) : siG F (n + 1) x t = siG F n (F x) (runC 8 (siB (smR (F x)) t)).2 := rfl
theorem siG_0 (F : Int64 → Int64) (x : Int64) (t : vE) : siG F 0 x t = t := rfl

abbrev rX6_withoutLastGroups : Room := { frames := 0, cells := 0, slots := 0, locals := 0 }
theorem vy_X6_withoutLastGroups : vY yX6_withoutLastGroups wsX6_withoutLastGroups cX6_withoutLastGroups 6 (some .long) 2 := ⟨⟨_, rfl⟩, by decide +kernel, by decide +kernel, by decide +kernel⟩
theorem kc_X6_withoutLastGroups_253 : Cond.constantLong RX6 253 (100000) ∈ wsX6_withoutLastGroups := List.mem_of_getElem? (i := 1) rfl
set_option maxHeartbeats 4000000 in
set_option maxRecDepth 100000 in
/-- withoutLastGroups -/
theorem c_X6_withoutLastGroups (l : Launch) (G : vG) (x : Int64) (k : Nat) (hk9 : k < 2147483648) : Kc l G yX6_withoutLastGroups wsX6_withoutLastGroups rX6_withoutLastGroups [.long x, .int (nI k)] [] (fun v Y => v = some (.long (wl k x)) ∧ Y = []) 0 0 := by
  refine V_enter (own := RX6) [some (.long x), none, some (.int (nI k)), none, none, none] (by decide +kernel) rfl rfl (Nat.le_of_ble_eq_true rfl) rfl (fun Γ hR hin => ?_)
  have hkc : 0 ≤ 0 := Nat.le_refl 0
  have hks : 0 ≤ 0 := Nat.le_refl 0
  have LP5 : ∀ (fuel : Nat) (g : Nat) (y : Int64), k + 1 ≤ g + fuel → g ≤ k → wl k x = wl (k - g) y → V l G (cX6_withoutLastGroups, 6, wsX6_withoutLastGroups, RX6, rX6_withoutLastGroups) Γ 0 0 5 [some (.long x), none, some (.int (nI k)), some (.long y), none, some (.int (nI g))] [] [] := by
    intro fuel
    induction fuel with
    | zero => intro g y hf hg hfl; exact absurd hf (by omega)
    | succ fuel ih =>
      intro g y hf hg hfl
      refine V_iload (i := 5) dX6_withoutLastGroups_5 rfl ?_
      refine V_iload_n (i := 2) dX6_withoutLastGroups_7 rfl rfl ?_
      refine V_icmp_ge (tgt := 23) (by omega) (by omega) dX6_withoutLastGroups_8 rfl (fun h_8 => ?_) (fun h_8 => ?_)
      · refine V_lload_n (i := 3) dX6_withoutLastGroups_23 rfl rfl ?_
        refine V_lret hR dX6_withoutLastGroups_24 hkc hks ?_
        have hz : k - g = 0 := by omega
        rw [hfl, hz]
        exact ⟨rfl, rfl⟩
      · refine V_lload_n (i := 3) dX6_withoutLastGroups_11 rfl rfl ?_
        refine V_ldc2 (v := 100000) dX6_withoutLastGroups_12 kc_X6_withoutLastGroups_253 ?_
        refine V_ldiv dX6_withoutLastGroups_15 (by decide) ?_
        refine V_lstore_n (i := 3) dX6_withoutLastGroups_16 rfl rfl rfl ?_
        dsimp only [List.set_cons_zero, List.set_cons_succ]
        refine V_iinc dX6_withoutLastGroups_17 rfl (nI_1 _) rfl rfl ?_
        dsimp only [List.set_cons_zero, List.set_cons_succ]
        refine V_goto (tgt := 5) dX6_withoutLastGroups_20 rfl ?_
        exact ih (g + 1) (y / 100000) (by omega) (by omega) (by rw [hfl, show k - g = (k - (g + 1)) + 1 by omega]; rfl)
  refine V_lload_n (i := 0) dX6_withoutLastGroups_0 rfl rfl ?_
  refine V_lstore_n (i := 3) dX6_withoutLastGroups_1 rfl rfl rfl ?_
  dsimp only [List.set_cons_zero, List.set_cons_succ]
  refine V_iconst (v := 0) dX6_withoutLastGroups_2 rfl ?_
  refine V_istore (i := 5) dX6_withoutLastGroups_3 rfl rfl ?_
  dsimp only [List.set_cons_zero, List.set_cons_succ]
  exact LP5 (k + 1) 0 x (by omega) (Nat.zero_le k) rfl

abbrev rX6_runScript : Room := { frames := 7, cells := 1, slots := 6, locals := 161 }
theorem vy_X6_runScript : vY yX6_runScript wsX6_runScript cX6_runScript 7 (some .int) 2 := ⟨⟨_, rfl⟩, by decide +kernel, by decide +kernel, by decide +kernel⟩
theorem fl_X6_runScript_31 : Cond.fieldLink RX6 31 "OrderChains" "trial" "LOrderChains$Engine;" ∈ wsX6_runScript := List.mem_of_getElem? (i := 3) rfl
theorem il_X6_runScript_X6 : ∀ w ∈ wsX60, w ∈ wsX6_runScript := fun _ h => List.mem_cons_of_mem _ (List.mem_append_left _ (List.mem_append_left _ (List.mem_append_left _ (List.mem_append_right _ h))))
theorem kc_X6_runScript_253 : Cond.constantLong RX6 253 (100000) ∈ wsX6_runScript := List.mem_of_getElem? (i := 5) rfl
theorem xk_X6_runScript_56 : Cond.classLink RX6 56 "java/lang/IllegalArgumentException" ∈ wsX6_runScript := List.mem_of_getElem? (i := 1) rfl
theorem xi_X6_runScript_56 : Cond.initialized "java/lang/IllegalArgumentException" ∈ wsX6_runScript := List.mem_of_getElem? (i := 2) rfl
theorem xw_X6_runScript_60 : ∀ w ∈ (vx_atS RX6 60 sIAE nms).filter goodWord, w ∈ wsX6_runScript := fun _ h => List.mem_cons_of_mem _ (List.mem_append_right _ h)
theorem fl_X6_runScript_27 : Cond.fieldLink RX6 27 "OrderChains" "live" "LOrderChains$Engine;" ∈ wsX6_runScript := List.mem_of_getElem? (i := 4) rfl
set_option maxHeartbeats 4000000 in
set_option maxRecDepth 100000 in
/-- runScript -/
theorem c_X6_runScript (l : Launch) (hst : l.stackTraces = false) (G : vG) (A : Nat → Nat) (ea : Nat → Nat → Nat) (w : Nat) (x : Int64) (n : Nat) (e t : vE) (he : eB e) (hw : w < 4294967296) : Kx l G yX6_runScript wsX6_runScript rX6_runScript [.ref (A 0), .int (nI w), .long x] [oO A ea n, eK G (ea 14) e, eK G (ea 15) t] (fun v Y => (1 ≤ w ∧ w < 4 ∧ 0 ≤ x.toInt ∧ x.toInt.toNat < 100000 ^ w) ∧ v = some (.int (nI (rsL x.toInt.toNat w 0 (cpC t e)).1)) ∧ Y = [oO A ea n, eK G (ea 14) e, eK G (ea 15) (rsL x.toInt.toNat w 0 (cpC t e)).2]) (fun c Y => (c = sIAE ∧ ¬ (1 ≤ w ∧ w < 4 ∧ 0 ≤ x.toInt ∧ x.toInt.toNat < 100000 ^ w)) ∧ Y = [oO A ea n, eK G (ea 14) e, eK G (ea 15) t]) 1 6 := by
  refine V_enterX (own := RX6) [some (.ref (A 0)), some (.int (nI w)), some (.long x), none, none, none, none] hst (by decide +kernel) rfl rfl (Nat.le_of_ble_eq_true rfl) rfl (fun Γ hR hT => ?_)
  have hkc : 0 ≤ 1 := Nat.zero_le _
  have hks : 0 ≤ 6 := Nat.zero_le _
  have hmx : 0 + 1 ≤ 1 ∧ 0 + 6 ≤ 6 := ⟨by decide, by decide⟩
  have LP60 : ∀ (fuel : Nat) (i : Nat) (f : vE) (u : Option Value × Option Value), w + 1 ≤ i + fuel → 0 ≤ x.toInt → x.toInt.toNat < 100000 ^ w → 1 ≤ w → w < 4 → i ≤ w → eB f → (rsL x.toInt.toNat w 0 (cpC t e)) = rsL x.toInt.toNat (w - i) i f → V l G (cX6_runScript, 7, wsX6_runScript, RX6, rX6_runScript) Γ 0 0 60 [some (.ref (A 0)), some (.int (nI w)), some (.long x), none, some (.int (nI i)), u.1, u.2] [] [oO A ea n, eK G (ea 14) e, eK G (ea 15) f] := by
    intro fuel
    induction fuel with
    | zero => intro i f u hf hx0 hy hw1 hw4 hi hef hfl; exact absurd hf (by omega)
    | succ fuel ih =>
      intro i f u hf hx0 hy hw1 hw4 hi hef hfl
      refine V_iload (i := 4) dX6_runScript_60 rfl ?_
      refine V_iload_n (i := 1) dX6_runScript_62 rfl rfl ?_
      refine V_icmp_ge (tgt := 104) (by omega) (by omega) dX6_runScript_63 rfl (fun h_63 => ?_) (fun h_63 => ?_)
      · refine V_bipush (v := 4294967287) dX6_runScript_104 (by decide) ?_
        refine V_iret hR dX6_runScript_106 hkc hks ?_
        rw [hfl, show w - i = 0 by omega]
        exact ⟨⟨hw1, hw4, hx0, hy⟩, rfl, rfl⟩
      · refine V_lload_n (i := 2) dX6_runScript_66 rfl rfl ?_
        refine V_iload_n (i := 1) dX6_runScript_67 rfl rfl ?_
        refine V_iconst (v := 1) dX6_runScript_68 rfl ?_
        have hR9 : rsL x.toInt.toNat (w - i) i f = (if (scC (x.toInt.toNat / 100000 ^ (w - 1 - i) % 100000) f).1 = 0 then (i, (scC (x.toInt.toNat / 100000 ^ (w - 1 - i) % 100000) f).2) else rsL x.toInt.toNat (w - 1 - i) (i + 1) (scC (x.toInt.toNat / 100000 ^ (w - 1 - i) % 100000) f).2) := by
          rw [show w - i = (w - 1 - i) + 1 by omega]
          rfl
        refine V_isub dX6_runScript_69 (by omega) ?_
        refine V_iload (i := 4) dX6_runScript_70 rfl ?_
        refine V_isub dX6_runScript_72 (by omega) ?_
        refine V_callS (As := _) (rest := []) [] (c_X6_withoutLastGroups l G x (w - 1 - i) (by omega)) vy_X6_withoutLastGroups gX6_runScript_X6_withoutLastGroups rfl rfl rfl rfl ⟨rfl, rfl⟩ ⟨rfl, rfl⟩ ⟨Nat.zero_le _, Nat.zero_le _⟩ rfl dX6_runScript_73 (fun v Y hE => ?_)
        obtain ⟨rfl, rfl⟩ := hE
        refine ⟨rfl, ?_⟩
        dsimp only [vfill, List.set_cons_zero, List.set_cons_succ, Option.toList, List.cons_append, List.nil_append, Nat.add_zero]
        refine V_lstore (i := 5) dX6_runScript_76 rfl rfl ?_
        dsimp only [List.set_cons_zero, List.set_cons_succ]
        refine V_aload_n (i := 0) dX6_runScript_78 rfl rfl ?_
        refine V_get (C := RX6) (T := TX6) (N := 9) (ci := 5) (q := 0) (ref := "OrderChains") 4 rfl il_X6_runScript_X6 rfl rfl fl_X6_runScript_31 rfl rfl dX6_runScript_79 ?_
        refine V_lload (i := 5) dX6_runScript_82 rfl ?_
        refine V_ldc2 (v := 100000) dX6_runScript_84 kc_X6_runScript_253 ?_
        refine V_lrem dX6_runScript_87 (by decide) ?_
        refine V_l2i dX6_runScript_88 (wl_g (k := w - 1 - i) hx0) ?_
        refine V_callS (As := _) (rest := []) [2] (c_X4_succeeds l G (ea 15) f (x.toInt.toNat / 100000 ^ (w - 1 - i) % 100000) (Nat.mod_lt _ (by decide)) hef) vy_X4_succeeds gX6_runScript_X4_succeeds rfl rfl rfl rfl ⟨rfl, rfl⟩ ⟨rfl, rfl⟩ ⟨Nat.zero_le _, Nat.zero_le _⟩ rfl dX6_runScript_89 (fun v Y hE => ?_)
        obtain ⟨rfl, rfl⟩ := hE
        refine ⟨rfl, ?_⟩
        dsimp only [vfill, List.set_cons_zero, List.set_cons_succ, Option.toList, List.cons_append, List.nil_append, Nat.add_zero]
        refine V_if_ne (tgt := 98) (scC_lt _ _) dX6_runScript_92 rfl (fun h_92 => ?_) (fun h_92 => ?_)
        · refine V_iinc dX6_runScript_98 rfl (nI_1 _) rfl rfl ?_
          dsimp only [List.set_cons_zero, List.set_cons_succ]
          refine V_goto (tgt := 60) dX6_runScript_101 rfl ?_
          exact ih (i + 1) (scC (x.toInt.toNat / 100000 ^ (w - 1 - i) % 100000) f).2 (_, _) (by omega) hx0 hy hw1 hw4 (by omega) (eB_sc hef) (by rw [hfl, hR9, if_neg h_92, show w - 1 - i = w - (i + 1) by omega])
        · refine V_iload (i := 4) dX6_runScript_95 rfl ?_
          refine V_iret hR dX6_runScript_97 hkc hks ?_
          rw [hfl, hR9, if_pos h_92]
          exact ⟨⟨hw1, hw4, hx0, hy⟩, rfl, rfl⟩
  refine V_iload_n (i := 1) dX6_runScript_0 rfl rfl ?_
  refine V_iconst (v := 1) dX6_runScript_1 rfl ?_
  refine V_icmp_ltA (tgt := 10) (by omega) (by omega) dX6_runScript_2 rfl (fun h_2 => ?_) (fun h_2 => ?_)
  · refine V_IAE (is := 245) (text := "no such number of commands") hT rfl xk_X6_runScript_56 xi_X6_runScript_56 xw_X6_runScript_60 (List.mem_of_getElem? (i := 14) rfl) ⟨rfl, rfl⟩ hmx hmx dX6_runScript_10 dX6_runScript_13 dX6_runScript_14 dX6_runScript_16 dX6_runScript_19 ?_
    exact ⟨⟨rfl, fun z => by omega⟩, rfl⟩
  · refine V_iload_n (i := 1) dX6_runScript_5 rfl rfl ?_
    refine V_iconst (v := 3) dX6_runScript_6 rfl ?_
    refine V_icmp_leA (tgt := 20) (by omega) (by omega) dX6_runScript_7 rfl (fun h_7 => ?_) (fun h_7 => ?_)
    · refine V_lload_n (i := 2) dX6_runScript_20 rfl rfl ?_
      refine V_lconst dX6_runScript_21 rfl ?_
      refine V_lcmp (v := lcN x 0) dX6_runScript_22 (lcN_cmp _ _) ?_
      refine V_if_lt (tgt := 36) (lcN_lt _ _) dX6_runScript_23 rfl (fun h_23 => ?_) (fun h_23 => ?_)
      · refine V_IAE (is := 251) (text := "no such script") hT rfl xk_X6_runScript_56 xi_X6_runScript_56 xw_X6_runScript_60 (List.mem_of_getElem? (i := 15) rfl) ⟨rfl, rfl⟩ hmx hmx dX6_runScript_36 dX6_runScript_39 dX6_runScript_40 dX6_runScript_42 dX6_runScript_45 ?_
        refine ⟨⟨rfl, fun z => ?_⟩, rfl⟩
        first | exact absurd (lcN_neg.mp h_23) (Int.not_lt.mpr z.2.2.1) | exact h_33 (lcN_z.mpr ((wl_0 (k := w) z.2.2.1).mpr z.2.2.2))
      · have hx0 : 0 ≤ x.toInt := by rw [lcN_neg] at h_23; exact Int.not_lt.mp h_23
        refine V_lload_n (i := 2) dX6_runScript_26 rfl rfl ?_
        refine V_iload_n (i := 1) dX6_runScript_27 rfl rfl ?_
        refine V_callS (As := _) (rest := []) [] (c_X6_withoutLastGroups l G x w (by omega)) vy_X6_withoutLastGroups gX6_runScript_X6_withoutLastGroups rfl rfl rfl rfl ⟨rfl, rfl⟩ ⟨rfl, rfl⟩ ⟨Nat.zero_le _, Nat.zero_le _⟩ rfl dX6_runScript_28 (fun v Y hE => ?_)
        obtain ⟨rfl, rfl⟩ := hE
        refine ⟨rfl, ?_⟩
        dsimp only [vfill, List.set_cons_zero, List.set_cons_succ, Option.toList, List.cons_append, List.nil_append, Nat.add_zero]
        refine V_lconst dX6_runScript_31 rfl ?_
        refine V_lcmp (v := lcN (wl w x) 0) dX6_runScript_32 (lcN_cmp _ _) ?_
        refine V_if_eq (tgt := 46) (lcN_lt _ _) dX6_runScript_33 rfl (fun h_33 => ?_) (fun h_33 => ?_)
        · have hy := (wl_0 (k := w) hx0).mp (lcN_z.mp h_33)
          refine V_aload_n (i := 0) dX6_runScript_46 rfl rfl ?_
          refine V_get (C := RX6) (T := TX6) (N := 9) (ci := 5) (q := 0) (ref := "OrderChains") 4 rfl il_X6_runScript_X6 rfl rfl fl_X6_runScript_31 rfl rfl dX6_runScript_47 ?_
          refine V_aload_n (i := 0) dX6_runScript_50 rfl rfl ?_
          refine V_get (C := RX6) (T := TX6) (N := 9) (ci := 5) (q := 0) (ref := "OrderChains") 3 rfl il_X6_runScript_X6 rfl rfl fl_X6_runScript_27 rfl rfl dX6_runScript_51 ?_
          refine V_callV (C := RX2) (q := 0) (ci := 2) (As := _) (rest := []) [2, 1] (c_X2_copyFromK l G (ea 15) (ea 14) t e) vy_X2_copyFrom gX6_runScript_X2_copyFrom rfl rfl rfl rfl rfl rfl rfl ⟨rfl, rfl⟩ ⟨rfl, rfl⟩ ⟨Nat.zero_le _, Nat.zero_le _⟩ rfl dX6_runScript_54 (fun v Y hE => ?_)
          obtain ⟨rfl, rfl⟩ := hE
          refine ⟨rfl, ?_⟩
          dsimp only [vfill, List.set_cons_zero, List.set_cons_succ, Option.toList, List.cons_append, List.nil_append, Nat.add_zero]
          refine V_iconst (v := 0) dX6_runScript_57 rfl ?_
          refine V_istore (i := 4) dX6_runScript_58 rfl rfl ?_
          dsimp only [List.set_cons_zero, List.set_cons_succ]
          exact LP60 (w + 1) 0 (cpC t e) (none, none) (by omega) hx0 hy (by omega) (by omega) (Nat.zero_le w) (eB_cp he) rfl
        · refine V_IAE (is := 251) (text := "no such script") hT rfl xk_X6_runScript_56 xi_X6_runScript_56 xw_X6_runScript_60 (List.mem_of_getElem? (i := 15) rfl) ⟨rfl, rfl⟩ hmx hmx dX6_runScript_36 dX6_runScript_39 dX6_runScript_40 dX6_runScript_42 dX6_runScript_45 ?_
          refine ⟨⟨rfl, fun z => ?_⟩, rfl⟩
          first | exact absurd (lcN_neg.mp h_23) (Int.not_lt.mpr z.2.2.1) | exact h_33 (lcN_z.mpr ((wl_0 (k := w) z.2.2.1).mpr z.2.2.2))
    · refine V_IAE (is := 245) (text := "no such number of commands") hT rfl xk_X6_runScript_56 xi_X6_runScript_56 xw_X6_runScript_60 (List.mem_of_getElem? (i := 14) rfl) ⟨rfl, rfl⟩ hmx hmx dX6_runScript_10 dX6_runScript_13 dX6_runScript_14 dX6_runScript_16 dX6_runScript_19 ?_
      exact ⟨⟨rfl, fun z => by omega⟩, rfl⟩

theorem eB_siV {r : Nat} {t : vE} (ht : eB t) : eB (siV r t) := eB_setV ht (Nat.mod_lt _ (by decide))
theorem eB_siB {r : Nat} {t : vE} (ht : eB t) : eB (siB r t) := by
  unfold siB
  split
  · exact eB_setC (eB_siV ht) (qB_begin (ht.2.2.2.2.2.2 _ (Nat.mod_lt _ (by decide))) (by omega))
  · exact eB_siV ht
def siN (t : vE) : Nat := 10000 * stC t 3 + vsum t.1 96
theorem siN_eq (t : vE) : siN t = 10000 * vsum (fun h => if t.2.2.2.2.2.2 h 0 = 3 then 1 else 0) 3 + vsum t.1 96 := rfl
abbrev rX6_simulate : Room := { frames := 6, cells := 1, slots := 6, locals := 133 }
theorem vy_X6_simulate : vY yX6_simulate wsX6_simulate cX6_simulate 8 (some .int) 2 := ⟨⟨_, rfl⟩, by decide +kernel, by decide +kernel, by decide +kernel⟩
theorem fl_X6_simulate_31 : Cond.fieldLink RX6 31 "OrderChains" "trial" "LOrderChains$Engine;" ∈ wsX6_simulate := List.mem_of_getElem? (i := 3) rfl
theorem il_X6_simulate_X6 : ∀ w ∈ wsX60, w ∈ wsX6_simulate := fun _ h => List.mem_cons_of_mem _ (List.mem_append_left _ (List.mem_append_left _ (List.mem_append_left _ (List.mem_append_right _ h))))
theorem kc_X6_simulate_263 : Cond.constantLong RX6 263 (6364136223846793005) ∈ wsX6_simulate := List.mem_of_getElem? (i := 5) rfl
theorem kc_X6_simulate_265 : Cond.constantLong RX6 265 (1442695040888963407) ∈ wsX6_simulate := List.mem_of_getElem? (i := 6) rfl
theorem fl_X6_simulate_118 : Cond.fieldLink RX6 118 "OrderChains$Engine" "values" "[I" ∈ wsX6_simulate := List.mem_of_getElem? (i := 7) rfl
theorem il_X6_simulate_X2 : ∀ w ∈ wsX20, w ∈ wsX6_simulate := fun _ h => List.mem_cons_of_mem _ (List.mem_append_left _ (List.mem_append_left _ (List.mem_append_right _ h)))
theorem fl_X6_simulate_137 : Cond.fieldLink RX6 137 "OrderChains$Engine" "channels" "[LOrderChains$Channel;" ∈ wsX6_simulate := List.mem_of_getElem? (i := 8) rfl
theorem kc_X6_simulate_267 : Cond.constant RX6 267 (65536) ∈ wsX6_simulate := List.mem_of_getElem? (i := 9) rfl
theorem kc_X6_simulate_268 : Cond.constant RX6 268 (262144) ∈ wsX6_simulate := List.mem_of_getElem? (i := 10) rfl
theorem xk_X6_simulate_56 : Cond.classLink RX6 56 "java/lang/IllegalArgumentException" ∈ wsX6_simulate := List.mem_of_getElem? (i := 1) rfl
theorem xi_X6_simulate_56 : Cond.initialized "java/lang/IllegalArgumentException" ∈ wsX6_simulate := List.mem_of_getElem? (i := 2) rfl
theorem xw_X6_simulate_60 : ∀ w ∈ (vx_atS RX6 60 sIAE nms).filter goodWord, w ∈ wsX6_simulate := fun _ h => List.mem_cons_of_mem _ (List.mem_append_right _ h)
theorem fl_X6_simulate_27 : Cond.fieldLink RX6 27 "OrderChains" "live" "LOrderChains$Engine;" ∈ wsX6_simulate := List.mem_of_getElem? (i := 4) rfl
set_option maxHeartbeats 4000000 in
set_option maxRecDepth 100000 in
/-- simulate -/
theorem c_X6_simulate (l : Launch) (hst : l.stackTraces = false) (G : vG) (A : Nat → Nat) (ea : Nat → Nat → Nat) (F : Int64 → Int64) (hF : ∀ y, F y = y * 6364136223846793005 + 1442695040888963407) (w : Nat) (x : Int64) (n : Nat) (e t : vE) (he : eB e) (hw : w < 4294967296) : Kx l G yX6_simulate wsX6_simulate rX6_simulate [.ref (A 0), .long x, .int (nI w)] [oO A ea n, eK G (ea 14) e, eK G (ea 15) t] (fun v Y => (1 ≤ w ∧ w < 51) ∧ v = some (.int (nI (siN (siG F w x (cpC t e))))) ∧ Y = [oO A ea n, eK G (ea 14) e, eK G (ea 15) (siG F w x (cpC t e))]) (fun c Y => (c = sIAE ∧ ¬ (1 ≤ w ∧ w < 51)) ∧ Y = [oO A ea n, eK G (ea 14) e, eK G (ea 15) t]) 1 6 := by
  refine V_enterX (own := RX6) [some (.ref (A 0)), some (.long x), none, some (.int (nI w)), none, none, none, none] hst (by decide +kernel) rfl rfl (Nat.le_of_ble_eq_true rfl) rfl (fun Γ hR hT => ?_)
  have hkc : 0 ≤ 1 := Nat.zero_le _
  have hks : 0 ≤ 6 := Nat.zero_le _
  have hmx : 0 + 1 ≤ 1 ∧ 0 + 6 ≤ 6 := ⟨by decide, by decide⟩
  have LP39 : ∀ (fuel : Nat) (g : Nat) (y : Int64) (f : vE) (u : Option Value), w + 1 ≤ g + fuel → 1 ≤ w → w < 51 → g ≤ w → eB f → (siG F w x (cpC t e)) = siG F (w - g) y f → V l G (cX6_simulate, 8, wsX6_simulate, RX6, rX6_simulate) Γ 0 0 39 [some (.ref (A 0)), some (.long x), none, some (.int (nI w)), some (.long y), none, some (.int (nI g)), u] [] [oO A ea n, eK G (ea 14) e, eK G (ea 15) f] := by
    intro fuel
    induction fuel with
    | zero => intro g y f u hf hw1 hw2 hg hef hfl; exact absurd hf (by omega)
    | succ fuel ih =>
      intro g y f u hf hw1 hw2 hg hef hfl
      refine V_iload (i := 6) dX6_simulate_39 rfl ?_
      refine V_iload_n (i := 3) dX6_simulate_41 rfl rfl ?_
      refine V_icmp_ge (tgt := 142) (by omega) (by omega) dX6_simulate_42 rfl (fun h_42 => ?_) (fun h_42 => ?_)
      · refine V_sipush (v := 10000) dX6_simulate_142 (by decide) ?_
        refine V_aload_n (i := 0) dX6_simulate_145 rfl rfl ?_
        refine V_get (C := RX6) (T := TX6) (N := 9) (ci := 5) (q := 0) (ref := "OrderChains") 4 rfl il_X6_simulate_X6 rfl rfl fl_X6_simulate_31 rfl rfl dX6_simulate_146 ?_
        refine V_iconst (v := 3) dX6_simulate_149 rfl ?_
        refine V_callV (C := RX2) (q := 0) (ci := 2) (As := _) (rest := _) [2] (c_X2_channelsThatAreK l G (ea 15) f 3 (by decide) hef) vy_X2_channelsThatAre gX6_simulate_X2_channelsThatAre rfl rfl rfl rfl rfl rfl rfl ⟨rfl, rfl⟩ ⟨rfl, rfl⟩ ⟨Nat.zero_le _, Nat.zero_le _⟩ rfl dX6_simulate_150 (fun v Y hE => ?_)
        obtain ⟨rfl, rfl⟩ := hE
        refine ⟨rfl, ?_⟩
        dsimp only [vfill, List.set_cons_zero, List.set_cons_succ, Option.toList, List.cons_append, List.nil_append, Nat.add_zero]
        refine V_imul dX6_simulate_153 ?_
        refine V_same (X' := [oO A ea n, eK G (ea 14) e, eO (ea 15) f.2.2.2.2.2.1, iA G ((ea 15) 1) 96 f.1, iA G ((ea 15) 2) 96 f.2.1, iA G ((ea 15) 3) 96 f.2.2.1, iA G ((ea 15) 4) 96 f.2.2.2.1, eC G (ea 15), cX ((ea 15) 6) (f.2.2.2.2.2.2 0), cX ((ea 15) 7) (f.2.2.2.2.2.2 1), cX ((ea 15) 8) (f.2.2.2.2.2.2 2), iA G ((ea 15) 9) 96 f.2.2.2.2.1]) (opK (P := [oO A ea n, eK G (ea 14) e]) (Q := []) (a := (ea 15)) (e := f)) ?_
        refine V_aload_n (i := 0) dX6_simulate_154 rfl rfl ?_
        refine V_get (C := RX6) (T := TX6) (N := 9) (ci := 5) (q := 0) (ref := "OrderChains") 4 rfl il_X6_simulate_X6 rfl rfl fl_X6_simulate_31 rfl rfl dX6_simulate_155 ?_
        refine V_callV (C := RX2) (q := 0) (ci := 2) (As := []) (rest := _) [2, 3] (c_X2_sumOfValues l G (ea 15) f.2.2.2.2.2.1 f.1) vy_X2_sumOfValues gX6_simulate_X2_sumOfValues rfl rfl rfl rfl rfl rfl rfl ⟨rfl, rfl⟩ ⟨rfl, rfl⟩ ⟨Nat.zero_le _, Nat.zero_le _⟩ rfl dX6_simulate_158 (fun v Y hE => ?_)
        obtain ⟨rfl, rfl⟩ := hE
        refine ⟨rfl, ?_⟩
        dsimp only [vfill, List.set_cons_zero, List.set_cons_succ, Option.toList, List.cons_append, List.nil_append, Nat.add_zero]
        refine V_iadd dX6_simulate_161 ?_
        refine V_same (X' := [oO A ea n, eK G (ea 14) e, eK G (ea 15) f]) (opK (P := [oO A ea n, eK G (ea 14) e]) (Q := []) (a := (ea 15)) (e := f)).symm ?_
        refine V_iret hR dX6_simulate_162 hkc hks ?_
        rw [hfl, show w - g = 0 by omega, siG_0, siN_eq]
        exact ⟨⟨hw1, hw2⟩, rfl, rfl⟩
      · refine V_lload (i := 4) dX6_simulate_45 rfl ?_
        refine V_ldc2 (v := 6364136223846793005) dX6_simulate_47 kc_X6_simulate_263 ?_
        refine V_lmul dX6_simulate_50 ?_
        refine V_ldc2 (v := 1442695040888963407) dX6_simulate_51 kc_X6_simulate_265 ?_
        refine V_ladd dX6_simulate_54 ?_
        refine V_lstore (i := 4) dX6_simulate_55 rfl rfl ?_
        dsimp only [List.set_cons_zero, List.set_cons_succ]
        have hz9 := hF y
        generalize y * 6364136223846793005 + 1442695040888963407 = z at hz9 ⊢
        refine V_lload (i := 4) dX6_simulate_57 rfl ?_
        refine V_bipush (v := 33) dX6_simulate_59 (by decide) ?_
        refine V_lushr dX6_simulate_61 (sm_shr z) ?_
        refine V_l2i dX6_simulate_62 (sm_i z) ?_
        refine V_istore (i := 7) dX6_simulate_63 rfl rfl ?_
        dsimp only [List.set_cons_zero, List.set_cons_succ]
        have hr9 := smR_lt z
        refine V_same (X' := [oO A ea n, eK G (ea 14) e, eO (ea 15) f.2.2.2.2.2.1, iA G ((ea 15) 1) 96 f.1, iA G ((ea 15) 2) 96 f.2.1, iA G ((ea 15) 3) 96 f.2.2.1, iA G ((ea 15) 4) 96 f.2.2.2.1, eC G (ea 15), cX ((ea 15) 6) (f.2.2.2.2.2.2 0), cX ((ea 15) 7) (f.2.2.2.2.2.2 1), cX ((ea 15) 8) (f.2.2.2.2.2.2 2), iA G ((ea 15) 9) 96 f.2.2.2.2.1]) (opK (P := [oO A ea n, eK G (ea 14) e]) (Q := []) (a := (ea 15)) (e := f)) ?_
        refine V_aload_n (i := 0) dX6_simulate_65 rfl rfl ?_
        refine V_get (C := RX6) (T := TX6) (N := 9) (ci := 5) (q := 0) (ref := "OrderChains") 4 rfl il_X6_simulate_X6 rfl rfl fl_X6_simulate_31 rfl rfl dX6_simulate_66 ?_
        refine V_get (C := RX2) (T := TX2) (N := 11) (ci := 2) (q := 2) (ref := "OrderChains$Engine") 0 rfl il_X6_simulate_X2 rfl rfl fl_X6_simulate_118 rfl rfl dX6_simulate_69 ?_
        refine V_iload (i := 7) dX6_simulate_72 rfl ?_
        refine V_bipush (v := 96) dX6_simulate_74 (by decide) ?_
        refine V_irem dX6_simulate_76 (by omega) (by omega) (by omega) ?_
        refine V_iload (i := 7) dX6_simulate_77 rfl ?_
        refine V_sipush (v := 128) dX6_simulate_79 (by decide) ?_
        refine V_idiv dX6_simulate_82 (by omega) (by omega) (by omega) ?_
        refine V_bipush (v := 100) dX6_simulate_83 (by decide) ?_
        refine V_irem dX6_simulate_85 (by omega) (by omega) (by omega) ?_
        refine V_iast (q := 3) rfl (by omega) rfl dX6_simulate_86 ?_
        dsimp only [List.set_cons_zero, List.set_cons_succ]
        refine V_iload (i := 7) dX6_simulate_87 rfl ?_
        refine V_sipush (v := 16384) dX6_simulate_89 (by decide) ?_
        refine V_idiv dX6_simulate_92 (by omega) (by omega) (by omega) ?_
        refine V_iconst (v := 4) dX6_simulate_93 rfl ?_
        refine V_irem dX6_simulate_94 (by omega) (by omega) (by omega) ?_
        refine V_if_ne (tgt := 126) (by omega) dX6_simulate_95 rfl (fun h_95 => ?_) (fun h_95 => ?_)
        · have hB9 : siB (smR z) f = (siV (smR z) f) := by
            unfold siB
            rw [if_neg h_95]
          refine V_same (X' := [oO A ea n, eK G (ea 14) e, eK G (ea 15) (siV (smR z) f)]) (opK (P := [oO A ea n, eK G (ea 14) e]) (Q := []) (a := (ea 15)) (e := (siV (smR z) f))).symm ?_
          rw [← hB9]
          refine V_aload_n (i := 0) dX6_simulate_126 rfl rfl ?_
          refine V_get (C := RX6) (T := TX6) (N := 9) (ci := 5) (q := 0) (ref := "OrderChains") 4 rfl il_X6_simulate_X6 rfl rfl fl_X6_simulate_31 rfl rfl dX6_simulate_127 ?_
          refine V_bipush (v := 8) dX6_simulate_130 (by decide) ?_
          refine V_callV (C := RX2) (q := 0) (ci := 2) (As := _) (rest := []) [2] (c_X2_letTicksGoBy l G (ea 15) (siB (smR z) f) 8 (by decide) (eB_siB hef)) vy_X2_letTicksGoBy gX6_simulate_X2_letTicksGoBy rfl rfl rfl rfl rfl rfl rfl ⟨rfl, rfl⟩ ⟨rfl, rfl⟩ ⟨Nat.zero_le _, Nat.zero_le _⟩ rfl dX6_simulate_132 (fun v Y hE => ?_)
          obtain ⟨rfl, rfl⟩ := hE
          refine ⟨rfl, ?_⟩
          dsimp only [vfill, List.set_cons_zero, List.set_cons_succ, Option.toList, List.cons_append, List.nil_append, Nat.add_zero]
          refine V_pop dX6_simulate_135 rfl ?_
          refine V_iinc dX6_simulate_136 rfl (nI_1 _) rfl rfl ?_
          dsimp only [List.set_cons_zero, List.set_cons_succ]
          refine V_goto (tgt := 39) dX6_simulate_139 rfl ?_
          exact ih (g + 1) z (runC 8 (siB (smR z) f)).2 _ (by omega) hw1 hw2 (by omega) (eB_run _ _ (eB_siB hef)) (by rw [hfl, show w - g = (w - (g + 1)) + 1 by omega, siG_s, hz9])
        · refine V_aload_n (i := 0) dX6_simulate_98 rfl rfl ?_
          refine V_get (C := RX6) (T := TX6) (N := 9) (ci := 5) (q := 0) (ref := "OrderChains") 4 rfl il_X6_simulate_X6 rfl rfl fl_X6_simulate_31 rfl rfl dX6_simulate_99 ?_
          refine V_get (C := RX2) (T := TX2) (N := 11) (ci := 2) (q := 2) (ref := "OrderChains$Engine") 4 rfl il_X6_simulate_X2 rfl rfl fl_X6_simulate_137 rfl rfl dX6_simulate_102 ?_
          refine V_iload (i := 7) dX6_simulate_105 rfl ?_
          refine V_ldc_w (v := 65536) dX6_simulate_107 kc_X6_simulate_267 ?_
          refine V_idiv dX6_simulate_110 (by omega) (by omega) (by omega) ?_
          refine V_iconst (v := 3) dX6_simulate_111 rfl ?_
          refine V_irem dX6_simulate_112 (by omega) (by omega) (by omega) ?_
          rcases (show (smR z) / 65536 % 3 = 0 ∨ (smR z) / 65536 % 3 = 1 ∨ (smR z) / 65536 % 3 = 2 by omega) with e65 | e65 | e65
          · refine V_top (b := 0) e65 ?_
            refine V_aaldC (q := 7) rfl (by omega) rfl dX6_simulate_113 ?_
            refine V_iload (i := 7) dX6_simulate_114 rfl ?_
            refine V_ldc_w (v := 262144) dX6_simulate_116 kc_X6_simulate_268 ?_
            refine V_idiv dX6_simulate_119 (by omega) (by omega) (by omega) ?_
            refine V_bipush (v := 91) dX6_simulate_120 (by decide) ?_
            refine V_irem dX6_simulate_122 (by omega) (by omega) (by omega) ?_
            obtain ⟨p9, hp9⟩ : ∃ p, p = smR z / 262144 % 91 := ⟨_, rfl⟩
            rw [← hp9]
            refine V_callV (C := RX1) (q := 0) (ci := 1) (As := _) (rest := []) [8] (c_X1_beginAt l G (ea 15 6) p9 (f.2.2.2.2.2.2 0)) vy_X1_beginAt gX6_simulate_X1_beginAt rfl rfl rfl rfl rfl rfl rfl ⟨rfl, rfl⟩ ⟨rfl, rfl⟩ ⟨Nat.zero_le _, Nat.zero_le _⟩ rfl dX6_simulate_123 (fun v Y hE => ?_)
            obtain ⟨rfl, rfl⟩ := hE
            refine ⟨rfl, ?_⟩
            dsimp only [vfill, List.set_cons_zero, List.set_cons_succ, Option.toList, List.cons_append, List.nil_append, Nat.add_zero]
            have hB9 : siB (smR z) f = (setC (siV (smR z) f) 0 (qBegin p9 (f.2.2.2.2.2.2 0))) := by
              unfold siB
              rw [if_pos h_95, e65, hp9]
            refine V_same (X' := [oO A ea n, eK G (ea 14) e, eK G (ea 15) (setC (siV (smR z) f) 0 (qBegin p9 (f.2.2.2.2.2.2 0)))]) (opK (P := [oO A ea n, eK G (ea 14) e]) (Q := []) (a := (ea 15)) (e := (setC (siV (smR z) f) 0 (qBegin p9 (f.2.2.2.2.2.2 0))))).symm ?_
            rw [← hB9]
            refine V_aload_n (i := 0) dX6_simulate_126 rfl rfl ?_
            refine V_get (C := RX6) (T := TX6) (N := 9) (ci := 5) (q := 0) (ref := "OrderChains") 4 rfl il_X6_simulate_X6 rfl rfl fl_X6_simulate_31 rfl rfl dX6_simulate_127 ?_
            refine V_bipush (v := 8) dX6_simulate_130 (by decide) ?_
            refine V_callV (C := RX2) (q := 0) (ci := 2) (As := _) (rest := []) [2] (c_X2_letTicksGoBy l G (ea 15) (siB (smR z) f) 8 (by decide) (eB_siB hef)) vy_X2_letTicksGoBy gX6_simulate_X2_letTicksGoBy rfl rfl rfl rfl rfl rfl rfl ⟨rfl, rfl⟩ ⟨rfl, rfl⟩ ⟨Nat.zero_le _, Nat.zero_le _⟩ rfl dX6_simulate_132 (fun v Y hE => ?_)
            obtain ⟨rfl, rfl⟩ := hE
            refine ⟨rfl, ?_⟩
            dsimp only [vfill, List.set_cons_zero, List.set_cons_succ, Option.toList, List.cons_append, List.nil_append, Nat.add_zero]
            refine V_pop dX6_simulate_135 rfl ?_
            refine V_iinc dX6_simulate_136 rfl (nI_1 _) rfl rfl ?_
            dsimp only [List.set_cons_zero, List.set_cons_succ]
            refine V_goto (tgt := 39) dX6_simulate_139 rfl ?_
            exact ih (g + 1) z (runC 8 (siB (smR z) f)).2 _ (by omega) hw1 hw2 (by omega) (eB_run _ _ (eB_siB hef)) (by rw [hfl, show w - g = (w - (g + 1)) + 1 by omega, siG_s, hz9])
          · refine V_top (b := 1) e65 ?_
            refine V_aaldC (q := 7) rfl (by omega) rfl dX6_simulate_113 ?_
            refine V_iload (i := 7) dX6_simulate_114 rfl ?_
            refine V_ldc_w (v := 262144) dX6_simulate_116 kc_X6_simulate_268 ?_
            refine V_idiv dX6_simulate_119 (by omega) (by omega) (by omega) ?_
            refine V_bipush (v := 91) dX6_simulate_120 (by decide) ?_
            refine V_irem dX6_simulate_122 (by omega) (by omega) (by omega) ?_
            obtain ⟨p9, hp9⟩ : ∃ p, p = smR z / 262144 % 91 := ⟨_, rfl⟩
            rw [← hp9]
            refine V_callV (C := RX1) (q := 0) (ci := 1) (As := _) (rest := []) [9] (c_X1_beginAt l G (ea 15 7) p9 (f.2.2.2.2.2.2 1)) vy_X1_beginAt gX6_simulate_X1_beginAt rfl rfl rfl rfl rfl rfl rfl ⟨rfl, rfl⟩ ⟨rfl, rfl⟩ ⟨Nat.zero_le _, Nat.zero_le _⟩ rfl dX6_simulate_123 (fun v Y hE => ?_)
            obtain ⟨rfl, rfl⟩ := hE
            refine ⟨rfl, ?_⟩
            dsimp only [vfill, List.set_cons_zero, List.set_cons_succ, Option.toList, List.cons_append, List.nil_append, Nat.add_zero]
            have hB9 : siB (smR z) f = (setC (siV (smR z) f) 1 (qBegin p9 (f.2.2.2.2.2.2 1))) := by
              unfold siB
              rw [if_pos h_95, e65, hp9]
            refine V_same (X' := [oO A ea n, eK G (ea 14) e, eK G (ea 15) (setC (siV (smR z) f) 1 (qBegin p9 (f.2.2.2.2.2.2 1)))]) (opK (P := [oO A ea n, eK G (ea 14) e]) (Q := []) (a := (ea 15)) (e := (setC (siV (smR z) f) 1 (qBegin p9 (f.2.2.2.2.2.2 1))))).symm ?_
            rw [← hB9]
            refine V_aload_n (i := 0) dX6_simulate_126 rfl rfl ?_
            refine V_get (C := RX6) (T := TX6) (N := 9) (ci := 5) (q := 0) (ref := "OrderChains") 4 rfl il_X6_simulate_X6 rfl rfl fl_X6_simulate_31 rfl rfl dX6_simulate_127 ?_
            refine V_bipush (v := 8) dX6_simulate_130 (by decide) ?_
            refine V_callV (C := RX2) (q := 0) (ci := 2) (As := _) (rest := []) [2] (c_X2_letTicksGoBy l G (ea 15) (siB (smR z) f) 8 (by decide) (eB_siB hef)) vy_X2_letTicksGoBy gX6_simulate_X2_letTicksGoBy rfl rfl rfl rfl rfl rfl rfl ⟨rfl, rfl⟩ ⟨rfl, rfl⟩ ⟨Nat.zero_le _, Nat.zero_le _⟩ rfl dX6_simulate_132 (fun v Y hE => ?_)
            obtain ⟨rfl, rfl⟩ := hE
            refine ⟨rfl, ?_⟩
            dsimp only [vfill, List.set_cons_zero, List.set_cons_succ, Option.toList, List.cons_append, List.nil_append, Nat.add_zero]
            refine V_pop dX6_simulate_135 rfl ?_
            refine V_iinc dX6_simulate_136 rfl (nI_1 _) rfl rfl ?_
            dsimp only [List.set_cons_zero, List.set_cons_succ]
            refine V_goto (tgt := 39) dX6_simulate_139 rfl ?_
            exact ih (g + 1) z (runC 8 (siB (smR z) f)).2 _ (by omega) hw1 hw2 (by omega) (eB_run _ _ (eB_siB hef)) (by rw [hfl, show w - g = (w - (g + 1)) + 1 by omega, siG_s, hz9])
          · refine V_top (b := 2) e65 ?_
            refine V_aaldC (q := 7) rfl (by omega) rfl dX6_simulate_113 ?_
            refine V_iload (i := 7) dX6_simulate_114 rfl ?_
            refine V_ldc_w (v := 262144) dX6_simulate_116 kc_X6_simulate_268 ?_
            refine V_idiv dX6_simulate_119 (by omega) (by omega) (by omega) ?_
            refine V_bipush (v := 91) dX6_simulate_120 (by decide) ?_
            refine V_irem dX6_simulate_122 (by omega) (by omega) (by omega) ?_
            obtain ⟨p9, hp9⟩ : ∃ p, p = smR z / 262144 % 91 := ⟨_, rfl⟩
            rw [← hp9]
            refine V_callV (C := RX1) (q := 0) (ci := 1) (As := _) (rest := []) [10] (c_X1_beginAt l G (ea 15 8) p9 (f.2.2.2.2.2.2 2)) vy_X1_beginAt gX6_simulate_X1_beginAt rfl rfl rfl rfl rfl rfl rfl ⟨rfl, rfl⟩ ⟨rfl, rfl⟩ ⟨Nat.zero_le _, Nat.zero_le _⟩ rfl dX6_simulate_123 (fun v Y hE => ?_)
            obtain ⟨rfl, rfl⟩ := hE
            refine ⟨rfl, ?_⟩
            dsimp only [vfill, List.set_cons_zero, List.set_cons_succ, Option.toList, List.cons_append, List.nil_append, Nat.add_zero]
            have hB9 : siB (smR z) f = (setC (siV (smR z) f) 2 (qBegin p9 (f.2.2.2.2.2.2 2))) := by
              unfold siB
              rw [if_pos h_95, e65, hp9]
            refine V_same (X' := [oO A ea n, eK G (ea 14) e, eK G (ea 15) (setC (siV (smR z) f) 2 (qBegin p9 (f.2.2.2.2.2.2 2)))]) (opK (P := [oO A ea n, eK G (ea 14) e]) (Q := []) (a := (ea 15)) (e := (setC (siV (smR z) f) 2 (qBegin p9 (f.2.2.2.2.2.2 2))))).symm ?_
            rw [← hB9]
            refine V_aload_n (i := 0) dX6_simulate_126 rfl rfl ?_
            refine V_get (C := RX6) (T := TX6) (N := 9) (ci := 5) (q := 0) (ref := "OrderChains") 4 rfl il_X6_simulate_X6 rfl rfl fl_X6_simulate_31 rfl rfl dX6_simulate_127 ?_
            refine V_bipush (v := 8) dX6_simulate_130 (by decide) ?_
            refine V_callV (C := RX2) (q := 0) (ci := 2) (As := _) (rest := []) [2] (c_X2_letTicksGoBy l G (ea 15) (siB (smR z) f) 8 (by decide) (eB_siB hef)) vy_X2_letTicksGoBy gX6_simulate_X2_letTicksGoBy rfl rfl rfl rfl rfl rfl rfl ⟨rfl, rfl⟩ ⟨rfl, rfl⟩ ⟨Nat.zero_le _, Nat.zero_le _⟩ rfl dX6_simulate_132 (fun v Y hE => ?_)
            obtain ⟨rfl, rfl⟩ := hE
            refine ⟨rfl, ?_⟩
            dsimp only [vfill, List.set_cons_zero, List.set_cons_succ, Option.toList, List.cons_append, List.nil_append, Nat.add_zero]
            refine V_pop dX6_simulate_135 rfl ?_
            refine V_iinc dX6_simulate_136 rfl (nI_1 _) rfl rfl ?_
            dsimp only [List.set_cons_zero, List.set_cons_succ]
            refine V_goto (tgt := 39) dX6_simulate_139 rfl ?_
            exact ih (g + 1) z (runC 8 (siB (smR z) f)).2 _ (by omega) hw1 hw2 (by omega) (eB_run _ _ (eB_siB hef)) (by rw [hfl, show w - g = (w - (g + 1)) + 1 by omega, siG_s, hz9])
  refine V_iload_n (i := 3) dX6_simulate_0 rfl rfl ?_
  refine V_iconst (v := 1) dX6_simulate_1 rfl ?_
  refine V_icmp_ltA (tgt := 11) (by omega) (by omega) dX6_simulate_2 rfl (fun h_2 => ?_) (fun h_2 => ?_)
  · refine V_IAEW (is := 261) (text := "no such number of rounds") hT rfl xk_X6_simulate_56 xi_X6_simulate_56 xw_X6_simulate_60 (List.mem_of_getElem? (i := 16) rfl) ⟨rfl, rfl⟩ hmx hmx dX6_simulate_11 dX6_simulate_14 dX6_simulate_15 dX6_simulate_18 dX6_simulate_21 ?_
    exact ⟨⟨rfl, fun z => by omega⟩, rfl⟩
  · refine V_iload_n (i := 3) dX6_simulate_5 rfl rfl ?_
    refine V_bipush (v := 50) dX6_simulate_6 (by decide) ?_
    refine V_icmp_leA (tgt := 22) (by omega) (by omega) dX6_simulate_8 rfl (fun h_8 => ?_) (fun h_8 => ?_)
    · refine V_aload_n (i := 0) dX6_simulate_22 rfl rfl ?_
      refine V_get (C := RX6) (T := TX6) (N := 9) (ci := 5) (q := 0) (ref := "OrderChains") 4 rfl il_X6_simulate_X6 rfl rfl fl_X6_simulate_31 rfl rfl dX6_simulate_23 ?_
      refine V_aload_n (i := 0) dX6_simulate_26 rfl rfl ?_
      refine V_get (C := RX6) (T := TX6) (N := 9) (ci := 5) (q := 0) (ref := "OrderChains") 3 rfl il_X6_simulate_X6 rfl rfl fl_X6_simulate_27 rfl rfl dX6_simulate_27 ?_
      refine V_callV (C := RX2) (q := 0) (ci := 2) (As := _) (rest := []) [2, 1] (c_X2_copyFromK l G (ea 15) (ea 14) t e) vy_X2_copyFrom gX6_simulate_X2_copyFrom rfl rfl rfl rfl rfl rfl rfl ⟨rfl, rfl⟩ ⟨rfl, rfl⟩ ⟨Nat.zero_le _, Nat.zero_le _⟩ rfl dX6_simulate_30 (fun v Y hE => ?_)
      obtain ⟨rfl, rfl⟩ := hE
      refine ⟨rfl, ?_⟩
      dsimp only [vfill, List.set_cons_zero, List.set_cons_succ, Option.toList, List.cons_append, List.nil_append, Nat.add_zero]
      refine V_lload_n (i := 1) dX6_simulate_33 rfl rfl ?_
      refine V_lstore (i := 4) dX6_simulate_34 rfl rfl ?_
      dsimp only [List.set_cons_zero, List.set_cons_succ]
      refine V_iconst (v := 0) dX6_simulate_36 rfl ?_
      refine V_istore (i := 6) dX6_simulate_37 rfl rfl ?_
      dsimp only [List.set_cons_zero, List.set_cons_succ]
      exact LP39 (w + 1) 0 x (cpC t e) none (by omega) (by omega) (by omega) (Nat.zero_le w) (eB_cp he) rfl
    · refine V_IAEW (is := 261) (text := "no such number of rounds") hT rfl xk_X6_simulate_56 xi_X6_simulate_56 xw_X6_simulate_60 (List.mem_of_getElem? (i := 16) rfl) ⟨rfl, rfl⟩ hmx hmx dX6_simulate_11 dX6_simulate_14 dX6_simulate_15 dX6_simulate_18 dX6_simulate_21 ?_
      exact ⟨⟨rfl, fun z => by omega⟩, rfl⟩

end OC5
