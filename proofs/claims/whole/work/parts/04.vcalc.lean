section VC
/-- the classes of the arrays: int, boolean, Channel, Engine, long -/
abbrev vG : Type := va_G × (Nat → ClassId)
def vT (G : vG) : List (ClassId × FieldType) := [(G.2 0, .int), (G.2 1, .boolean), (G.2 2, .object RX1), (G.2 3, .object RX2), (G.2 4, .long)]
/-- a method: its bytes, its locals, its words, its class, its room -/
abbrev vM : Type := ByteArray × Nat × List Cond × String × Room
abbrev vF : Type := Program × Env × State × MethodId × Array Value × List Frame × Method × Code × (State → Prop) × (Nat → Prop)
def vN (U : State) : Prop := va_Nw (.methodLinkNest RX6 19 yX5_init RX6) U ∧ va_Nw (.methodLinkNest RX6 51 yX0_init RX6) U ∧ va_Nw (.methodLinkNest RX2 49 yX1_init RX6) U ∧ va_Nw (.methodLinkNest RX4 32 yX6_isCell RX6) U ∧ va_Nw (.methodLinkNest RX4 40 yX6_isChannel RX6) U ∧ va_Nw (.methodLinkNest RX5 49 yX6_isCell RX6) U ∧ va_Nw (.methodLinkNest RX5 74 yX6_isChannel RX6) U ∧ va_AO RX1 U ∧ va_AO RX2 U
theorem vN.warm {s U : State} (hW : s.WarmedH U.vm) (h : vN s) : vN U := by
  obtain ⟨h1, h2, h3, h4, h5, h6, h7, h8, h9⟩ := h
  exact ⟨h1.warmM hW, h2.warmM hW, h3.warmM hW, h4.warmM hW, h5.warmM hW, h6.warmM hW, h7.warmM hW, h8.moved hW.alike, h9.moved hW.alike⟩
theorem vN.same {u U : State} (h : u.vm = U.vm) (hn : vN u) : vN U := by
  obtain ⟨h1, h2, h3, h4, h5, h6, h7, h8, h9⟩ := hn
  exact ⟨h1.same rfl h, h2.same rfl h, h3.same rfl h, h4.same rfl h, h5.same rfl h, h6.same rfl h, h7.same rfl h, h8.moved (by rw [h]; exact Vm.Alike.refl _), h9.moved (by rw [h]; exact Vm.Alike.refl _)⟩
def vK (G : vG) (U : State) : Prop := va_K G.1 vwCl (vT G) U ∧ vN U
/-- the locals: what the listed places hold -/
def vL (ls : Array Slot) (nL : Nat) (L : List (Option Value)) : Prop := ls.size = nL ∧ lv_wf ls ∧ ∀ (i : Nat) (v : Value), L[i]? = some (some v) → ls[i]? = some (.val v)
def vOk (l : Launch) (G : vG) (M : vM) (Γ : vF) : Prop :=
  Γ.1.tables.exec = Jvm.exec ∧ Γ.2.2.2.2.2.2.2.1.code = M.1 ∧ Γ.2.2.2.2.2.2.2.1.maxLocals = M.2.1 ∧ Γ.2.2.1.vm.findClass M.2.2.2.1 = some Γ.2.2.2.1.cls ∧ (∀ w ∈ M.2.2.1, w.before Γ.2.2.2.2.1 Γ.2.2.1 = true) ∧ vK G Γ.2.2.1 ∧ (∀ q, Γ.2.2.1.heap.size ≤ q → Γ.2.2.2.2.2.2.2.2.2 q) ∧ Γ.2.2.2.2.2.2.1.locks = false
def V (l : Launch) (G : vG) (M : vM) (Γ : vF) (k n pc : Nat) (L : List (Option Value)) (st : List Value) (X : List va_W) : Prop :=
  vOk l G M Γ → ∀ (H : Heap) (locs : List Loc) (ls : Array Slot), vL ls M.2.1 L → va_P G.1 vwCl X.flatten H → va_D Γ.2.2.2.2.2.2.2.2.2 X.flatten → va_S Γ.2.2.2.2.2.2.2.2.2 Γ.2.2.1.heap H locs →
    W Γ.1 l Γ.2.1 M.2.2.2.2 Γ.2.2.1 Γ.2.2.2.1 Γ.2.2.2.2.1 Γ.2.2.2.2.2.1 Γ.2.2.2.2.2.2.1 Γ.2.2.2.2.2.2.2.1 H locs k n Γ.2.2.2.2.2.2.2.2.1 (F0 Γ.2.2.2.1 pc ls st)
-- numbers
theorem nI_mod (a : Nat) : nI (a % 4294967296) = nI a := by
  apply Int32.toBitVec_inj.mp
  show BitVec.ofNat 32 _ = BitVec.ofNat 32 _
  apply BitVec.eq_of_toNat_eq
  simp
theorem nI_eqN {a b : Nat} (ha : a < 4294967296) (hb : b < 4294967296) : nI a = nI b ↔ a = b := by
  refine ⟨fun h => ?_, fun h => by rw [h]⟩
  have h1 : (nI a).toBitVec.toNat = (nI b).toBitVec.toNat := by rw [h]
  have e1 : (nI a).toBitVec.toNat = a % 4294967296 := by show (BitVec.ofNat 32 a).toNat = _; simp
  have e2 : (nI b).toBitVec.toNat = b % 4294967296 := by show (BitVec.ofNat 32 b).toNat = _; simp
  rw [e1, e2, Nat.mod_eq_of_lt ha, Nat.mod_eq_of_lt hb] at h1
  exact h1
theorem nI_ofInt (n : Nat) : Int32.ofInt (n : Int) = nI n := by
  apply Int32.toBitVec_inj.mp
  apply BitVec.eq_of_toInt_eq
  show (BitVec.ofInt 32 n).toInt = (BitVec.ofNat 32 n).toInt
  rw [BitVec.ofInt_natCast]
/-- every int is some number below 2^32 -/
theorem nI_all (x : Int32) : ∃ n : Nat, n < 4294967296 ∧ x = nI n := by
  refine ⟨x.toBitVec.toNat, x.toBitVec.isLt, ?_⟩
  apply Int32.toBitVec_inj.mp
  show x.toBitVec = BitVec.ofNat 32 _
  simp
theorem nI_big {a : Nat} (h : 2147483648 ≤ a) (h2 : a < 4294967296) : (nI a).toInt = (a : Int) - 4294967296 := by
  show (BitVec.ofNat 32 a).toInt = _
  rw [BitVec.toInt_eq_toNat_cond]
  simp only [BitVec.toNat_ofNat]
  rw [Nat.mod_eq_of_lt (by omega)]
  split <;> omega
theorem nI_sm {a : Nat} (h : a < 2147483648) : (nI a).toInt = (a : Int) := nI_toInt (by omega)
theorem i32_lt (a b : Int32) : a < b ↔ a.toInt < b.toInt := Int32.lt_iff_toInt_lt
theorem i32_le (a b : Int32) : a ≤ b ↔ a.toInt ≤ b.toInt := Int32.le_iff_toInt_le
/-- signed comparison with a small number -/
theorem nI_ltB {a b : Nat} (ha : a < 4294967296) (hb : b < 2147483648) : nI a < nI b ↔ (a < b ∨ 2147483648 ≤ a) := by
  rw [i32_lt, nI_sm hb]
  by_cases h : a < 2147483648
  · rw [nI_sm h]; omega
  · rw [nI_big (by omega) ha]; omega
theorem nI_leB {a b : Nat} (ha : a < 4294967296) (hb : b < 2147483648) : nI a ≤ nI b ↔ (a ≤ b ∨ 2147483648 ≤ a) := by
  rw [i32_le, nI_sm hb]
  by_cases h : a < 2147483648
  · rw [nI_sm h]; omega
  · rw [nI_big (by omega) ha]; omega
theorem nI_gtB {a b : Nat} (ha : a < 4294967296) (hb : b < 2147483648) : nI b < nI a ↔ (b < a ∧ a < 2147483648) := by
  rw [i32_lt, nI_sm hb]
  by_cases h : a < 2147483648
  · rw [nI_sm h]; omega
  · rw [nI_big (by omega) ha]; omega
theorem nI_geB {a b : Nat} (ha : a < 4294967296) (hb : b < 2147483648) : nI b ≤ nI a ↔ (b ≤ a ∧ a < 2147483648) := by
  rw [i32_le, nI_sm hb]
  by_cases h : a < 2147483648
  · rw [nI_sm h]; omega
  · rw [nI_big (by omega) ha]; omega
theorem nI_ltS {a b : Nat} (ha : a < 2147483648) (hb : b < 2147483648) : nI a < nI b ↔ a < b := by rw [i32_lt, nI_sm ha, nI_sm hb]; omega
theorem nI_leS {a b : Nat} (ha : a < 2147483648) (hb : b < 2147483648) : nI a ≤ nI b ↔ a ≤ b := by rw [i32_le, nI_sm ha, nI_sm hb]; omega
theorem nI_ne0N {a : Nat} (h : a < 4294967296) (h0 : a ≠ 0) : ¬ nI a = 0 := fun e => h0 ((nI_eqN h (by omega)).mp (e.trans nI_0.symm))
theorem nI_subN {a b : Nat} (h : b ≤ a) : nI a - nI b = nI (a - b) := pk_sub h
/-- a difference that may be negative: with 2^32 more -/
theorem nI_subW {a b : Nat} (h : b ≤ 4294967296) : nI a - nI b = nI (a + (4294967296 - b)) := by
  have e : nI (a + 4294967296) = nI a := by rw [← nI_mod, Nat.add_mod_right, nI_mod]
  rw [← e, nI_subN (by omega), show a + 4294967296 - b = a + (4294967296 - b) by omega]
-- arrays of numbers
def nA (g : Nat → Nat) : Nat → Int32 := fun k => nI (g k)
theorem nA_up (g : Nat → Nat) (i v : Nat) : upd (nA g) i (nI v) = nA (va_up g i v) := by
  funext j
  show (if j = i then nI v else nI (g j)) = nI (if j = i then v else g j)
  split <;> rfl
def rA (g : Nat → Nat) : Nat → Option Nat := fun k => some (g k)
theorem nA_cpy (f g : Nat → Nat) (n : Nat) : va_cpy (nA f) (nA g) 0 0 n = nA (fun k => if k < n then f k else g k) := by
  funext j
  show (if 0 ≤ j ∧ j < 0 + n then nI (f (0 + (j - 0))) else nI (g j)) = nI (if j < n then f j else g j)
  by_cases h : j < n
  · rw [if_pos (by omega), if_pos h]; simp
  · rw [if_neg (by omega), if_neg h]
theorem nI_inA {i n : Nat} (h : i < n) (hn : n < 2147483648) : vp_in (nI i) n := vp_in_nI h (by omega)
theorem nI_cl {i : Nat} (h : i < 2147483648) : (nI i).toNatClampNeg = i := nI_clamp (by omega)
-- locals
theorem vL_at {ls : Array Slot} {nL : Nat} {L : List (Option Value)} (h : vL ls nL L) {i : Nat} {v : Value} (hk : L[i]? = some (some v)) : ls[i]? = some (.val v) := h.2.2 i v hk
def vLs (L : List (Option Value)) : List (Nat × Value) := (List.range L.length).filterMap (fun i => (L[i]?.join).map (fun v => (i, v)))
theorem vLs_mem {L : List (Option Value)} {i : Nat} {v : Value} : (i, v) ∈ vLs L ↔ L[i]? = some (some v) := by
  unfold vLs
  rw [List.mem_filterMap]
  constructor
  · rintro ⟨j, hj, h⟩
    cases hx : L[j]? with
    | none => rw [hx] at h; cases h
    | some o =>
      cases o with
      | none => rw [hx] at h; cases h
      | some w =>
        rw [hx] at h
        simp only [Option.join_some, Option.map_some, Option.some.injEq, Prod.mk.injEq] at h
        obtain ⟨rfl, rfl⟩ := h
        exact hx
  · intro h
    have hl := (List.getElem?_eq_some_iff.mp h).1
    exact ⟨i, List.mem_range.mpr hl, by rw [h]; rfl⟩
theorem vL_has {ls : Array Slot} {nL : Nat} {L : List (Option Value)} (h : vL ls nL L) : lv_has ls nL (vLs L) := ⟨h.1, h.2.1, fun q hq => h.2.2 q.1 q.2 (vLs_mem.mp hq)⟩
theorem vL_of {ls : Array Slot} {nL : Nat} {L : List (Option Value)} {l : List (Nat × Value)} (h : lv_has ls nL l) (hm : ∀ (i : Nat) (v : Value), L[i]? = some (some v) → (i, v) ∈ l) : vL ls nL L := ⟨h.1, h.2.1, fun i v hv => h.2.2 (i, v) (hm i v hv)⟩
/-- the place before i holds no long -/
def vC (L : List (Option Value)) : Nat → Bool
  | 0 => true
  | i + 1 => match L[i]? with
    | some (some v) => v.category == 1
    | _ => true
theorem vC_of {L : List (Option Value)} {i j : Nat} {v : Value} (h : vC L i = true) (hv : L[j]? = some (some v)) (hj : j + 1 = i) : v.category ≠ 2 := by
  subst hj
  simp only [vC, hv] at h
  intro e
  rw [e] at h
  cases h
theorem vL_st {ls : Array Slot} {nL i : Nat} {L : List (Option Value)} {w : Value} (hc : vC L i = true) (h : lv_has ls nL ((i, w) :: (vLs L).filter (fun q => !(q.1 == i) && !(q.1 + 1 == i && q.2.category == 2)))) : vL ls nL (L.set i (some w)) := by
  refine vL_of h (fun j v hv => ?_)
  by_cases hji : i = j
  · subst hji
    rw [List.getElem?_set] at hv
    split at hv
    · split at hv
      · cases hv; exact List.mem_cons_self
      · cases hv
    · rename_i h9; exact absurd rfl h9
  · rw [List.getElem?_set_ne hji] at hv
    refine List.mem_cons_of_mem _ (List.mem_filter.mpr ⟨vLs_mem.mpr hv, ?_⟩)
    have h1 : (j == i) = false := by simp; omega
    by_cases h2 : j + 1 = i
    · have h3 := vC_of hc hv h2
      simp [h1, h3]
    · have h4 : (j + 1 == i) = false := by simp; omega
      simp [h1, h4]
theorem vL_st2 {ls : Array Slot} {nL i : Nat} {L : List (Option Value)} {w : Value} (hc : vC L i = true) (h : lv_has ls nL ((i, w) :: (vLs L).filter (fun q => !(q.1 == i) && (!(q.1 == i + 1) && !(q.1 + 1 == i && q.2.category == 2))))) : vL ls nL ((L.set i (some w)).set (i + 1) none) := by
  refine vL_of h (fun j v hv => ?_)
  by_cases hj1 : i + 1 = j
  · subst hj1
    rw [List.getElem?_set] at hv
    split at hv
    · split at hv
      · cases hv
      · cases hv
    · rename_i h9; exact absurd rfl h9
  · rw [List.getElem?_set_ne hj1] at hv
    by_cases hji : i = j
    · subst hji
      rw [List.getElem?_set] at hv
      split at hv
      · split at hv
        · cases hv; exact List.mem_cons_self
        · cases hv
      · rename_i h9; exact absurd rfl h9
    · rw [List.getElem?_set_ne hji] at hv
      refine List.mem_cons_of_mem _ (List.mem_filter.mpr ⟨vLs_mem.mpr hv, ?_⟩)
      have h1 : (j == i) = false := by simp; omega
      have h0 : (j == i + 1) = false := by simp; omega
      by_cases h2 : j + 1 = i
      · have h3 := vC_of hc hv h2
        simp [h1, h0, h3]
      · have h4 : (j + 1 == i) = false := by simp; omega
        simp [h1, h0, h4]
-- worlds as lists of items
theorem vX_get {X : List va_W} {q : Nat} {w : va_W} (h : X[q]? = some w) : X.flatten = (X.take q).flatten ++ (w ++ (X.drop (q + 1)).flatten) := by
  have hl := (List.getElem?_eq_some_iff.mp h).1
  have h2 := (List.getElem?_eq_some_iff.mp h).2
  conv => lhs; rw [← List.take_append_drop q X]
  rw [List.flatten_append, List.drop_eq_getElem_cons hl, h2, List.flatten_cons]
theorem vX_pos {X : List va_W} {q a : Nat} {e : va_E} (h : X[q]? = some [(a, e)]) : ∃ p : Nat, X.flatten[p]? = some (a, e) ∧ ∀ e' : va_E, X.flatten.set p (a, e') = (X.set q [(a, e')]).flatten := by
  have hl := (List.getElem?_eq_some_iff.mp h).1
  have e1 := vX_get h
  refine ⟨(X.take q).flatten.length, ?_, fun e' => ?_⟩
  · rw [e1, List.getElem?_append_right (Nat.le_refl _), Nat.sub_self]; rfl
  · have h3 : (X.set q [(a, e')])[q]? = some [(a, e')] := List.getElem?_set_self hl
    rw [vX_get h3, e1, List.set_append_right _ _ (Nat.le_refl _), Nat.sub_self, List.take_set_of_le (Nat.le_refl _), List.drop_set_of_lt (Nat.lt_succ_self _)]
    rfl
variable {l : Launch} {G : vG} {M : vM} {Γ : vF} {k n pc : Nat} {L : List (Option Value)} {st : List Value} {X : List va_W}

theorem V_iconst {i : Int} {v : Nat} (d : decode M.1 pc = .ok (.iconst i, 1)) (hv : i = (v : Int))
    (kk : V l G M Γ k n (pc + 1) L (.int (nI v) :: st) X) : V l G M Γ k n pc L st X := by
  intro ok H locs ls hl hP hD hS
  obtain ⟨hx, hb, hml, hown, hts, ⟨hK, hNst⟩, hA, hlk⟩ := id ok
  exact lv_iconst hx hb d (by rw [hv]; exact nI_ofInt v) (kk ok _ _ _ hl hP hD hS)
theorem V_iconstG {i : Int} {v : Nat} (d : decode M.1 pc = .ok (.iconst i, 1)) (hv : Int32.ofInt i = nI v)
    (kk : V l G M Γ k n (pc + 1) L (.int (nI v) :: st) X) : V l G M Γ k n pc L st X := by
  intro ok H locs ls hl hP hD hS
  obtain ⟨hx, hb, hml, hown, hts, ⟨hK, hNst⟩, hA, hlk⟩ := id ok
  exact lv_iconst hx hb d hv (kk ok _ _ _ hl hP hD hS)
theorem V_bipush {i : Int} {v : Nat} (d : decode M.1 pc = .ok (.bipush i, 2)) (hv : (Int8.ofInt i).toInt32 = nI v)
    (kk : V l G M Γ k n (pc + 2) L (.int (nI v) :: st) X) : V l G M Γ k n pc L st X := by
  intro ok H locs ls hl hP hD hS
  obtain ⟨hx, hb, hml, hown, hts, ⟨hK, hNst⟩, hA, hlk⟩ := id ok
  exact lv_bipush hx hb d hv (kk ok _ _ _ hl hP hD hS)
theorem V_sipush {i : Int} {v : Nat} (d : decode M.1 pc = .ok (.sipush i, 3)) (hv : (Int16.ofInt i).toInt32 = nI v)
    (kk : V l G M Γ k n (pc + 3) L (.int (nI v) :: st) X) : V l G M Γ k n pc L st X := by
  intro ok H locs ls hl hP hD hS
  obtain ⟨hx, hb, hml, hown, hts, ⟨hK, hNst⟩, hA, hlk⟩ := id ok
  exact lv_sipush hx hb d hv (kk ok _ _ _ hl hP hD hS)
theorem V_lconst {i : Fin 2} {v : Int64} (d : decode M.1 pc = .ok (.lconst i, 1)) (hv : Int64.ofNat (i : Nat) = v)
    (kk : V l G M Γ k n (pc + 1) L (.long v :: st) X) : V l G M Γ k n pc L st X := by
  intro ok H locs ls hl hP hD hS
  obtain ⟨hx, hb, hml, hown, hts, ⟨hK, hNst⟩, hA, hlk⟩ := id ok
  exact lv_lconst hx hb d hv (kk ok _ _ _ hl hP hD hS)
theorem V_ldc {i v : Nat} (d : decode M.1 pc = .ok (.ldc i, 2)) (hc : Jvm.Cond.constant M.2.2.2.1 i (nI v) ∈ M.2.2.1)
    (kk : V l G M Γ k n (pc + 2) L (.int (nI v) :: st) X) : V l G M Γ k n pc L st X := by
  intro ok H locs ls hl hP hD hS
  obtain ⟨hx, hb, hml, hown, hts, ⟨hK, hNst⟩, hA, hlk⟩ := id ok
  exact lv_ldc hx hb hown (hts _ hc) d (kk ok _ _ _ hl hP hD hS)
theorem V_ldc_w {i v : Nat} (d : decode M.1 pc = .ok (.ldc_w i, 3)) (hc : Jvm.Cond.constant M.2.2.2.1 i (nI v) ∈ M.2.2.1)
    (kk : V l G M Γ k n (pc + 3) L (.int (nI v) :: st) X) : V l G M Γ k n pc L st X := by
  intro ok H locs ls hl hP hD hS
  obtain ⟨hx, hb, hml, hown, hts, ⟨hK, hNst⟩, hA, hlk⟩ := id ok
  exact lv_ldcw hx hb hown (hts _ hc) d (kk ok _ _ _ hl hP hD hS)
theorem V_ldc2 {i : Nat} {v : Int64} (d : decode M.1 pc = .ok (.ldc2_w i, 3)) (hc : Jvm.Cond.constantLong M.2.2.2.1 i v ∈ M.2.2.1)
    (kk : V l G M Γ k n (pc + 3) L (.long v :: st) X) : V l G M Γ k n pc L st X := by
  intro ok H locs ls hl hP hD hS
  obtain ⟨hx, hb, hml, hown, hts, ⟨hK, hNst⟩, hA, hlk⟩ := id ok
  exact lv_ldc2 hx hb hown (hts _ hc) d (kk ok _ _ _ hl hP hD hS)
theorem V_iload_n {k4 : Fin 4} {i : Nat} {x : Int32} (d : decode M.1 pc = .ok (.iload_n k4, 1)) (hi : (k4 : Nat) = i) (h : L[i]? = some (some (.int x)))
    (kk : V l G M Γ k n (pc + 1) L (.int x :: st) X) : V l G M Γ k n pc L st X := by
  intro ok H locs ls hl hP hD hS
  obtain ⟨hx, hb, hml, hown, hts, ⟨hK, hNst⟩, hA, hlk⟩ := id ok
  exact lv_iload_n hx hb d hi (vL_at hl h) (kk ok _ _ _ hl hP hD hS)
theorem V_iload {i : Nat} {x : Int32} (d : decode M.1 pc = .ok (.iload i, 2)) (h : L[i]? = some (some (.int x)))
    (kk : V l G M Γ k n (pc + 2) L (.int x :: st) X) : V l G M Γ k n pc L st X := by
  intro ok H locs ls hl hP hD hS
  obtain ⟨hx, hb, hml, hown, hts, ⟨hK, hNst⟩, hA, hlk⟩ := id ok
  exact lv_iload hx hb d (vL_at hl h) (kk ok _ _ _ hl hP hD hS)
theorem V_istore_n {k4 : Fin 4} {i : Nat} {x : Int32} (d : decode M.1 pc = .ok (.istore_n k4, 1)) (hi : (k4 : Nat) = i) (hn : Nat.blt i M.2.1 = true) (hc : vC L i = true)
    (kk : V l G M Γ k n (pc + 1) (L.set i (some (.int x))) st X) : V l G M Γ k n pc L (.int x :: st) X := by
  intro ok H locs ls hl hP hD hS
  obtain ⟨hx, hb, hml, hown, hts, ⟨hK, hNst⟩, hA, hlk⟩ := id ok
  exact lv_istore_n hx hb d hi (vL_has hl) (Nat.le_of_ble_eq_true hn) rfl (fun ls2 h2 => kk ok _ _ _ (vL_st hc h2) hP hD hS)
theorem V_istore {i : Nat} {x : Int32} (d : decode M.1 pc = .ok (.istore i, 2)) (hn : Nat.blt i M.2.1 = true) (hc : vC L i = true)
    (kk : V l G M Γ k n (pc + 2) (L.set i (some (.int x))) st X) : V l G M Γ k n pc L (.int x :: st) X := by
  intro ok H locs ls hl hP hD hS
  obtain ⟨hx, hb, hml, hown, hts, ⟨hK, hNst⟩, hA, hlk⟩ := id ok
  exact lv_istore hx hb d (vL_has hl) (Nat.le_of_ble_eq_true hn) rfl (fun ls2 h2 => kk ok _ _ _ (vL_st hc h2) hP hD hS)
theorem V_lload_n {k4 : Fin 4} {i : Nat} {x : Int64} (d : decode M.1 pc = .ok (.lload_n k4, 1)) (hi : (k4 : Nat) = i) (h : L[i]? = some (some (.long x)))
    (kk : V l G M Γ k n (pc + 1) L (.long x :: st) X) : V l G M Γ k n pc L st X := by
  intro ok H locs ls hl hP hD hS
  obtain ⟨hx, hb, hml, hown, hts, ⟨hK, hNst⟩, hA, hlk⟩ := id ok
  exact lv_lload_n hx hb d hi (vL_at hl h) (kk ok _ _ _ hl hP hD hS)
theorem V_lload {i : Nat} {x : Int64} (d : decode M.1 pc = .ok (.lload i, 2)) (h : L[i]? = some (some (.long x)))
    (kk : V l G M Γ k n (pc + 2) L (.long x :: st) X) : V l G M Γ k n pc L st X := by
  intro ok H locs ls hl hP hD hS
  obtain ⟨hx, hb, hml, hown, hts, ⟨hK, hNst⟩, hA, hlk⟩ := id ok
  exact lv_lload hx hb d (vL_at hl h) (kk ok _ _ _ hl hP hD hS)
theorem V_lstore_n {k4 : Fin 4} {i : Nat} {x : Int64} (d : decode M.1 pc = .ok (.lstore_n k4, 1)) (hi : (k4 : Nat) = i) (hn : Nat.blt (i + 1) M.2.1 = true) (hc : vC L i = true)
    (kk : V l G M Γ k n (pc + 1) ((L.set i (some (.long x))).set (i + 1) none) st X) : V l G M Γ k n pc L (.long x :: st) X := by
  intro ok H locs ls hl hP hD hS
  obtain ⟨hx, hb, hml, hown, hts, ⟨hK, hNst⟩, hA, hlk⟩ := id ok
  exact lv_lstore_n hx hb d hi (vL_has hl) (Nat.le_of_ble_eq_true hn) rfl (fun ls2 h2 => kk ok _ _ _ (vL_st2 hc h2) hP hD hS)
theorem V_lstore {i : Nat} {x : Int64} (d : decode M.1 pc = .ok (.lstore i, 2)) (hn : Nat.blt (i + 1) M.2.1 = true) (hc : vC L i = true)
    (kk : V l G M Γ k n (pc + 2) ((L.set i (some (.long x))).set (i + 1) none) st X) : V l G M Γ k n pc L (.long x :: st) X := by
  intro ok H locs ls hl hP hD hS
  obtain ⟨hx, hb, hml, hown, hts, ⟨hK, hNst⟩, hA, hlk⟩ := id ok
  exact lv_lstore hx hb d (vL_has hl) (Nat.le_of_ble_eq_true hn) rfl (fun ls2 h2 => kk ok _ _ _ (vL_st2 hc h2) hP hD hS)
theorem V_aload_n {k4 : Fin 4} {i : Nat} {x : Nat} (d : decode M.1 pc = .ok (.aload_n k4, 1)) (hi : (k4 : Nat) = i) (h : L[i]? = some (some (.ref x)))
    (kk : V l G M Γ k n (pc + 1) L (.ref x :: st) X) : V l G M Γ k n pc L st X := by
  intro ok H locs ls hl hP hD hS
  obtain ⟨hx, hb, hml, hown, hts, ⟨hK, hNst⟩, hA, hlk⟩ := id ok
  exact lv_aload_n hx hb d hi (vL_at hl h) (kk ok _ _ _ hl hP hD hS)
theorem V_aload {i : Nat} {x : Nat} (d : decode M.1 pc = .ok (.aload i, 2)) (h : L[i]? = some (some (.ref x)))
    (kk : V l G M Γ k n (pc + 2) L (.ref x :: st) X) : V l G M Γ k n pc L st X := by
  intro ok H locs ls hl hP hD hS
  obtain ⟨hx, hb, hml, hown, hts, ⟨hK, hNst⟩, hA, hlk⟩ := id ok
  exact lv_aload hx hb d (vL_at hl h) (kk ok _ _ _ hl hP hD hS)
theorem V_astore_n {k4 : Fin 4} {i : Nat} {x : Nat} (d : decode M.1 pc = .ok (.astore_n k4, 1)) (hi : (k4 : Nat) = i) (hn : Nat.blt i M.2.1 = true) (hc : vC L i = true)
    (kk : V l G M Γ k n (pc + 1) (L.set i (some (.ref x))) st X) : V l G M Γ k n pc L (.ref x :: st) X := by
  intro ok H locs ls hl hP hD hS
  obtain ⟨hx, hb, hml, hown, hts, ⟨hK, hNst⟩, hA, hlk⟩ := id ok
  exact lv_astore_n hx hb d hi (vL_has hl) (Nat.le_of_ble_eq_true hn) rfl (fun ls2 h2 => kk ok _ _ _ (vL_st hc h2) hP hD hS)
theorem V_astore {i : Nat} {x : Nat} (d : decode M.1 pc = .ok (.astore i, 2)) (hn : Nat.blt i M.2.1 = true) (hc : vC L i = true)
    (kk : V l G M Γ k n (pc + 2) (L.set i (some (.ref x))) st X) : V l G M Γ k n pc L (.ref x :: st) X := by
  intro ok H locs ls hl hP hD hS
  obtain ⟨hx, hb, hml, hown, hts, ⟨hK, hNst⟩, hA, hlk⟩ := id ok
  exact lv_astore hx hb d (vL_has hl) (Nat.le_of_ble_eq_true hn) rfl (fun ls2 h2 => kk ok _ _ _ (vL_st hc h2) hP hD hS)
theorem vLs_at {L : List (Option Value)} {i : Nat} {v : Value} (h : L[i]? = some (some v)) : ∃ k : Nat, (vLs L)[k]? = some (i, v) := List.getElem?_of_mem (vLs_mem.mpr h)
theorem V_iinc {i x : Nat} {c : Int} {v : Nat} (d : decode M.1 pc = .ok (.iinc i c, 3)) (h : L[i]? = some (some (.int (nI x)))) (hv : nI x + Int32.ofInt c = nI v) (hn : Nat.blt i M.2.1 = true) (hc : vC L i = true)
    (kk : V l G M Γ k n (pc + 3) (L.set i (some (.int (nI v)))) st X) : V l G M Γ k n pc L st X := by
  intro ok H locs ls hl hP hD hS
  obtain ⟨hx, hb, hml, hown, hts, ⟨hK, hNst⟩, hA, hlk⟩ := id ok
  obtain ⟨k9, h9⟩ := vLs_at h
  exact lv_iinc hx hb d (vL_has hl) h9 hv (Nat.le_of_ble_eq_true hn) rfl (fun ls2 h2 => kk ok _ _ _ (vL_st hc h2) hP hD hS)
theorem V_top {a b : Nat} (h : a = b) (kk : V l G M Γ k n pc L (.int (nI b) :: st) X) : V l G M Γ k n pc L (.int (nI a) :: st) X := h ▸ kk
theorem V_dup {v : Value} (d : decode M.1 pc = .ok (.dup, 1)) (hv : v.category = 1)
    (kk : V l G M Γ k n (pc + 1) L (v :: v :: st) X) : V l G M Γ k n pc L (v :: st) X := by
  intro ok H locs ls hl hP hD hS
  obtain ⟨hx, hb, hml, hown, hts, ⟨hK, hNst⟩, hA, hlk⟩ := id ok
  exact lv_dup hx hb d hv (kk ok _ _ _ hl hP hD hS)
theorem V_dup2 {v w : Value} (d : decode M.1 pc = .ok (.dup2, 1)) (hv : v.category = 1) (hw : w.category = 1)
    (kk : V l G M Γ k n (pc + 1) L (v :: w :: v :: w :: st) X) : V l G M Γ k n pc L (v :: w :: st) X := by
  intro ok H locs ls hl hP hD hS
  obtain ⟨hx, hb, hml, hown, hts, ⟨hK, hNst⟩, hA, hlk⟩ := id ok
  exact lv_dup2_11 hx hb d hv hw (kk ok _ _ _ hl hP hD hS)
theorem V_pop {v : Value} (d : decode M.1 pc = .ok (.pop, 1)) (hv : v.category = 1)
    (kk : V l G M Γ k n (pc + 1) L st X) : V l G M Γ k n pc L (v :: st) X := by
  intro ok H locs ls hl hP hD hS
  obtain ⟨hx, hb, hml, hown, hts, ⟨hK, hNst⟩, hA, hlk⟩ := id ok
  exact lv_pop hx hb d hv (kk ok _ _ _ hl hP hD hS)
theorem V_iadd {a b : Nat} (d : decode M.1 pc = .ok (.iadd, 1))
    (kk : V l G M Γ k n (pc + 1) L (.int (nI (a + b)) :: st) X) : V l G M Γ k n pc L (.int (nI b) :: .int (nI a) :: st) X := by
  intro ok H locs ls hl hP hD hS
  obtain ⟨hx, hb, hml, hown, hts, ⟨hK, hNst⟩, hA, hlk⟩ := id ok
  refine lv_iadd hx hb d ?_
  rw [nI_add]
  exact kk ok _ _ _ hl hP hD hS
theorem V_imul {a b : Nat} (d : decode M.1 pc = .ok (.imul, 1))
    (kk : V l G M Γ k n (pc + 1) L (.int (nI (a * b)) :: st) X) : V l G M Γ k n pc L (.int (nI b) :: .int (nI a) :: st) X := by
  intro ok H locs ls hl hP hD hS
  obtain ⟨hx, hb, hml, hown, hts, ⟨hK, hNst⟩, hA, hlk⟩ := id ok
  refine lv_imul hx hb d ?_
  rw [pk_mul]
  exact kk ok _ _ _ hl hP hD hS
theorem V_isub {a b : Nat} (d : decode M.1 pc = .ok (.isub, 1)) (h : b ≤ a)
    (kk : V l G M Γ k n (pc + 1) L (.int (nI (a - b)) :: st) X) : V l G M Γ k n pc L (.int (nI b) :: .int (nI a) :: st) X := by
  intro ok H locs ls hl hP hD hS
  obtain ⟨hx, hb, hml, hown, hts, ⟨hK, hNst⟩, hA, hlk⟩ := id ok
  refine lv_isub hx hb d ?_
  rw [nI_subN h]
  exact kk ok _ _ _ hl hP hD hS
theorem V_isubW {a b : Nat} (d : decode M.1 pc = .ok (.isub, 1)) (h : b ≤ 4294967296)
    (kk : V l G M Γ k n (pc + 1) L (.int (nI (a + (4294967296 - b))) :: st) X) : V l G M Γ k n pc L (.int (nI b) :: .int (nI a) :: st) X := by
  intro ok H locs ls hl hP hD hS
  obtain ⟨hx, hb, hml, hown, hts, ⟨hK, hNst⟩, hA, hlk⟩ := id ok
  refine lv_isub hx hb d ?_
  rw [nI_subW h]
  exact kk ok _ _ _ hl hP hD hS
theorem V_idiv {a b : Nat} (d : decode M.1 pc = .ok (.idiv, 1)) (ha : a < 2147483648) (h0 : 0 < b) (hb2 : b < 2147483648)
    (kk : V l G M Γ k n (pc + 1) L (.int (nI (a / b)) :: st) X) : V l G M Γ k n pc L (.int (nI b) :: .int (nI a) :: st) X := by
  intro ok H locs ls hl hP hD hS
  obtain ⟨hx, hb, hml, hown, hts, ⟨hK, hNst⟩, hA, hlk⟩ := id ok
  refine lv_idiv hx hb d (nI_ne0N (by omega) (by omega)) ?_
  rw [pk_div (by omega) h0 (by omega)]
  exact kk ok _ _ _ hl hP hD hS
theorem V_irem {a b : Nat} (d : decode M.1 pc = .ok (.irem, 1)) (ha : a < 2147483648) (h0 : 0 < b) (hb2 : b < 2147483648)
    (kk : V l G M Γ k n (pc + 1) L (.int (nI (a % b)) :: st) X) : V l G M Γ k n pc L (.int (nI b) :: .int (nI a) :: st) X := by
  intro ok H locs ls hl hP hD hS
  obtain ⟨hx, hb, hml, hown, hts, ⟨hK, hNst⟩, hA, hlk⟩ := id ok
  refine lv_irem hx hb d (nI_ne0N (by omega) (by omega)) ?_
  rw [pk_rem (by omega) h0 (by omega)]
  exact kk ok _ _ _ hl hP hD hS
theorem V_iorG {x y : Int32} {v : Nat} (d : decode M.1 pc = .ok (.ior, 1)) (hv : x ||| y = nI v)
    (kk : V l G M Γ k n (pc + 1) L (.int (nI v) :: st) X) : V l G M Γ k n pc L (.int y :: .int x :: st) X := by
  intro ok H locs ls hl hP hD hS
  obtain ⟨hx, hb, hml, hown, hts, ⟨hK, hNst⟩, hA, hlk⟩ := id ok
  refine lv_ior hx hb d ?_
  rw [hv]
  exact kk ok _ _ _ hl hP hD hS
theorem V_iandG {x y : Int32} {v : Nat} (d : decode M.1 pc = .ok (.iand, 1)) (hv : x &&& y = nI v)
    (kk : V l G M Γ k n (pc + 1) L (.int (nI v) :: st) X) : V l G M Γ k n pc L (.int y :: .int x :: st) X := by
  intro ok H locs ls hl hP hD hS
  obtain ⟨hx, hb, hml, hown, hts, ⟨hK, hNst⟩, hA, hlk⟩ := id ok
  refine lv_iand hx hb d ?_
  rw [hv]
  exact kk ok _ _ _ hl hP hD hS
theorem V_iushrG {x y : Int32} {v : Nat} (d : decode M.1 pc = .ok (.iushr, 1)) (hv : (x.toUInt32 >>> (y.toUInt32 &&& Int32.toUInt32 31)).toInt32 = nI v)
    (kk : V l G M Γ k n (pc + 1) L (.int (nI v) :: st) X) : V l G M Γ k n pc L (.int y :: .int x :: st) X := by
  intro ok H locs ls hl hP hD hS
  obtain ⟨hx, hb, hml, hown, hts, ⟨hK, hNst⟩, hA, hlk⟩ := id ok
  exact lv_iushr hx hb d hv (kk ok _ _ _ hl hP hD hS)
theorem V_ishlG {x y : Int32} {v : Nat} (d : decode M.1 pc = .ok (.ishl, 1)) (hv : x <<< (y &&& 31) = nI v)
    (kk : V l G M Γ k n (pc + 1) L (.int (nI v) :: st) X) : V l G M Γ k n pc L (.int y :: .int x :: st) X := by
  intro ok H locs ls hl hP hD hS
  obtain ⟨hx, hb, hml, hown, hts, ⟨hK, hNst⟩, hA, hlk⟩ := id ok
  refine lv_ishl hx hb d ?_
  rw [hv]
  exact kk ok _ _ _ hl hP hD hS
theorem V_ladd {x y : Int64} (d : decode M.1 pc = .ok (.ladd, 1))
    (kk : V l G M Γ k n (pc + 1) L (.long (x + y) :: st) X) : V l G M Γ k n pc L (.long y :: .long x :: st) X := by
  intro ok H locs ls hl hP hD hS
  obtain ⟨hx, hb, hml, hown, hts, ⟨hK, hNst⟩, hA, hlk⟩ := id ok
  exact lv_ladd hx hb d (kk ok _ _ _ hl hP hD hS)
theorem V_lsub {x y : Int64} (d : decode M.1 pc = .ok (.lsub, 1))
    (kk : V l G M Γ k n (pc + 1) L (.long (x - y) :: st) X) : V l G M Γ k n pc L (.long y :: .long x :: st) X := by
  intro ok H locs ls hl hP hD hS
  obtain ⟨hx, hb, hml, hown, hts, ⟨hK, hNst⟩, hA, hlk⟩ := id ok
  exact lv_lsub hx hb d (kk ok _ _ _ hl hP hD hS)
theorem V_lmul {x y : Int64} (d : decode M.1 pc = .ok (.lmul, 1))
    (kk : V l G M Γ k n (pc + 1) L (.long (x * y) :: st) X) : V l G M Γ k n pc L (.long y :: .long x :: st) X := by
  intro ok H locs ls hl hP hD hS
  obtain ⟨hx, hb, hml, hown, hts, ⟨hK, hNst⟩, hA, hlk⟩ := id ok
  exact lv_lmul hx hb d (kk ok _ _ _ hl hP hD hS)
theorem V_land {x y : Int64} (d : decode M.1 pc = .ok (.land, 1))
    (kk : V l G M Γ k n (pc + 1) L (.long (x &&& y) :: st) X) : V l G M Γ k n pc L (.long y :: .long x :: st) X := by
  intro ok H locs ls hl hP hD hS
  obtain ⟨hx, hb, hml, hown, hts, ⟨hK, hNst⟩, hA, hlk⟩ := id ok
  exact lv_land hx hb d (kk ok _ _ _ hl hP hD hS)
theorem V_lor {x y : Int64} (d : decode M.1 pc = .ok (.lor, 1))
    (kk : V l G M Γ k n (pc + 1) L (.long (x ||| y) :: st) X) : V l G M Γ k n pc L (.long y :: .long x :: st) X := by
  intro ok H locs ls hl hP hD hS
  obtain ⟨hx, hb, hml, hown, hts, ⟨hK, hNst⟩, hA, hlk⟩ := id ok
  exact lv_lor hx hb d (kk ok _ _ _ hl hP hD hS)
theorem V_ldiv {x y : Int64} (d : decode M.1 pc = .ok (.ldiv, 1)) (h : ¬ y = 0)
    (kk : V l G M Γ k n (pc + 1) L (.long (x / y) :: st) X) : V l G M Γ k n pc L (.long y :: .long x :: st) X := by
  intro ok H locs ls hl hP hD hS
  obtain ⟨hx, hb, hml, hown, hts, ⟨hK, hNst⟩, hA, hlk⟩ := id ok
  exact lv_ldiv hx hb d h (kk ok _ _ _ hl hP hD hS)
theorem V_lrem {x y : Int64} (d : decode M.1 pc = .ok (.lrem, 1)) (h : ¬ y = 0)
    (kk : V l G M Γ k n (pc + 1) L (.long (x - x / y * y) :: st) X) : V l G M Γ k n pc L (.long y :: .long x :: st) X := by
  intro ok H locs ls hl hP hD hS
  obtain ⟨hx, hb, hml, hown, hts, ⟨hK, hNst⟩, hA, hlk⟩ := id ok
  exact lv_lrem hx hb d h (kk ok _ _ _ hl hP hD hS)
theorem V_i2l {x : Int32} (d : decode M.1 pc = .ok (.i2l, 1))
    (kk : V l G M Γ k n (pc + 1) L (.long x.toInt64 :: st) X) : V l G M Γ k n pc L (.int x :: st) X := by
  intro ok H locs ls hl hP hD hS
  obtain ⟨hx, hb, hml, hown, hts, ⟨hK, hNst⟩, hA, hlk⟩ := id ok
  exact lv_i2l hx hb d rfl (kk ok _ _ _ hl hP hD hS)
theorem V_l2i {x : Int64} {v : Nat} (d : decode M.1 pc = .ok (.l2i, 1)) (hv : x.toInt32 = nI v)
    (kk : V l G M Γ k n (pc + 1) L (.int (nI v) :: st) X) : V l G M Γ k n pc L (.long x :: st) X := by
  intro ok H locs ls hl hP hD hS
  obtain ⟨hx, hb, hml, hown, hts, ⟨hK, hNst⟩, hA, hlk⟩ := id ok
  exact lv_l2i hx hb d hv (kk ok _ _ _ hl hP hD hS)
theorem V_lshl {x v : Int64} {y : Int32} (d : decode M.1 pc = .ok (.lshl, 1)) (hv : x <<< (y.toInt64 &&& 63) = v)
    (kk : V l G M Γ k n (pc + 1) L (.long v :: st) X) : V l G M Γ k n pc L (.int y :: .long x :: st) X := by
  intro ok H locs ls hl hP hD hS
  obtain ⟨hx, hb, hml, hown, hts, ⟨hK, hNst⟩, hA, hlk⟩ := id ok
  exact lv_lshl hx hb d hv (kk ok _ _ _ hl hP hD hS)
theorem V_lushr {x v : Int64} {y : Int32} (d : decode M.1 pc = .ok (.lushr, 1)) (hv : (x.toUInt64 >>> (y.toInt64.toUInt64 &&& Int64.toUInt64 63)).toInt64 = v)
    (kk : V l G M Γ k n (pc + 1) L (.long v :: st) X) : V l G M Γ k n pc L (.int y :: .long x :: st) X := by
  intro ok H locs ls hl hP hD hS
  obtain ⟨hx, hb, hml, hown, hts, ⟨hK, hNst⟩, hA, hlk⟩ := id ok
  exact lv_lushr hx hb d hv (kk ok _ _ _ hl hP hD hS)
theorem V_icmp_eq {off : Int} {tgt : Nat} {a b : Nat} (ha : a < 4294967296) (hb2 : b < 4294967296) (d : decode M.1 pc = .ok (.if_icmp .eq off, 3)) (ht : (pc : Int) + off = (tgt : Int))
    (kt : a = b → V l G M Γ k n tgt L st X) (kf : ¬ a = b → V l G M Γ k n (pc + 3) L st X) : V l G M Γ k n pc L (.int (nI b) :: .int (nI a) :: st) X := by
  intro ok H locs ls hl hP hD hS
  obtain ⟨hx, hb, hml, hown, hts, ⟨hK, hNst⟩, hA, hlk⟩ := id ok
  exact lv_icmp_eq hx hb d ht (fun h9 => kt ((nI_eqN ha hb2).mp h9) ok _ _ _ hl hP hD hS) (fun h9 => kf (fun z => h9 ((nI_eqN ha hb2).mpr z)) ok _ _ _ hl hP hD hS)
theorem V_icmp_ne {off : Int} {tgt : Nat} {a b : Nat} (ha : a < 4294967296) (hb2 : b < 4294967296) (d : decode M.1 pc = .ok (.if_icmp .ne off, 3)) (ht : (pc : Int) + off = (tgt : Int))
    (kt : ¬ a = b → V l G M Γ k n tgt L st X) (kf : a = b → V l G M Γ k n (pc + 3) L st X) : V l G M Γ k n pc L (.int (nI b) :: .int (nI a) :: st) X := by
  intro ok H locs ls hl hP hD hS
  obtain ⟨hx, hb, hml, hown, hts, ⟨hK, hNst⟩, hA, hlk⟩ := id ok
  exact lv_icmp_ne hx hb d ht (fun h9 => kt (fun z => h9 ((nI_eqN ha hb2).mpr z)) ok _ _ _ hl hP hD hS) (fun h9 => kf ((nI_eqN ha hb2).mp h9) ok _ _ _ hl hP hD hS)
theorem V_icmp_lt {off : Int} {tgt : Nat} {a b : Nat} (ha : a < 2147483648) (hb2 : b < 2147483648) (d : decode M.1 pc = .ok (.if_icmp .lt off, 3)) (ht : (pc : Int) + off = (tgt : Int))
    (kt : a < b → V l G M Γ k n tgt L st X) (kf : ¬ a < b → V l G M Γ k n (pc + 3) L st X) : V l G M Γ k n pc L (.int (nI b) :: .int (nI a) :: st) X := by
  intro ok H locs ls hl hP hD hS
  obtain ⟨hx, hb, hml, hown, hts, ⟨hK, hNst⟩, hA, hlk⟩ := id ok
  exact lv_icmp_lt hx hb d ht (fun h9 => kt ((nI_ltS ha hb2).mp h9) ok _ _ _ hl hP hD hS) (fun h9 => kf (fun z => h9 ((nI_ltS ha hb2).mpr z)) ok _ _ _ hl hP hD hS)
theorem V_icmp_le {off : Int} {tgt : Nat} {a b : Nat} (ha : a < 2147483648) (hb2 : b < 2147483648) (d : decode M.1 pc = .ok (.if_icmp .le off, 3)) (ht : (pc : Int) + off = (tgt : Int))
    (kt : a ≤ b → V l G M Γ k n tgt L st X) (kf : ¬ a ≤ b → V l G M Γ k n (pc + 3) L st X) : V l G M Γ k n pc L (.int (nI b) :: .int (nI a) :: st) X := by
  intro ok H locs ls hl hP hD hS
  obtain ⟨hx, hb, hml, hown, hts, ⟨hK, hNst⟩, hA, hlk⟩ := id ok
  exact lv_icmp_le hx hb d ht (fun h9 => kt ((nI_leS ha hb2).mp h9) ok _ _ _ hl hP hD hS) (fun h9 => kf (fun z => h9 ((nI_leS ha hb2).mpr z)) ok _ _ _ hl hP hD hS)
theorem V_icmp_gt {off : Int} {tgt : Nat} {a b : Nat} (ha : a < 2147483648) (hb2 : b < 2147483648) (d : decode M.1 pc = .ok (.if_icmp .gt off, 3)) (ht : (pc : Int) + off = (tgt : Int))
    (kt : b < a → V l G M Γ k n tgt L st X) (kf : ¬ b < a → V l G M Γ k n (pc + 3) L st X) : V l G M Γ k n pc L (.int (nI b) :: .int (nI a) :: st) X := by
  intro ok H locs ls hl hP hD hS
  obtain ⟨hx, hb, hml, hown, hts, ⟨hK, hNst⟩, hA, hlk⟩ := id ok
  exact lv_icmp_gt hx hb d ht (fun h9 => kt ((nI_ltS hb2 ha).mp h9) ok _ _ _ hl hP hD hS) (fun h9 => kf (fun z => h9 ((nI_ltS hb2 ha).mpr z)) ok _ _ _ hl hP hD hS)
theorem V_icmp_ge {off : Int} {tgt : Nat} {a b : Nat} (ha : a < 2147483648) (hb2 : b < 2147483648) (d : decode M.1 pc = .ok (.if_icmp .ge off, 3)) (ht : (pc : Int) + off = (tgt : Int))
    (kt : b ≤ a → V l G M Γ k n tgt L st X) (kf : ¬ b ≤ a → V l G M Γ k n (pc + 3) L st X) : V l G M Γ k n pc L (.int (nI b) :: .int (nI a) :: st) X := by
  intro ok H locs ls hl hP hD hS
  obtain ⟨hx, hb, hml, hown, hts, ⟨hK, hNst⟩, hA, hlk⟩ := id ok
  exact lv_icmp_ge hx hb d ht (fun h9 => kt ((nI_leS hb2 ha).mp h9) ok _ _ _ hl hP hD hS) (fun h9 => kf (fun z => h9 ((nI_leS hb2 ha).mpr z)) ok _ _ _ hl hP hD hS)
theorem V_icmp_ltA {off : Int} {tgt : Nat} {a b : Nat} (ha : a < 4294967296) (hb2 : b < 2147483648) (d : decode M.1 pc = .ok (.if_icmp .lt off, 3)) (ht : (pc : Int) + off = (tgt : Int))
    (kt : (a < b ∨ 2147483648 ≤ a) → V l G M Γ k n tgt L st X) (kf : ¬ (a < b ∨ 2147483648 ≤ a) → V l G M Γ k n (pc + 3) L st X) : V l G M Γ k n pc L (.int (nI b) :: .int (nI a) :: st) X := by
  intro ok H locs ls hl hP hD hS
  obtain ⟨hx, hb, hml, hown, hts, ⟨hK, hNst⟩, hA, hlk⟩ := id ok
  exact lv_icmp_lt hx hb d ht (fun h9 => kt ((nI_ltB ha hb2).mp h9) ok _ _ _ hl hP hD hS) (fun h9 => kf (fun z => h9 ((nI_ltB ha hb2).mpr z)) ok _ _ _ hl hP hD hS)
theorem V_icmp_leA {off : Int} {tgt : Nat} {a b : Nat} (ha : a < 4294967296) (hb2 : b < 2147483648) (d : decode M.1 pc = .ok (.if_icmp .le off, 3)) (ht : (pc : Int) + off = (tgt : Int))
    (kt : (a ≤ b ∨ 2147483648 ≤ a) → V l G M Γ k n tgt L st X) (kf : ¬ (a ≤ b ∨ 2147483648 ≤ a) → V l G M Γ k n (pc + 3) L st X) : V l G M Γ k n pc L (.int (nI b) :: .int (nI a) :: st) X := by
  intro ok H locs ls hl hP hD hS
  obtain ⟨hx, hb, hml, hown, hts, ⟨hK, hNst⟩, hA, hlk⟩ := id ok
  exact lv_icmp_le hx hb d ht (fun h9 => kt ((nI_leB ha hb2).mp h9) ok _ _ _ hl hP hD hS) (fun h9 => kf (fun z => h9 ((nI_leB ha hb2).mpr z)) ok _ _ _ hl hP hD hS)
theorem V_icmp_gtA {off : Int} {tgt : Nat} {a b : Nat} (ha : a < 4294967296) (hb2 : b < 2147483648) (d : decode M.1 pc = .ok (.if_icmp .gt off, 3)) (ht : (pc : Int) + off = (tgt : Int))
    (kt : (b < a ∧ a < 2147483648) → V l G M Γ k n tgt L st X) (kf : ¬ (b < a ∧ a < 2147483648) → V l G M Γ k n (pc + 3) L st X) : V l G M Γ k n pc L (.int (nI b) :: .int (nI a) :: st) X := by
  intro ok H locs ls hl hP hD hS
  obtain ⟨hx, hb, hml, hown, hts, ⟨hK, hNst⟩, hA, hlk⟩ := id ok
  exact lv_icmp_gt hx hb d ht (fun h9 => kt ((nI_gtB ha hb2).mp h9) ok _ _ _ hl hP hD hS) (fun h9 => kf (fun z => h9 ((nI_gtB ha hb2).mpr z)) ok _ _ _ hl hP hD hS)
theorem V_icmp_geA {off : Int} {tgt : Nat} {a b : Nat} (ha : a < 4294967296) (hb2 : b < 2147483648) (d : decode M.1 pc = .ok (.if_icmp .ge off, 3)) (ht : (pc : Int) + off = (tgt : Int))
    (kt : (b ≤ a ∧ a < 2147483648) → V l G M Γ k n tgt L st X) (kf : ¬ (b ≤ a ∧ a < 2147483648) → V l G M Γ k n (pc + 3) L st X) : V l G M Γ k n pc L (.int (nI b) :: .int (nI a) :: st) X := by
  intro ok H locs ls hl hP hD hS
  obtain ⟨hx, hb, hml, hown, hts, ⟨hK, hNst⟩, hA, hlk⟩ := id ok
  exact lv_icmp_ge hx hb d ht (fun h9 => kt ((nI_geB ha hb2).mp h9) ok _ _ _ hl hP hD hS) (fun h9 => kf (fun z => h9 ((nI_geB ha hb2).mpr z)) ok _ _ _ hl hP hD hS)
theorem V_icmp_ltG {off : Int} {tgt : Nat} {x y : Int32} (d : decode M.1 pc = .ok (.if_icmp .lt off, 3)) (ht : (pc : Int) + off = (tgt : Int))
    (kt : x < y → V l G M Γ k n tgt L st X) (kf : ¬ x < y → V l G M Γ k n (pc + 3) L st X) : V l G M Γ k n pc L (.int y :: .int x :: st) X := by
  intro ok H locs ls hl hP hD hS
  obtain ⟨hx, hb, hml, hown, hts, ⟨hK, hNst⟩, hA, hlk⟩ := id ok
  exact lv_icmp_lt hx hb d ht (fun h9 => kt (h9) ok _ _ _ hl hP hD hS) (fun h9 => kf (h9) ok _ _ _ hl hP hD hS)
theorem V_icmp_leG {off : Int} {tgt : Nat} {x y : Int32} (d : decode M.1 pc = .ok (.if_icmp .le off, 3)) (ht : (pc : Int) + off = (tgt : Int))
    (kt : x ≤ y → V l G M Γ k n tgt L st X) (kf : ¬ x ≤ y → V l G M Γ k n (pc + 3) L st X) : V l G M Γ k n pc L (.int y :: .int x :: st) X := by
  intro ok H locs ls hl hP hD hS
  obtain ⟨hx, hb, hml, hown, hts, ⟨hK, hNst⟩, hA, hlk⟩ := id ok
  exact lv_icmp_le hx hb d ht (fun h9 => kt (h9) ok _ _ _ hl hP hD hS) (fun h9 => kf (h9) ok _ _ _ hl hP hD hS)
theorem V_icmp_gtG {off : Int} {tgt : Nat} {x y : Int32} (d : decode M.1 pc = .ok (.if_icmp .gt off, 3)) (ht : (pc : Int) + off = (tgt : Int))
    (kt : y < x → V l G M Γ k n tgt L st X) (kf : ¬ y < x → V l G M Γ k n (pc + 3) L st X) : V l G M Γ k n pc L (.int y :: .int x :: st) X := by
  intro ok H locs ls hl hP hD hS
  obtain ⟨hx, hb, hml, hown, hts, ⟨hK, hNst⟩, hA, hlk⟩ := id ok
  exact lv_icmp_gt hx hb d ht (fun h9 => kt (h9) ok _ _ _ hl hP hD hS) (fun h9 => kf (h9) ok _ _ _ hl hP hD hS)
theorem V_icmp_geG {off : Int} {tgt : Nat} {x y : Int32} (d : decode M.1 pc = .ok (.if_icmp .ge off, 3)) (ht : (pc : Int) + off = (tgt : Int))
    (kt : y ≤ x → V l G M Γ k n tgt L st X) (kf : ¬ y ≤ x → V l G M Γ k n (pc + 3) L st X) : V l G M Γ k n pc L (.int y :: .int x :: st) X := by
  intro ok H locs ls hl hP hD hS
  obtain ⟨hx, hb, hml, hown, hts, ⟨hK, hNst⟩, hA, hlk⟩ := id ok
  exact lv_icmp_ge hx hb d ht (fun h9 => kt (h9) ok _ _ _ hl hP hD hS) (fun h9 => kf (h9) ok _ _ _ hl hP hD hS)
theorem V_if_eq {off : Int} {tgt : Nat} {a : Nat} (ha : a < 4294967296) (d : decode M.1 pc = .ok (.ifCond .eq off, 3)) (ht : (pc : Int) + off = (tgt : Int))
    (kt : a = 0 → V l G M Γ k n tgt L st X) (kf : ¬ a = 0 → V l G M Γ k n (pc + 3) L st X) : V l G M Γ k n pc L (.int (nI a) :: st) X := by
  intro ok H locs ls hl hP hD hS
  obtain ⟨hx, hb, hml, hown, hts, ⟨hK, hNst⟩, hA, hlk⟩ := id ok
  exact lv_if_eq hx hb d ht (fun h9 => kt ((nI_eqN ha (by omega)).mp (h9.trans nI_0.symm)) ok _ _ _ hl hP hD hS) (fun h9 => kf (fun z => h9 (by rw [z]; exact nI_0)) ok _ _ _ hl hP hD hS)
theorem V_if_ne {off : Int} {tgt : Nat} {a : Nat} (ha : a < 4294967296) (d : decode M.1 pc = .ok (.ifCond .ne off, 3)) (ht : (pc : Int) + off = (tgt : Int))
    (kt : ¬ a = 0 → V l G M Γ k n tgt L st X) (kf : a = 0 → V l G M Γ k n (pc + 3) L st X) : V l G M Γ k n pc L (.int (nI a) :: st) X := by
  intro ok H locs ls hl hP hD hS
  obtain ⟨hx, hb, hml, hown, hts, ⟨hK, hNst⟩, hA, hlk⟩ := id ok
  exact lv_if_ne hx hb d ht (fun h9 => kt (fun z => h9 (by rw [z]; exact nI_0)) ok _ _ _ hl hP hD hS) (fun h9 => kf ((nI_eqN ha (by omega)).mp (h9.trans nI_0.symm)) ok _ _ _ hl hP hD hS)
theorem V_if_lt {off : Int} {tgt : Nat} {a : Nat} (ha : a < 4294967296) (d : decode M.1 pc = .ok (.ifCond .lt off, 3)) (ht : (pc : Int) + off = (tgt : Int))
    (kt : 2147483648 ≤ a → V l G M Γ k n tgt L st X) (kf : ¬ 2147483648 ≤ a → V l G M Γ k n (pc + 3) L st X) : V l G M Γ k n pc L (.int (nI a) :: st) X := by
  intro ok H locs ls hl hP hD hS
  obtain ⟨hx, hb, hml, hown, hts, ⟨hK, hNst⟩, hA, hlk⟩ := id ok
  exact lv_if_lt hx hb d ht (fun h9 => kt (by have := (nI_ltB ha (by omega)).mp (nI_0 ▸ h9 : nI a < nI 0); omega) ok _ _ _ hl hP hD hS) (fun h9 => kf (fun z => h9 (by have := (nI_ltB (b := 0) ha (by omega)).mpr (Or.inr z); rw [nI_0] at this; exact this)) ok _ _ _ hl hP hD hS)
theorem V_if_ge {off : Int} {tgt : Nat} {a : Nat} (ha : a < 4294967296) (d : decode M.1 pc = .ok (.ifCond .ge off, 3)) (ht : (pc : Int) + off = (tgt : Int))
    (kt : a < 2147483648 → V l G M Γ k n tgt L st X) (kf : ¬ a < 2147483648 → V l G M Γ k n (pc + 3) L st X) : V l G M Γ k n pc L (.int (nI a) :: st) X := by
  intro ok H locs ls hl hP hD hS
  obtain ⟨hx, hb, hml, hown, hts, ⟨hK, hNst⟩, hA, hlk⟩ := id ok
  exact lv_if_ge hx hb d ht (fun h9 => kt (((nI_geB ha (by omega)).mp (show nI 0 ≤ nI a by rw [nI_0]; exact h9)).2) ok _ _ _ hl hP hD hS) (fun h9 => kf (fun z => h9 (by have := (nI_geB (b := 0) ha (by omega)).mpr ⟨Nat.zero_le _, z⟩; rw [nI_0] at this; exact this)) ok _ _ _ hl hP hD hS)
theorem V_if_gt {off : Int} {tgt : Nat} {a : Nat} (ha : a < 4294967296) (d : decode M.1 pc = .ok (.ifCond .gt off, 3)) (ht : (pc : Int) + off = (tgt : Int))
    (kt : (0 < a ∧ a < 2147483648) → V l G M Γ k n tgt L st X) (kf : ¬ (0 < a ∧ a < 2147483648) → V l G M Γ k n (pc + 3) L st X) : V l G M Γ k n pc L (.int (nI a) :: st) X := by
  intro ok H locs ls hl hP hD hS
  obtain ⟨hx, hb, hml, hown, hts, ⟨hK, hNst⟩, hA, hlk⟩ := id ok
  exact lv_if_gt hx hb d ht (fun h9 => kt ((nI_gtB ha (by omega)).mp (show nI 0 < nI a by rw [nI_0]; exact h9)) ok _ _ _ hl hP hD hS) (fun h9 => kf (fun z => h9 (by have := (nI_gtB (b := 0) ha (by omega)).mpr z; rw [nI_0] at this; exact this)) ok _ _ _ hl hP hD hS)
theorem V_if_le {off : Int} {tgt : Nat} {a : Nat} (ha : a < 4294967296) (d : decode M.1 pc = .ok (.ifCond .le off, 3)) (ht : (pc : Int) + off = (tgt : Int))
    (kt : (a = 0 ∨ 2147483648 ≤ a) → V l G M Γ k n tgt L st X) (kf : ¬ (a = 0 ∨ 2147483648 ≤ a) → V l G M Γ k n (pc + 3) L st X) : V l G M Γ k n pc L (.int (nI a) :: st) X := by
  intro ok H locs ls hl hP hD hS
  obtain ⟨hx, hb, hml, hown, hts, ⟨hK, hNst⟩, hA, hlk⟩ := id ok
  exact lv_if_le hx hb d ht (fun h9 => kt (by have := (nI_leB ha (by omega)).mp (show nI a ≤ nI 0 by rw [nI_0]; exact h9); omega) ok _ _ _ hl hP hD hS) (fun h9 => kf (fun z => h9 (by have := (nI_leB (b := 0) ha (by omega)).mpr (by omega); rw [nI_0] at this; exact this)) ok _ _ _ hl hP hD hS)
theorem V_goto {off : Int} {tgt : Nat} (d : decode M.1 pc = .ok (.goto off, 3)) (ht : (pc : Int) + off = (tgt : Int))
    (kk : V l G M Γ k n tgt L st X) : V l G M Γ k n pc L st X := by
  intro ok H locs ls hl hP hD hS
  obtain ⟨hx, hb, hml, hown, hts, ⟨hK, hNst⟩, hA, hlk⟩ := id ok
  exact lv_goto hx hb d ht (kk ok _ _ _ hl hP hD hS)
theorem V_tableIn {dflt lo hi : Int} {offs : Array Int} {len : Nat} {a : Nat} {off : Int} {tgt : Nat} (d : decode M.1 pc = .ok (.tableswitch dflt lo hi offs, len)) (ha : a < 2147483648) (h1 : lo ≤ (a : Int)) (h2 : (a : Int) ≤ hi) (ho : offs[((a : Int) - lo).toNat]? = some off) (ht : (pc : Int) + off = (tgt : Int))
    (kk : V l G M Γ k n tgt L st X) : V l G M Γ k n pc L (.int (nI a) :: st) X := by
  intro ok H locs ls hl hP hD hS
  obtain ⟨hx, hb, hml, hown, hts, ⟨hK, hNst⟩, hA, hlk⟩ := id ok
  exact lv_tableIn hx hb d (by rw [nI_sm ha]; omega) (by rw [nI_sm ha]; omega) (by rw [nI_sm ha]; exact ho) ht (kk ok _ _ _ hl hP hD hS)
theorem V_tableOut {dflt lo hi : Int} {offs : Array Int} {len : Nat} {a : Nat} {tgt : Nat} (d : decode M.1 pc = .ok (.tableswitch dflt lo hi offs, len)) (h : (nI a).toInt < lo ∨ hi < (nI a).toInt) (ht : (pc : Int) + dflt = (tgt : Int))
    (kk : V l G M Γ k n tgt L st X) : V l G M Γ k n pc L (.int (nI a) :: st) X := by
  intro ok H locs ls hl hP hD hS
  obtain ⟨hx, hb, hml, hown, hts, ⟨hK, hNst⟩, hA, hlk⟩ := id ok
  exact lv_tableOut hx hb d h ht (kk ok _ _ _ hl hP hD hS)
theorem V_lookup {dflt : Int} {ps : Array (Int × Int)} {len : Nat} {x : Int32} {off : Int} {tgt : Nat} (d : decode M.1 pc = .ok (.lookupswitch dflt ps, len)) (hp : (ps.toList.zip (ps.toList.drop 1)).all (fun (a, next) => a.1 < next.1) = true) (ho : Op.lookupswitch.offset ps.toList dflt x.toInt = off) (ht : (pc : Int) + off = (tgt : Int))
    (kk : V l G M Γ k n tgt L st X) : V l G M Γ k n pc L (.int x :: st) X := by
  intro ok H locs ls hl hP hD hS
  obtain ⟨hx, hb, hml, hown, hts, ⟨hK, hNst⟩, hA, hlk⟩ := id ok
  exact lv_lookup hx hb d hp ho ht (kk ok _ _ _ hl hP hD hS)
theorem V_get {q index : Nat} {ref C : String} {T : u_T} {N ci a : Nat} {fs : List Value} {v : Value} (j : Nat) (hX : X[q]? = some [(a, .inr (ci, fs))]) (hin : ∀ w ∈ u_ws C T N, w ∈ M.2.2.1) (hc : vwCl[ci]? = some (C, T, N)) (hk : Nat.blt j N = true) (hlink : Cond.fieldLink M.2.2.2.1 index ref (T j).2.1 (T j).2.2.1 ∈ M.2.2.1) (hsame : (T j).1 = ref) (hv : fs[j]? = some v) (d : decode M.1 pc = .ok (.getfield index, 3))
    (kk : V l G M Γ k n (pc + 3) L (v :: st) X) : V l G M Γ k n pc L (.ref a :: st) X := by
  intro ok H locs ls hl hP hD hS
  obtain ⟨hx, hb, hml, hown, hts, ⟨hK, hNst⟩, hA, hlk⟩ := id ok
  obtain ⟨p9, e9, -⟩ := vX_pos hX
  exact va_get (D := G.1) (ci := ci) (v := v) (C := C) (T := T) (N := N) hx hb hts hin hown hK hP p9 e9 hc j (Nat.le_of_ble_eq_true hk) (hts _ hlink) (fun _ h9 => by rw [← hsame]; exact h9) hv d (kk ok _ _ _ hl hP hD hS)
theorem V_put {q index : Nat} {ref C : String} {T : u_T} {N ci a : Nat} {fs : List Value} {v : Value} {ty : FieldType} {ty0 : Nat → FieldType} (j : Nat) (hX : X[q]? = some [(a, .inr (ci, fs))]) (hin : ∀ w ∈ u_ws C T N, w ∈ M.2.2.1) (hty : ∀ k, k < N → parseFieldDescriptor (T k).2.2.1 = some (ty0 k)) (hnm : ∀ a, a < N → ∀ b, b < N → a ≠ b → (T a).2.1 ≠ (T b).2.1) (hc : vwCl[ci]? = some (C, T, N)) (hk : Nat.blt j N = true) (hlink : Cond.fieldLink M.2.2.2.1 index ref (T j).2.1 (T j).2.2.1 ∈ M.2.2.1) (hsame : (T j).1 = ref) (hfin : (T j).2.2.2 = false) (hd : ty0 j = ty) (hn : narrow ty v = v) (hfit : fits ty v = true) (hl9 : Nat.blt j fs.length = true) (d : decode M.1 pc = .ok (.putfield index, 3))
    (kk : V l G M Γ k n (pc + 3) L st (X.set q [(a, .inr (ci, fs.set j v))])) : V l G M Γ k n pc L (v :: .ref a :: st) X := by
  intro ok H locs ls hl hP hD hS
  obtain ⟨hx, hb, hml, hown, hts, ⟨hK, hNst⟩, hA, hlk⟩ := id ok
  obtain ⟨p9, e9, s9⟩ := vX_pos hX
  exact va_put (D := G.1) (ci := ci) (v := v) (ty := ty) (C := C) (T := T) (N := N) hx hb hts hin ty0 hty hnm hown hK hP hD hS p9 e9 hc j (Nat.le_of_ble_eq_true hk) (hts _ hlink) (fun _ h9 => by rw [← hsame]; exact h9) hfin (by rw [hty j (Nat.le_of_ble_eq_true hk), hd]) hn hfit (Nat.le_of_ble_eq_true hl9) d (fun H1 l1 p1 d1 s1 => kk ok _ _ _ hl (by rw [← s9]; exact p1) (by rw [← s9]; exact d1) s1)
theorem V_iald {q a N i : Nat} {f : Nat → Nat} (hX : X[q]? = some [(a, .inl (G.2 0, N, .inl (nA f)))]) (hi : i < N) (hN : Nat.blt N 2147483648 = true) (d : decode M.1 pc = .ok (.iaload, 1))
    (kk : V l G M Γ k n (pc + 1) L (.int (nI (f i)) :: st) X) : V l G M Γ k n pc L (.int (nI i) :: .ref a :: st) X := by
  intro ok H locs ls hl hP hD hS
  obtain ⟨hx, hb, hml, hown, hts, ⟨hK, hNst⟩, hA, hlk⟩ := id ok
  obtain ⟨p9, e9, -⟩ := vX_pos hX
  have hN2 : N < 2147483648 := Nat.le_of_ble_eq_true hN
  refine va_iald hx hb hK hP p9 0 e9 rfl (nI_inA hi hN2) d ?_
  rw [nI_cl (by omega)]
  exact kk ok _ _ _ hl hP hD hS
theorem V_iast {q a N i v : Nat} {f : Nat → Nat} (hX : X[q]? = some [(a, .inl (G.2 0, N, .inl (nA f)))]) (hi : i < N) (hN : Nat.blt N 2147483648 = true) (d : decode M.1 pc = .ok (.iastore, 1))
    (kk : V l G M Γ k n (pc + 1) L st (X.set q [(a, .inl (G.2 0, N, .inl (nA (va_up f i v))))])) : V l G M Γ k n pc L (.int (nI v) :: .int (nI i) :: .ref a :: st) X := by
  intro ok H locs ls hl hP hD hS
  obtain ⟨hx, hb, hml, hown, hts, ⟨hK, hNst⟩, hA, hlk⟩ := id ok
  obtain ⟨p9, e9, s9⟩ := vX_pos hX
  have hN2 : N < 2147483648 := Nat.le_of_ble_eq_true hN
  refine va_iast hx hb hK hP hD hS p9 0 e9 rfl (nI_inA hi hN2) d (fun H1 l1 p1 d1 s1 => ?_)
  rw [nI_cl (by omega), nA_up, s9] at p1 d1
  exact kk ok _ _ _ hl p1 d1 s1
theorem V_zald {q a N i : Nat} {f : Nat → Nat} (hX : X[q]? = some [(a, .inl (G.2 1, N, .inl (nA f)))]) (hi : i < N) (hN : Nat.blt N 2147483648 = true) (d : decode M.1 pc = .ok (.baload, 1))
    (kk : V l G M Γ k n (pc + 1) L (.int (nI (f i)) :: st) X) : V l G M Γ k n pc L (.int (nI i) :: .ref a :: st) X := by
  intro ok H locs ls hl hP hD hS
  obtain ⟨hx, hb, hml, hown, hts, ⟨hK, hNst⟩, hA, hlk⟩ := id ok
  obtain ⟨p9, e9, -⟩ := vX_pos hX
  have hN2 : N < 2147483648 := Nat.le_of_ble_eq_true hN
  refine va_zald hx hb hK hP p9 1 e9 rfl (nI_inA hi hN2) d ?_
  rw [nI_cl (by omega)]
  exact kk ok _ _ _ hl hP hD hS
theorem V_zast {q a N i v : Nat} {f : Nat → Nat} (hX : X[q]? = some [(a, .inl (G.2 1, N, .inl (nA f)))]) (hi : i < N) (hN : Nat.blt N 2147483648 = true) (hv : v = 0 ∨ v = 1) (d : decode M.1 pc = .ok (.bastore, 1))
    (kk : V l G M Γ k n (pc + 1) L st (X.set q [(a, .inl (G.2 1, N, .inl (nA (va_up f i v))))])) : V l G M Γ k n pc L (.int (nI v) :: .int (nI i) :: .ref a :: st) X := by
  intro ok H locs ls hl hP hD hS
  obtain ⟨hx, hb, hml, hown, hts, ⟨hK, hNst⟩, hA, hlk⟩ := id ok
  obtain ⟨p9, e9, s9⟩ := vX_pos hX
  have hN2 : N < 2147483648 := Nat.le_of_ble_eq_true hN
  refine va_zast hx hb hK hP hD hS p9 1 e9 rfl (nI_inA hi hN2) d (fun H1 l1 p1 d1 s1 => ?_)
  rw [nI_cl (by omega), show vp_nar .boolean (nI v) = nI v by rcases hv with rfl | rfl <;> decide, nA_up, s9] at p1 d1
  exact kk ok _ _ _ hl p1 d1 s1
theorem V_aaldC {q a N i : Nat} {f : Nat → Nat} (hX : X[q]? = some [(a, .inl (G.2 2, N, .inr (.inr (.inr (.inr (rA f))))))]) (hi : i < N) (hN : Nat.blt N 2147483648 = true) (d : decode M.1 pc = .ok (.aaload, 1))
    (kk : V l G M Γ k n (pc + 1) L (.ref (f i) :: st) X) : V l G M Γ k n pc L (.int (nI i) :: .ref a :: st) X := by
  intro ok H locs ls hl hP hD hS
  obtain ⟨hx, hb, hml, hown, hts, ⟨hK, hNst⟩, hA, hlk⟩ := id ok
  obtain ⟨p9, e9, -⟩ := vX_pos hX
  have hN2 : N < 2147483648 := Nat.le_of_ble_eq_true hN
  refine va_aldq hx hb hK hP p9 2 e9 rfl (nI_inA hi hN2) d ?_
  rw [nI_cl (by omega)]
  exact kk ok _ _ _ hl hP hD hS
theorem V_aaldE {q a N i : Nat} {f : Nat → Nat} (hX : X[q]? = some [(a, .inl (G.2 3, N, .inr (.inr (.inr (.inr (rA f))))))]) (hi : i < N) (hN : Nat.blt N 2147483648 = true) (d : decode M.1 pc = .ok (.aaload, 1))
    (kk : V l G M Γ k n (pc + 1) L (.ref (f i) :: st) X) : V l G M Γ k n pc L (.int (nI i) :: .ref a :: st) X := by
  intro ok H locs ls hl hP hD hS
  obtain ⟨hx, hb, hml, hown, hts, ⟨hK, hNst⟩, hA, hlk⟩ := id ok
  obtain ⟨p9, e9, -⟩ := vX_pos hX
  have hN2 : N < 2147483648 := Nat.le_of_ble_eq_true hN
  refine va_aldq hx hb hK hP p9 3 e9 rfl (nI_inA hi hN2) d ?_
  rw [nI_cl (by omega)]
  exact kk ok _ _ _ hl hP hD hS
theorem V_lald {q a N i : Nat} {f : Nat → Int64} (hX : X[q]? = some [(a, .inl (G.2 4, N, .inr (.inl f)))]) (hi : i < N) (hN : Nat.blt N 2147483648 = true) (d : decode M.1 pc = .ok (.laload, 1))
    (kk : V l G M Γ k n (pc + 1) L (.long (f i) :: st) X) : V l G M Γ k n pc L (.int (nI i) :: .ref a :: st) X := by
  intro ok H locs ls hl hP hD hS
  obtain ⟨hx, hb, hml, hown, hts, ⟨hK, hNst⟩, hA, hlk⟩ := id ok
  obtain ⟨p9, e9, -⟩ := vX_pos hX
  have hN2 : N < 2147483648 := Nat.le_of_ble_eq_true hN
  refine va_lald hx hb hK hP p9 4 e9 rfl (nI_inA hi hN2) d ?_
  rw [nI_cl (by omega)]
  exact kk ok _ _ _ hl hP hD hS
theorem V_last {q a N i : Nat} {x : Int64} {f : Nat → Int64} (hX : X[q]? = some [(a, .inl (G.2 4, N, .inr (.inl f)))]) (hi : i < N) (hN : Nat.blt N 2147483648 = true) (d : decode M.1 pc = .ok (.lastore, 1))
    (kk : V l G M Γ k n (pc + 1) L st (X.set q [(a, .inl (G.2 4, N, .inr (.inl (vp_updL f i x))))])) : V l G M Γ k n pc L (.long x :: .int (nI i) :: .ref a :: st) X := by
  intro ok H locs ls hl hP hD hS
  obtain ⟨hx, hb, hml, hown, hts, ⟨hK, hNst⟩, hA, hlk⟩ := id ok
  obtain ⟨p9, e9, s9⟩ := vX_pos hX
  have hN2 : N < 2147483648 := Nat.le_of_ble_eq_true hN
  refine va_last hx hb hK hP hD hS p9 4 e9 rfl (nI_inA hi hN2) d (fun H1 l1 p1 d1 s1 => ?_)
  rw [nI_cl (by omega), s9] at p1 d1
  exact kk ok _ _ _ hl p1 d1 s1
theorem V_alen {q a t N : Nat} {cA : ClassId} {ty : FieldType} {z : (Nat → Int32) ⊕ (Nat → Int64) ⊕ (Nat → UInt32) ⊕ (Nat → UInt64) ⊕ (Nat → Option Nat)} (hX : X[q]? = some [(a, .inl (cA, N, z))]) (ht : (vT G)[t]? = some (cA, ty)) (d : decode M.1 pc = .ok (.arraylength, 1))
    (kk : V l G M Γ k n (pc + 1) L (.int (nI N) :: st) X) : V l G M Γ k n pc L (.ref a :: st) X := by
  intro ok H locs ls hl hP hD hS
  obtain ⟨hx, hb, hml, hown, hts, ⟨hK, hNst⟩, hA, hlk⟩ := id ok
  obtain ⟨p9, e9, -⟩ := vX_pos hX
  exact va_alen hx hb hK hP p9 t e9 ht rfl d (kk ok _ _ _ hl hP hD hS)
theorem V_copy {q0 q1 a0 a1 N0 N1 index m9 : Nat} {f g : Nat → Nat} (h0 : X[q0]? = some [(a0, .inl (G.2 0, N0, .inl (nA f)))]) (h1 : X[q1]? = some [(a1, .inl (G.2 0, N1, .inl (nA g)))]) (hm0 : m9 ≤ N0) (hm1 : m9 ≤ N1) (hm : Nat.blt m9 2147483648 = true) (hlink : Cond.methodLink M.2.2.2.1 index arraycopyName ∈ M.2.2.1) (hnat : Cond.native arraycopyName ∈ M.2.2.1) (hstat : Cond.static arraycopyName ∈ M.2.2.1) (hini : Cond.initialized "java/lang/System" ∈ M.2.2.1) (hR : 1 ≤ M.2.2.2.2.frames ∧ (st.map fun v => v.category).sum + (nativeFrameWords "java/lang/System" "arraycopy" 5 + 11) ≤ M.2.2.2.2.locals) (d : decode M.1 pc = .ok (.invokestatic index, 3))
    (kk : V l G M Γ k n (pc + 3) L st (X.set q1 [(a1, .inl (G.2 0, N1, .inl (nA (fun k => if k < m9 then f k else g k))))])) : V l G M Γ k n pc L (.int (nI m9) :: .int (nI 0) :: .ref a1 :: .int (nI 0) :: .ref a0 :: st) X := by
  intro ok H locs ls hl hP hD hS
  obtain ⟨hx, hb, hml, hown, hts, ⟨hK, hNst⟩, hA, hlk⟩ := id ok
  obtain ⟨p0, e0, -⟩ := vX_pos h0
  obtain ⟨p1, e1, s1⟩ := vX_pos h1
  have hm9 : m9 < 2147483648 := Nat.le_of_ble_eq_true hm
  have z0 : (nI 0).toNatClampNeg = 0 := rfl
  refine va_copyi hx hb (by rw [hml]; exact hl.1.symm) hown (hts _ hlink) (hts _ hnat) (hts _ hstat) (hts _ hini) hK hP hD hS p0 p1 0 0 (ty := .int) e0 e1 rfl rfl rfl (by decide) (by decide) (by have := nI_pos (n := m9) (by omega); exact this) (by rw [nI_cl hm9, z0]; omega) (by rw [nI_cl hm9, z0]; omega) (fun _ _ => rfl) hR.1 hR.2 d (fun H1 l1 p9 d9 s9 => ?_)
  rw [nI_cl hm9, z0, nA_cpy, s1] at p9 d9
  exact kk ok _ _ _ hl p9 d9 s9
theorem V_objInit {a idx : Nat} (hlink : Cond.methodLink M.2.2.2.1 idx objectInit ∈ M.2.2.1) (hinst : Cond.instanceMethod objectInit ∈ M.2.2.1) (hcode : Cond.code objectInit ⟨#[0xb1]⟩ 1 none ∈ M.2.2.1) (hR : Nat.ble 1 M.2.2.2.2.frames = true ∧ Nat.ble ((st.map fun v => v.category).sum + 12) M.2.2.2.2.locals = true) (d : decode M.1 pc = .ok (.invokespecial idx, 3))
    (kk : V l G M Γ k n (pc + 3) L st X) : V l G M Γ k n pc L (.ref a :: st) X := by
  intro ok H locs ls hl hP hD hS
  obtain ⟨hx, hb, hml, hown, hts, ⟨hK, hNst⟩, hA, hlk⟩ := id ok
  refine W.objInit hx hb hown (hts _ hlink) (hts _ hinst) (hts _ hcode) rfl (by rw [hml]; exact hl.1) rfl d (Nat.le_of_ble_eq_true hR.1) (by have := Nat.le_of_ble_eq_true hR.2; show 2 * 0 + _ + 12 ≤ _; omega) ?_
  exact kk ok _ _ _ hl hP hD hS
end VC
