section VCALL
-- worlds up to order
theorem va_P.mem {D : va_G} {cl : List vw_C} {ws : va_W} {H : Heap} (h : va_P D cl ws H) {q : Nat × va_E} (hq : q ∈ ws) : va_at D cl q H := by
  obtain ⟨i, hi⟩ := List.getElem?_of_mem hq
  exact h i q hi
theorem va_P.ofMem {D : va_G} {cl : List vw_C} {ws : va_W} {H : Heap} (h : ∀ q ∈ ws, va_at D cl q H) : va_P D cl ws H := fun k q hk => h q (List.mem_of_getElem? hk)
theorem va_P.perm {D : va_G} {cl : List vw_C} {ws ws' : va_W} {H : Heap} (hp : ws.Perm ws') (h : va_P D cl ws H) : va_P D cl ws' H := .ofMem fun q hq => h.mem (hp.mem_iff.mpr hq)
theorem va_D_iff {A : Nat → Prop} {ws : va_W} : va_D A ws ↔ (ws.map Prod.fst).Nodup ∧ ∀ q ∈ ws, A q.1 := by
  constructor
  · rintro ⟨h1, h2⟩
    refine ⟨?_, fun q hq => ?_⟩
    · refine List.pairwise_iff_getElem.mpr (fun i j hi hj hij he => ?_)
      rw [List.length_map] at hi hj
      rw [List.getElem_map, List.getElem_map] at he
      have := h1 i j _ _ (List.getElem?_eq_getElem hi) (List.getElem?_eq_getElem hj) he
      omega
    · obtain ⟨i, hi⟩ := List.getElem?_of_mem hq
      exact h2 i q hi
  · rintro ⟨h1, h2⟩
    refine ⟨fun i j p q hp hq he => ?_, fun k q hk => h2 q (List.mem_of_getElem? hk)⟩
    have key : ∀ (i j : Nat) (p q : Nat × va_E), i < j → ws[i]? = some p → ws[j]? = some q → p.1 ≠ q.1 := by
      intro i j p q hij hp hq he
      obtain ⟨li, ei⟩ := List.getElem?_eq_some_iff.mp hp
      obtain ⟨lj, ej⟩ := List.getElem?_eq_some_iff.mp hq
      have := List.pairwise_iff_getElem.mp h1 i j (by rw [List.length_map]; exact li) (by rw [List.length_map]; exact lj) hij
      rw [List.getElem_map, List.getElem_map, ei, ej] at this
      exact this he
    rcases Nat.lt_trichotomy i j with h | h | h
    · exact absurd he (key i j p q h hp hq)
    · exact h
    · exact absurd he.symm (key j i q p h hq hp)
theorem va_D.perm {A : Nat → Prop} {ws ws' : va_W} (hp : ws.Perm ws') (h : va_D A ws) : va_D A ws' := by
  rw [va_D_iff] at h ⊢
  exact ⟨((hp.map Prod.fst).nodup_iff).mp h.1, fun q hq => h.2 q (hp.mem_iff.mpr hq)⟩
theorem va_D.left {A : Nat → Prop} {w1 w2 : va_W} (h : va_D A (w1 ++ w2)) : va_D A w1 := by
  rw [va_D_iff] at h ⊢
  rw [List.map_append, List.nodup_append] at h
  exact ⟨h.1.1, fun q hq => h.2 q (List.mem_append_left _ hq)⟩
theorem va_P.left {D : va_G} {cl : List vw_C} {w1 w2 : va_W} {H : Heap} (h : va_P D cl (w1 ++ w2) H) : va_P D cl w1 H := .ofMem fun q hq => h.mem (List.mem_append_left _ hq)
theorem va_A.left {wc : va_W} {sz q : Nat} : va_A wc sz q ↔ (q ∈ wc.map Prod.fst ∨ sz ≤ q) := by
  constructor
  · rintro (⟨k, e, h⟩ | h)
    · exact Or.inl (List.mem_map.mpr ⟨(q, e), List.mem_of_getElem? h, rfl⟩)
    · exact Or.inr h
  · rintro (h | h)
    · obtain ⟨⟨a, e⟩, h1, rfl⟩ := List.mem_map.mp h
      obtain ⟨i, hi⟩ := List.getElem?_of_mem h1
      exact Or.inl ⟨i, e, hi⟩
    · exact Or.inr h
theorem vjoin {A0 : Nat → Prop} {D : va_G} {cl : List vw_C} {wc wr w1 : va_W} {H H1 : Heap} (hP : va_P D cl (wc ++ wr) H) (hD : va_D A0 (wc ++ wr))
    (hk : ∀ q : Nat, q < H.size → ¬ va_A wc H.size q → H1[q]? = H[q]?) (hF : ∀ q, va_A wc H.size q → A0 q) (hP1 : va_P D cl w1 H1) (hD1 : va_D (va_A wc H.size) w1) : va_P D cl (w1 ++ wr) H1 ∧ va_D A0 (w1 ++ wr) := by
  rw [va_D_iff] at hD
  rw [List.map_append, List.nodup_append] at hD
  obtain ⟨⟨n1, n2, n3⟩, hA⟩ := hD
  have apart : ∀ q ∈ wr, q.1 < H.size ∧ ¬ va_A wc H.size q.1 := by
    intro q hq
    have hl := (hP.mem (List.mem_append_right _ hq)).lt
    refine ⟨hl, fun h => ?_⟩
    rcases va_A.left.mp h with h | h
    · exact n3 _ h _ (List.mem_map.mpr ⟨q, hq, rfl⟩) rfl
    · omega
  refine ⟨.ofMem fun q hq => ?_, va_D_iff.mpr ⟨?_, fun q hq => ?_⟩⟩
  · rcases List.mem_append.mp hq with h | h
    · exact hP1.mem h
    · exact (hP.mem (List.mem_append_right _ h)).kept (hk q.1 (apart q h).1 (apart q h).2)
  · rw [List.map_append, List.nodup_append]
    refine ⟨(va_D_iff.mp hD1).1, n2, fun a ha b hb e => ?_⟩
    obtain ⟨p, hp, rfl⟩ := List.mem_map.mp ha
    obtain ⟨q, hq, rfl⟩ := List.mem_map.mp hb
    exact (apart q hq).2 (e ▸ (va_D_iff.mp hD1).2 p hp)
  · rcases List.mem_append.mp hq with h | h
    · exact hF _ ((va_D_iff.mp hD1).2 q h)
    · exact hA q (List.mem_append_right _ h)
-- items taken out and put back
def vpick : List va_W → List Nat → va_W
  | _, [] => []
  | X, i :: is => X.getD i [] ++ vpick (X.set i []) is
def vhole : List va_W → List Nat → List va_W
  | X, [] => X
  | X, i :: is => vhole (X.set i []) is
def vfill : List va_W → List Nat → List va_W → List va_W
  | X, i :: is, y :: ys => vfill (X.set i y) is ys
  | X, _, _ => X
theorem vpick_perm (X : List va_W) (is : List Nat) : X.flatten.Perm (vpick X is ++ (vhole X is).flatten) := by
  induction is generalizing X with
  | nil => exact List.Perm.refl _
  | cons i is ih =>
    have h1 : X.flatten.Perm (X.getD i [] ++ (X.set i []).flatten) := by
      by_cases h : i < X.length
      · have hg : X[i]? = some X[i] := List.getElem?_eq_getElem h
        have e1 := vX_get hg
        have h3 : (X.set i [])[i]? = some [] := List.getElem?_set_self h
        have e2 := vX_get h3
        rw [List.take_set_of_le (Nat.le_refl _), List.drop_set_of_lt (Nat.lt_succ_self _), List.nil_append] at e2
        rw [e1, e2, List.getD_eq_getElem?_getD, hg, Option.getD_some]
        exact List.perm_append_comm_assoc _ _ _
      · rw [List.getD_eq_getElem?_getD, List.getElem?_eq_none (by omega), List.set_eq_of_length_le (by omega)]
        exact List.Perm.refl _
    show X.flatten.Perm ((X.getD i [] ++ vpick (X.set i []) is) ++ (vhole (X.set i []) is).flatten)
    rw [List.append_assoc]
    exact h1.trans (List.Perm.append_left _ (ih _))
def vIdx : List Nat → Nat → Bool
  | [], _ => true
  | i :: is, n => Nat.blt i n && (!(is.any (fun j => Nat.beq j i))) && vIdx is n
theorem vIdx_cons {i : Nat} {is : List Nat} {n : Nat} (h : vIdx (i :: is) n = true) : i < n ∧ (∀ j ∈ is, j ≠ i) ∧ vIdx is n = true := by
  simp only [vIdx, Bool.and_eq_true, Bool.not_eq_true', List.any_eq_false] at h
  exact ⟨Nat.le_of_ble_eq_true h.1.1, fun j hj e => h.1.2 j hj (by rw [e]; exact Nat.beq_refl i), h.2⟩
theorem vgetD_ne {X : List va_W} {i j : Nat} {w : va_W} (h : j ≠ i) : (X.set i w).getD j [] = X.getD j [] := by
  rw [List.getD_eq_getElem?_getD, List.getD_eq_getElem?_getD, List.getElem?_set_ne (Ne.symm h)]
theorem vpick_map : ∀ (is : List Nat) (X : List va_W), vIdx is X.length = true → vpick X is = (is.map (fun i => X.getD i [])).flatten
  | [], _, _ => rfl
  | i :: is, X, h => by
    obtain ⟨h1, h2, h3⟩ := vIdx_cons h
    show X.getD i [] ++ vpick (X.set i []) is = X.getD i [] ++ (is.map (fun i => X.getD i [])).flatten
    rw [vpick_map is (X.set i []) (by rw [List.length_set]; exact h3)]
    congr 2
    exact List.map_congr_left (fun j hj => vgetD_ne (h2 j hj))
theorem vfill_len : ∀ (is : List Nat) (X Y : List va_W), (vfill X is Y).length = X.length
  | [], X, Y => by cases Y <;> rfl
  | i :: is, X, [] => rfl
  | i :: is, X, y :: ys => by
    show (vfill (X.set i y) is ys).length = X.length
    rw [vfill_len is, List.length_set]
theorem vfill_out : ∀ (is : List Nat) (X Y : List va_W) (j : Nat), j ∉ is → (vfill X is Y)[j]? = X[j]?
  | [], X, Y, j, _ => by cases Y <;> rfl
  | i :: is, X, [], j, _ => rfl
  | i :: is, X, y :: ys, j, h => by
    show (vfill (X.set i y) is ys)[j]? = X[j]?
    rw [vfill_out is _ _ j (fun z => h (List.mem_cons_of_mem _ z)), List.getElem?_set_ne (fun e => h (by rw [e]; exact List.mem_cons_self))]
theorem vfill_map : ∀ (is : List Nat) (X Y : List va_W), vIdx is X.length = true → Y.length = is.length → is.map (fun i => (vfill X is Y).getD i []) = Y
  | [], X, [], _, _ => rfl
  | i :: is, X, y :: ys, h, hl => by
    obtain ⟨h1, h2, h3⟩ := vIdx_cons h
    show (vfill (X.set i y) is ys).getD i [] :: is.map (fun i2 => (vfill (X.set i y) is ys).getD i2 []) = y :: ys
    rw [vfill_map is (X.set i y) ys (by rw [List.length_set]; exact h3) (by simpa using hl), List.getD_eq_getElem?_getD, vfill_out is _ _ i (fun z => h2 i z rfl), List.getElem?_set_self h1]
    rfl
theorem vhole_at : ∀ (is : List Nat) (X : List va_W) (j : Nat), (vhole X is)[j]? = if j ∈ is then X[j]?.map (fun _ => []) else X[j]?
  | [], X, j => by rw [if_neg (by simp)]; rfl
  | i :: is, X, j => by
    show (vhole (X.set i []) is)[j]? = _
    rw [vhole_at is (X.set i []) j]
    by_cases hj : j = i
    · subst hj
      rw [if_pos (List.mem_cons_self)]
      by_cases hl : j < X.length
      · rw [List.getElem?_set_self hl, List.getElem?_eq_getElem hl]
        split <;> rfl
      · rw [List.getElem?_eq_none (by rw [List.length_set]; omega), List.getElem?_eq_none (by omega)]
        split <;> rfl
    · rw [List.getElem?_set_ne (fun e => hj e.symm)]
      by_cases hm : j ∈ is
      · rw [if_pos hm, if_pos (List.mem_cons_of_mem _ hm)]
      · rw [if_neg hm, if_neg (fun z => (List.mem_cons.mp z).elim hj hm)]
theorem vhole_fill (is : List Nat) (X Y : List va_W) : vhole (vfill X is Y) is = vhole X is := by
  refine List.ext_getElem? (fun j => ?_)
  rw [vhole_at, vhole_at]
  by_cases hm : j ∈ is
  · rw [if_pos hm, if_pos hm]
    by_cases hl : j < X.length
    · rw [List.getElem?_eq_getElem hl, List.getElem?_eq_getElem (by rw [vfill_len]; exact hl)]
      rfl
    · have e1 : X[j]? = none := List.getElem?_eq_none (by omega)
      have e2 : (vfill X is Y)[j]? = none := List.getElem?_eq_none (by rw [vfill_len]; omega)
      rw [e1, e2]
  · rw [if_neg hm, if_neg hm, vfill_out is X Y j hm]
theorem vfill_pick {is : List Nat} {X Y : List va_W} (h : vIdx is X.length = true) (hl : Y.length = is.length) : vpick (vfill X is Y) is = Y.flatten := by
  rw [vpick_map is _ (by rw [vfill_len]; exact h), vfill_map is X Y h hl]
-- contracts
def vQE (G : vG) (E : Option Value → List va_W → Prop) (A : Nat → Prop) : Array Value → State → Outcome → State → Prop := fun _ st oc t => (∃ (v : Option Value) (Y : List va_W), oc = .returned v ∧ E v Y ∧ va_P G.1 vwCl Y.flatten t.heap ∧ va_D A Y.flatten) ∧ va_F A st t
def vPre (G : vG) (as : List Value) (X : List va_W) (sz : Nat) : Array Value → State → Prop := va_Pc as (fun U => U.heap.size = sz ∧ va_P G.1 vwCl X.flatten U.heap ∧ vK G U ∧ va_D (fun _ => True) X.flatten)
/-- y, called with as in a world that holds X, returns; its answer and the world behind it keep E; mc cells of ms slots are new -/
def Kc (l : Launch) (G : vG) (y : MethodName) (ws : List Cond) (rm : Room) (as : List Value) (X : List va_W) (E : Option Value → List va_W → Prop) (mc ms : Nat) : Prop :=
  ∀ sz : Nat, Met l y ws rm (vPre G as X sz) (vQE G E (va_A X.flatten sz)) mc ms (va_A X.flatten sz)
theorem Kc.mono {l : Launch} {G : vG} {y : MethodName} {ws : List Cond} {rm : Room} {as : List Value} {X : List va_W} {E E' : Option Value → List va_W → Prop} {mc ms : Nat} (h : Kc l G y ws rm as X E mc ms) (hE : ∀ v Y, E v Y → E' v Y) : Kc l G y ws rm as X E' mc ms := by
  exact fun sz => MetFree.mono (h sz) (fun _ _ h => h) (fun _ _ _ _ _ h => h) (fun a st o t _ hq => ⟨⟨hq.1.1.elim fun v hv => hv.elim fun Y hY => ⟨v, Y, hY.1, hE v Y hY.2.1, hY.2.2⟩, hq.1.2⟩, hq.2⟩)
def vXC (G : vG) (EX : String → List va_W → Prop) (A : Nat → Prop) : String → State → State → Prop := fun cls st t => (∃ Y : List va_W, EX cls Y ∧ va_P G.1 vwCl Y.flatten t.heap ∧ va_D A Y.flatten) ∧ va_F A st t
/-- what the body's end owes -/
def vRet (G : vG) (Γ : vF) (ret : Option FieldType) (E : Option Value → List va_W → Prop) (mc ms : Nat) : Prop :=
  Γ.2.2.2.2.2.2.1.sig.returnType = ret ∧ (Γ.2.2.2.2.2.2.2.2.1 = MQ Γ.2.2.2.2.2.1 (vQE G E Γ.2.2.2.2.2.2.2.2.2) Γ.2.2.2.2.1 Γ.2.2.1 mc ms Γ.2.2.2.2.2.2.2.2.2 ∨ ∃ XC, Γ.2.2.2.2.2.2.2.2.1 = vx_MQ Γ.2.2.2.2.2.1 (vQE G E Γ.2.2.2.2.2.2.2.2.2) XC Γ.2.2.2.2.1 Γ.2.2.1 mc ms Γ.2.2.2.2.2.2.2.2.2)
/-- the locals at the entry -/
def vEn : List Value → Nat → List (Option Value)
  | [], m => List.replicate m none
  | v :: r, m => if v.category = 2 then some v :: none :: vEn r (m - 2) else some v :: vEn r (m - 1)
theorem vEn_mem : ∀ (as : List Value) (m i j : Nat) (v : Value), (vEn as m)[i]? = some (some v) → (i + j, v) ∈ lv_args j as
  | [], m, i, j, v, h => by
    have := List.eq_of_mem_replicate (List.mem_of_getElem? h)
    cases this
  | w :: r, m, i, j, v, h => by
    unfold vEn at h
    unfold lv_args
    split at h
    · rename_i hc
      rw [if_pos hc]
      match i, h with
      | 0, h => cases h; rw [Nat.zero_add]; exact List.mem_cons_self
      | 1, h => cases h
      | i + 2, h =>
        have h1 := vEn_mem r (m - 2) i (j + 2) v h
        rw [show i + 2 + j = i + (j + 2) by omega]
        exact List.mem_cons_of_mem _ h1
    · rename_i hc
      rw [if_neg hc]
      match i, h with
      | 0, h => cases h; rw [Nat.zero_add]; exact List.mem_cons_self
      | i + 1, h =>
        have h1 := vEn_mem r (m - 1) i (j + 1) v h
        rw [show i + 1 + j = i + (j + 1) by omega]
        exact List.mem_cons_of_mem _ h1
variable {l : Launch} {G : vG} {M : vM} {Γ : vF} {k n pc : Nat} {L : List (Option Value)} {st : List Value} {X : List va_W}
theorem V_enter {y : MethodName} {cc : ByteArray} {maxL : Nat} {ret : Option FieldType} {ws ws' : List Cond} {rm : Room} {as : List Value} {E : Option Value → List va_W → Prop} {mc ms : Nat} {own : String} (L0 : List (Option Value))
    (hy : plainName y.cls = true) (hw : ws = Cond.code y cc maxL ret :: ws') (ho : y.cls = own) (hn : (lg_sl as).length ≤ maxL) (hL0 : vEn as maxL = L0)
    (body : ∀ Γ : vF, vRet G Γ ret E mc ms → (y.name = "<init>" → Γ.2.2.2.2.2.2.1.name = "<init>") → V l G (cc, maxL, ws, own, rm) Γ 0 0 0 L0 [] X) : Kc l G y ws rm as X E mc ms := by
  subst hL0
  intro sz
  refine Met.ofW (cc := cc) (maxL := maxL) (ret := ret) hy hw ?_
  intro p e s m args below meth c s₁ B hml hv
  obtain ⟨rfl, hsz, hP, hK, hD0⟩ := hv
  have hD := hD0.self (sz := sz)
  subst hsz
  have hl := lv_entry as (n := maxL) hn
  rw [lg_entry_eq]
  have h0 := body (p, e, s, m, as.toArray, below, meth, c, MQ below (vQE G E (va_A X.flatten s.heap.size)) as.toArray s mc ms (va_A X.flatten s.heap.size), va_A X.flatten s.heap.size) ⟨B.returns, Or.inl rfl⟩ (fun h9 => ((name_of_methodNamed B.named B.method).1).trans h9)
  exact h0 ⟨B.exec, B.bytes, hml, by rw [← ho]; exact findClass_of_methodNamed B.named, atoms_spec (ws := ws) B.pre, hK, fun q h => Or.inr h, B.notSynchronized⟩ s.heap [] _ (vL_of hl (fun i v h => by have := vEn_mem as maxL i 0 v h; rwa [Nat.add_zero] at this)) hP hD va_S.rf
theorem V_end {ret : Option FieldType} {E : Option Value → List va_W → Prop} {mc ms : Nat} {v : Option Value} {g : State → JFrame} (hR : vRet G Γ ret E mc ms) (hE : E v X) (hk : k ≤ mc) (hn : n ≤ ms)
    (h : ∀ (Qc : Array Value → State → Outcome → State → Prop) (H : Heap) (locs : List Loc) (ls : Array Slot), vOk l G M Γ → Γ.2.2.2.2.2.2.1.sig.returnType = ret → (∀ t : State, t.heap = H → Γ.2.2.1.WarmedH t.vm → Qc Γ.2.2.2.2.1 Γ.2.2.1 (.returned v) t) → (∀ q ∈ locs, Γ.2.2.2.2.2.2.2.2.2 q.base) →
      W Γ.1 l Γ.2.1 M.2.2.2.2 Γ.2.2.1 Γ.2.2.2.1 Γ.2.2.2.2.1 Γ.2.2.2.2.2.1 Γ.2.2.2.2.2.2.1 Γ.2.2.2.2.2.2.2.1 H locs mc ms (MQ Γ.2.2.2.2.2.1 Qc Γ.2.2.2.2.1 Γ.2.2.1 mc ms Γ.2.2.2.2.2.2.2.2.2) (F0 Γ.2.2.2.1 pc ls st)) : V l G M Γ k n pc L st X := by
  intro ok H locs ls hl hP hD hS
  have h1 := h (vQE G E Γ.2.2.2.2.2.2.2.2.2) H locs ls ok hR.1 (fun t ht hW => ⟨⟨v, X, rfl, hE, by rw [ht]; exact hP, hD⟩, hS.F ht⟩) hS.2.2
  refine W.widen hk hn ?_
  rcases hR.2 with e | ⟨XC, e⟩
  · rw [e]; exact h1
  · rw [e]; exact vx_ret h1
theorem V_iret {E : Option Value → List va_W → Prop} {mc ms : Nat} {x : Int32} (hR : vRet G Γ (some .int) E mc ms) (d : decode M.1 pc = .ok (.ireturn, 1)) (hk : k ≤ mc) (hn : n ≤ ms) (hE : E (some (.int x)) X) : V l G M Γ k n pc L [.int x] X :=
  V_end (g := fun _ => F0 Γ.2.2.2.1 pc #[] []) hR hE hk hn (fun Qc H locs ls ok hr hq hf => W.iret ok.1 ok.2.1 hr hq hf d ok.2.2.2.2.2.2.2)
theorem V_zret {E : Option Value → List va_W → Prop} {mc ms : Nat} {x : Nat} (hR : vRet G Γ (some .boolean) E mc ms) (d : decode M.1 pc = .ok (.ireturn, 1)) (hx : x = 0 ∨ x = 1) (hk : k ≤ mc) (hn : n ≤ ms) (hE : E (some (.int (nI x))) X) : V l G M Γ k n pc L [.int (nI x)] X :=
  V_end (g := fun _ => F0 Γ.2.2.2.1 pc #[] []) hR hE hk hn (fun Qc H locs ls ok hr hq hf => W.zret ok.1 ok.2.1 hr (by rcases hx with rfl | rfl <;> decide) hq hf d ok.2.2.2.2.2.2.2)
theorem V_vret {E : Option Value → List va_W → Prop} {mc ms : Nat} (hR : vRet G Γ none E mc ms) (d : decode M.1 pc = .ok (.return_, 1)) (hk : k ≤ mc) (hn : n ≤ ms) (hE : E none X) : V l G M Γ k n pc L [] X :=
  V_end (g := fun _ => F0 Γ.2.2.2.1 pc #[] []) hR hE hk hn (fun Qc H locs ls ok hr hq hf => W.vret ok.1 ok.2.1 hr hq hf d ok.2.2.2.2.2.2.2)
/-- the same locals or fewer, the same world in another order or as another list of items -/
theorem V_sub {L' : List (Option Value)} {X' : List va_W} (hL : ∀ (i : Nat) (v : Value), L'[i]? = some (some v) → L[i]? = some (some v)) (hX : X.flatten.Perm X'.flatten) (kk : V l G M Γ k n pc L' st X') : V l G M Γ k n pc L st X := by
  intro ok H locs ls hl hP hD hS
  exact kk ok H locs ls ⟨hl.1, hl.2.1, fun i v h => hl.2.2 i v (hL i v h)⟩ (hP.perm hX) (hD.perm hX) hS
theorem V_loc {L' : List (Option Value)} (hL : ∀ (i : Nat) (v : Value), L'[i]? = some (some v) → L[i]? = some (some v)) (kk : V l G M Γ k n pc L' st X) : V l G M Γ k n pc L st X := V_sub hL (List.Perm.refl _) kk
theorem V_wld {X' : List va_W} (hX : X.flatten.Perm X'.flatten) (kk : V l G M Γ k n pc L st X') : V l G M Γ k n pc L st X := V_sub (fun _ _ h => h) hX kk
theorem V_same {X' : List va_W} (hX : X.flatten = X'.flatten) (kk : V l G M Γ k n pc L st X') : V l G M Γ k n pc L st X := V_wld (by rw [hX]) kk
/-- locals, place by place: a known one may be forgotten -/
def vLe : List (Option Value) → List (Option Value) → Prop
  | [], _ => True
  | none :: r, [] => vLe r []
  | some _ :: _, [] => False
  | none :: r, _ :: s => vLe r s
  | some v :: r, w :: s => some v = w ∧ vLe r s
theorem vLe_at : ∀ (L' L : List (Option Value)), vLe L' L → ∀ (i : Nat) (v : Value), L'[i]? = some (some v) → L[i]? = some (some v)
  | [], _, _, i, v, h => by cases h
  | none :: r, [], hq, i, v, h => by
    cases i with
    | zero => cases h
    | succ i => have := vLe_at r [] hq i v h; cases this
  | some _ :: _, [], hq, _, _, _ => hq.elim
  | none :: r, _ :: s, hq, i, v, h => by
    cases i with
    | zero => cases h
    | succ i => exact vLe_at r s hq i v h
  | some w :: r, x :: s, hq, i, v, h => by
    cases i with
    | zero => rw [List.getElem?_cons_zero] at h ⊢; rw [← hq.1]; exact h
    | succ i => exact vLe_at r s hq.2 i v h
theorem V_le {L' : List (Option Value)} (hL : vLe L' L) (kk : V l G M Γ k n pc L' st X) : V l G M Γ k n pc L st X := V_loc (vLe_at L' L hL) kk
theorem vcall {p : Program} {e : Env} {R : Room} {s : State} {m : MethodId} {args : Array Value} {below : List Frame} {meth : Method} {c : Code} {H : Heap} {locs : List Loc} {cells slots mc ms : Nat} {Q : State → Prop} {ls : Array Slot} {st0 rest : List Value} {E : Option Value → List va_W → Prop} {A0 A1 : Nat → Prop} {H0 : Heap} {a : Array Value} {free : Addr → Prop}
    (hr : va_Run p l e R s m args below meth c H locs cells slots mc ms (F0 m pc ls st0) rest (vQE G E A1 a) free) (hS : va_S A0 H0 H locs) (hA : ∀ q, q < H.size → A1 q → A0 q) (hf : ∀ q, free q → A0 q)
    (kk : ∀ (v : Option Value) (Y : List va_W) (H1 : Heap) (locs1 : List Loc), E v Y → va_P G.1 vwCl Y.flatten H1 → va_D A1 Y.flatten → H.size ≤ H1.size → (∀ q : Nat, q < H.size → ¬ A1 q → H1[q]? = H[q]?) → va_S A0 H0 H1 locs1 → W p l e R s m args below meth c H1 locs1 (cells + mc) (slots + ms) Q (F0 m (pc + 3) ls (v.toList ++ rest))) : W p l e R s m args below meth c H locs cells slots Q (F0 m pc ls st0) := by
  intro T hT X
  obtain ⟨v, st₀, t, T', L, h0, X', hL, e1, e2, ⟨⟨v', Y, hv, hp, hb, hd⟩, hF⟩, st⟩ := hr T hT X
  cases hv
  obtain ⟨k1, k2, k3⟩ := vx_keep h0 e1 hS hA hf hL hF
  obtain ⟨t2, a1, b1⟩ := kk v Y T'.heap (locs ++ L) hp (by rw [e1]; exact hb) hd k1 k2 k3 T' rfl X'
  exact ⟨t2, st t2 a1, b1⟩
/-- what a program decides of a callee -/
def vY (y : MethodName) (ws : List Cond) (bytes : ByteArray) (maxL : Nat) (ret : Option FieldType) (na : Nat) : Prop :=
  (∃ ws', ws = Cond.code y bytes maxL ret :: ws') ∧ y.cls ≠ "java/lang/invoke/MethodHandle" ∧ y.cls ≠ "java/lang/invoke/VarHandle" ∧ (parseMethodDescriptor y.desc).map (fun d => d.parameters.length) = some na
theorem vPre_blind {as : List Value} {sz : Nat} : FrameBlind (vPre G as X sz) := fun a U g mk q => by
  obtain ⟨h1, h2, h3, ⟨h4, h5⟩, h6⟩ := q
  exact ⟨h1, h2, h3, ⟨va_K.moved (u := U) (U := U.calling g mk a) (Vm.Alike.refl U.vm) h4, h5.same rfl⟩, h6⟩
section
variable {y : MethodName} {ws : List Cond} {bytes : ByteArray} {maxL index na mc ms : Nat} {ret : Option FieldType} {rm : Room} {As rest : List Value} {Xc : List va_W} {E : Option Value → List va_W → Prop}
/-- the world behind a call -/
theorem vback {D : va_G} {cl : List vw_C} {A0 : Nat → Prop} {H H1 : Heap} {is : List Nat} {X' Y : List va_W} (hP : va_P D cl X.flatten H) (hD : va_D A0 X.flatten) (hXc : vpick X is = Xc.flatten) (h1 : vpick X' is = Y.flatten) (h2 : vhole X' is = vhole X is)
    (hk : ∀ q : Nat, q < H.size → ¬ va_A Xc.flatten H.size q → H1[q]? = H[q]?) (hF : ∀ q, va_A Xc.flatten H.size q → A0 q) (hP1 : va_P D cl Y.flatten H1) (hD1 : va_D (va_A Xc.flatten H.size) Y.flatten) : va_P D cl X'.flatten H1 ∧ va_D A0 X'.flatten := by
  have p1 := vpick_perm X is
  have p2 := vpick_perm X' is
  rw [hXc] at p1
  rw [h1, h2] at p2
  obtain ⟨a1, a2⟩ := vjoin (hP.perm p1) (hD.perm p1) hk hF hP1 hD1
  exact ⟨a1.perm p2.symm, a2.perm p2.symm⟩
theorem vgone {A0 : Nat → Prop} {H0 H : Heap} {locs : List Loc} {is : List Nat} (hD : va_D A0 X.flatten) (hXc : vpick X is = Xc.flatten) (hS : va_S A0 H0 H locs) (hA : ∀ q, H0.size ≤ q → A0 q) : va_D A0 Xc.flatten ∧ ∀ q, va_A Xc.flatten H.size q → A0 q := by
  have p1 := vpick_perm X is
  rw [hXc] at p1
  have h1 := (hD.perm p1).left
  refine ⟨h1, fun q hq => ?_⟩
  rcases va_A.left.mp hq with h | h
  · obtain ⟨p, hp, rfl⟩ := List.mem_map.mp h
    exact (va_D_iff.mp h1).2 p hp
  · exact hA q (Nat.le_trans hS.1 h)
theorem vtake {D : va_G} {cl : List vw_C} {H : Heap} {is : List Nat} (hP : va_P D cl X.flatten H) (hXc : vpick X is = Xc.flatten) : va_P D cl Xc.flatten H := by
  have p1 := vpick_perm X is
  rw [hXc] at p1
  exact (hP.perm p1).left
/-- a call of an instance method -/
theorem V_callV {C : String} {b q ci : Nat} {fs : List Value} {T : u_T} {N : Nat} (is : List Nat) (hM : Kc l G y ws rm (.ref b :: As) Xc E mc ms) (hY : vY y ws bytes maxL ret na) (hT : GoodIn M.2.2.1 (wsV M.2.2.2.1 index C y ws)) (hC : y.cls = C) (hc : vwCl[ci]? = some (C, T, N)) (hst : st = As.reverse ++ .ref b :: rest) (hna : As.length = na) (hi : vIdx is X.length = true) (hXc9 : is.map (fun i => X.getD i []) = Xc) (hq : Xc.flatten[q]? = some (b, .inr (ci, fs)))
    (hcs : rm.cells = mc ∧ rm.slots = ms) (hR : Nat.ble (rm.frames + 1) M.2.2.2.2.frames = true ∧ Nat.ble (8 + (maxL + 11) + rm.locals) M.2.2.2.2.locals = true) (hk : k + mc ≤ M.2.2.2.2.cells ∧ n + ms ≤ M.2.2.2.2.slots) (hr : Nat.ble (rest.map fun v => v.category).sum 8 = true)
    (d : decode M.1 pc = .ok (.invokevirtual index, 3)) (kk : ∀ (v : Option Value) (Y : List va_W), E v Y → Y.length = is.length ∧ V l G M Γ (k + mc) (n + ms) (pc + 3) L (v.toList ++ rest) (vfill X is Y)) : V l G M Γ k n pc L st X := by
  intro ok H locs ls hl hP hD hS
  obtain ⟨hx, hb, hml, hown, hts, ⟨hK, hN⟩, hA, hlk⟩ := id ok
  have hXc : vpick X is = Xc.flatten := by rw [vpick_map is X hi, hXc9]
  obtain ⟨hDc, hF⟩ := vgone hD hXc hS hA
  have hPc := vtake hP hXc
  obtain ⟨⟨ws', hw⟩, hd1, hd2, hd3⟩ := hY
  refine vcall (va_runV (As := As) (rest := rest) ⟨hx, hb, hml, hown, hts⟩ (hM H.size) (cwV na hts hT hw hcs.1 hcs.2 ⟨hC, hd1, hd2, hd3⟩ ⟨Nat.le_of_ble_eq_true hR.1, Nat.le_of_ble_eq_true hR.2⟩) ⟨vPre_blind, va_recv hK hPc hc hq, fun U hU hW => ⟨rfl, by rw [hU], by rw [hU]; exact hPc, ⟨va_K.moved hW.alike hK, hN.warm hW⟩, hDc.weaken (fun _ _ _ _ => trivial)⟩⟩ rfl hna hl.1 hst (lv_room (Nat.le_of_ble_eq_true hr)) d hk) hS (fun q _ h => hF q h) hF (fun v Y H1 l1 hE p1 d1 z1 k1 s1 => ?_)
  obtain ⟨g1, g3⟩ := kk v Y hE
  obtain ⟨f1, f2⟩ := vback hP hD hXc (vfill_pick hi g1) (vhole_fill is X Y) k1 hF p1 d1
  exact g3 ok H1 l1 ls hl f1 f2 s1
/-- a call of a static method -/
theorem V_callS (is : List Nat) (hM : Kc l G y ws rm As Xc E mc ms) (hY : vY y ws bytes maxL ret na) (hT : GoodIn M.2.2.1 (va_wsS M.2.2.2.1 index y ws)) (hst : st = As.reverse ++ rest) (hna : As.length = na) (hi : vIdx is X.length = true) (hXc9 : is.map (fun i => X.getD i []) = Xc)
    (hcs : rm.cells = mc ∧ rm.slots = ms) (hR : Nat.ble (rm.frames + 1) M.2.2.2.2.frames = true ∧ Nat.ble (8 + (maxL + 11) + rm.locals) M.2.2.2.2.locals = true) (hk : k + mc ≤ M.2.2.2.2.cells ∧ n + ms ≤ M.2.2.2.2.slots) (hr : Nat.ble (rest.map fun v => v.category).sum 8 = true)
    (d : decode M.1 pc = .ok (.invokestatic index, 3)) (kk : ∀ (v : Option Value) (Y : List va_W), E v Y → Y.length = is.length ∧ V l G M Γ (k + mc) (n + ms) (pc + 3) L (v.toList ++ rest) (vfill X is Y)) : V l G M Γ k n pc L st X := by
  intro ok H locs ls hl hP hD hS
  obtain ⟨hx, hb, hml, hown, hts, ⟨hK, hN⟩, hA, hlk⟩ := id ok
  have hXc : vpick X is = Xc.flatten := by rw [vpick_map is X hi, hXc9]
  obtain ⟨hDc, hF⟩ := vgone hD hXc hS hA
  have hPc := vtake hP hXc
  obtain ⟨⟨ws', hw⟩, hd1, hd2, hd3⟩ := hY
  refine vcall (va_runS (As := As) (rest := rest) ⟨hx, hb, hml, hown, hts⟩ (hM H.size) (va_cwS na hts hT hw hcs.1 hcs.2 ⟨hd1, hd2, hd3⟩ ⟨Nat.le_of_ble_eq_true hR.1, Nat.le_of_ble_eq_true hR.2⟩) ⟨vPre_blind, fun U hU hW => ⟨rfl, by rw [hU], by rw [hU]; exact hPc, ⟨va_K.moved hW.alike hK, hN.warm hW⟩, hDc.weaken (fun _ _ _ _ => trivial)⟩⟩ rfl hna hl.1 hst (lv_room (Nat.le_of_ble_eq_true hr)) d hk) hS (fun q _ h => hF q h) hF (fun v Y H1 l1 hE p1 d1 z1 k1 s1 => ?_)
  obtain ⟨g1, g3⟩ := kk v Y hE
  obtain ⟨f1, f2⟩ := vback hP hD hXc (vfill_pick hi g1) (vhole_fill is X Y) k1 hF p1 d1
  exact g3 ok H1 l1 ls hl f1 f2 s1
/-- a call of a nest mate's private static method -/
theorem V_callSN {host : String} (is : List Nat) (hM : Kc l G y ws rm As Xc E mc ms) (hY : vY y ws bytes maxL ret na) (hT : GoodIn M.2.2.1 ws) (hNst : ∀ U, vN U → va_Nw (.methodLinkNest M.2.2.2.1 index y host) U) (hst2 : Cond.static y ∈ M.2.2.1) (hini : Cond.initialized y.cls ∈ M.2.2.1) (hst : st = As.reverse ++ rest) (hna : As.length = na) (hi : vIdx is X.length = true) (hXc9 : is.map (fun i => X.getD i []) = Xc)
    (hcs : rm.cells = mc ∧ rm.slots = ms) (hR : Nat.ble (rm.frames + 1) M.2.2.2.2.frames = true ∧ Nat.ble (8 + (maxL + 11) + rm.locals) M.2.2.2.2.locals = true) (hk : k + mc ≤ M.2.2.2.2.cells ∧ n + ms ≤ M.2.2.2.2.slots) (hr : Nat.ble (rest.map fun v => v.category).sum 8 = true)
    (d : decode M.1 pc = .ok (.invokestatic index, 3)) (kk : ∀ (v : Option Value) (Y : List va_W), E v Y → Y.length = is.length ∧ V l G M Γ (k + mc) (n + ms) (pc + 3) L (v.toList ++ rest) (vfill X is Y)) : V l G M Γ k n pc L st X := by
  intro ok H locs ls hl hP hD hS
  obtain ⟨hx, hb, hml, hown, hts, ⟨hK, hN⟩, hA, hlk⟩ := id ok
  have hXc : vpick X is = Xc.flatten := by rw [vpick_map is X hi, hXc9]
  obtain ⟨hDc, hF⟩ := vgone hD hXc hS hA
  have hPc := vtake hP hXc
  obtain ⟨⟨ws', hw⟩, hd1, hd2, hd3⟩ := hY
  refine vcall (va_runSN (As := As) (rest := rest) ⟨hx, hb, hml, hown, hts⟩ (hM H.size) ⟨va_cnB na hts hT hw hcs.1 hcs.2 (hNst _ hN) (hts _ hini) ⟨hd1, hd2, hd3⟩ ⟨Nat.le_of_ble_eq_true hR.1, Nat.le_of_ble_eq_true hR.2⟩, hts _ hst2, trivial⟩ ⟨vPre_blind, fun U hU hW => ⟨rfl, by rw [hU], by rw [hU]; exact hPc, ⟨va_K.moved hW.alike hK, hN.warm hW⟩, hDc.weaken (fun _ _ _ _ => trivial)⟩⟩ rfl hna hl.1 hst (lv_room (Nat.le_of_ble_eq_true hr)) d hk) hS (fun q _ h => hF q h) hF (fun v Y H1 l1 hE p1 d1 z1 k1 s1 => ?_)
  obtain ⟨g1, g3⟩ := kk v Y hE
  obtain ⟨f1, f2⟩ := vback hP hD hXc (vfill_pick hi g1) (vhole_fill is X Y) k1 hF p1 d1
  exact g3 ok H1 l1 ls hl f1 f2 s1
end
end VCALL
