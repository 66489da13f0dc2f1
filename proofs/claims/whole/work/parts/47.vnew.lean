section VNEW
variable {l : Launch} {G : vG} {M : vM} {Γ : vF} {k n pc : Nat} {L : List (Option Value)} {st : List Value} {X : List va_W}
theorem vX_snoc (X : List va_W) (w : va_W) : (X ++ [w]).flatten = X.flatten ++ w := by
  rw [List.flatten_append, List.flatten_cons, List.flatten_nil, List.append_nil]
/-- two arrays' classes of one name are one -/
theorem vRA_eq {U : State} {a b : ClassId} {ty : FieldType} (ha : va_RA U a ty) (hb : va_RA U b ty) : a = b := by
  cases ty with
  | object C =>
    obtain ⟨_, _, _, _, _, h⟩ := ha
    obtain ⟨_, _, _, _, _, g⟩ := hb
    exact Option.some.inj (h.symm.trans g)
  | _ => exact Option.some.inj (Eq.trans (Eq.symm ha) hb)
theorem vK_new {U : State} {cA : ClassId} {ty : FieldType} {t : Nat} {c : ClassId} (hK1 : va_K G.1 vwCl (vT G ++ [(cA, ty)]) U) (ht : (vT G)[t]? = some (c, ty)) : cA = c := by
  have h1 := (hK1.2 (vT G).length (cA, ty) (by rw [List.getElem?_append_right (Nat.le_refl _), Nat.sub_self]; rfl)).2
  have hl := (List.getElem?_eq_some_iff.mp ht).1
  have h2 := (hK1.2 t (c, ty) (by rw [List.getElem?_append_left hl]; exact ht)).2
  exact vRA_eq h1 h2
theorem V_newI {N : Nat} (harr : Cond.arrayClass .int ∈ M.2.2.1) (hN : Nat.blt N 100000000 = true) (hk : Nat.ble (k + 1) M.2.2.2.2.cells = true) (hn : Nat.ble (n + N) M.2.2.2.2.slots = true) (d : decode M.1 pc = .ok (.newarray .int, 2))
    (kk : ∀ q : Nat, V l G M Γ (k + 1) (n + N) (pc + 2) L (.ref q :: st) (X ++ [[(q, .inl (G.2 0, N, .inl (nA (fun _ => 0))))]])) : V l G M Γ k n pc L (.int (nI N) :: st) X := by
  intro ok H locs ls hl hP hD hS
  obtain ⟨hx, hb, hml, hown, hts, ⟨hK, hNst⟩, hA, hlk⟩ := id ok
  have hN9 : N < 100000000 := Nat.le_of_ble_eq_true hN
  have hpos : ¬ nI N < 0 := fun z => by
    have := (nI_ltB (a := N) (b := 0) (by omega) (by omega)).mp (nI_0 ▸ z)
    omega
  refine va_newa (atype := .int) (ty := .int) (a0 := (N, .inl (nA (fun _ => 0)))) hx hb (hts _ harr) rfl hK hP hD hS hA (fun cA => ?_) hpos (nI_cl (by omega)) (by show N * 4 ≤ 536870912; omega) (Nat.le_of_ble_eq_true hk) (Nat.le_of_ble_eq_true hn) d (fun q cA H1 K1 p1 d1 s1 => ?_)
  · show arrV cA N (fun _ => .int (nI 0)) = _
    rw [nI_0]
    rfl
  · have hc : cA = G.2 0 := vK_new (t := 0) K1 rfl
    subst hc
    exact kk q ok H1 locs ls hl (by rw [vX_snoc]; exact p1) (by rw [vX_snoc]; exact d1) s1
theorem V_newZ {N : Nat} (harr : Cond.arrayClass .boolean ∈ M.2.2.1) (hN : Nat.blt N 100000000 = true) (hk : Nat.ble (k + 1) M.2.2.2.2.cells = true) (hn : Nat.ble (n + N) M.2.2.2.2.slots = true) (d : decode M.1 pc = .ok (.newarray .boolean, 2))
    (kk : ∀ q : Nat, V l G M Γ (k + 1) (n + N) (pc + 2) L (.ref q :: st) (X ++ [[(q, .inl (G.2 1, N, .inl (nA (fun _ => 0))))]])) : V l G M Γ k n pc L (.int (nI N) :: st) X := by
  intro ok H locs ls hl hP hD hS
  obtain ⟨hx, hb, hml, hown, hts, ⟨hK, hNst⟩, hA, hlk⟩ := id ok
  have hN9 : N < 100000000 := Nat.le_of_ble_eq_true hN
  have hpos : ¬ nI N < 0 := fun z => by
    have := (nI_ltB (a := N) (b := 0) (by omega) (by omega)).mp (nI_0 ▸ z)
    omega
  refine va_newa (atype := .boolean) (ty := .boolean) (a0 := (N, .inl (nA (fun _ => 0)))) hx hb (hts _ harr) rfl hK hP hD hS hA (fun cA => ?_) hpos (nI_cl (by omega)) (by show N * 1 ≤ 536870912; omega) (Nat.le_of_ble_eq_true hk) (Nat.le_of_ble_eq_true hn) d (fun q cA H1 K1 p1 d1 s1 => ?_)
  · show arrV cA N (fun _ => .int (nI 0)) = _
    rw [nI_0]
    rfl
  · have hc : cA = G.2 1 := vK_new (t := 1) K1 rfl
    subst hc
    exact kk q ok H1 locs ls hl (by rw [vX_snoc]; exact p1) (by rw [vX_snoc]; exact d1) s1
theorem V_newL {N : Nat} (harr : Cond.arrayClass .long ∈ M.2.2.1) (hN : Nat.blt N 10000000 = true) (hk : Nat.ble (k + 1) M.2.2.2.2.cells = true) (hn : Nat.ble (n + N) M.2.2.2.2.slots = true) (d : decode M.1 pc = .ok (.newarray .long, 2))
    (kk : ∀ q : Nat, V l G M Γ (k + 1) (n + N) (pc + 2) L (.ref q :: st) (X ++ [[(q, .inl (G.2 4, N, .inr (.inl (fun _ => 0))))]])) : V l G M Γ k n pc L (.int (nI N) :: st) X := by
  intro ok H locs ls hl hP hD hS
  obtain ⟨hx, hb, hml, hown, hts, ⟨hK, hNst⟩, hA, hlk⟩ := id ok
  have hN9 : N < 10000000 := Nat.le_of_ble_eq_true hN
  have hpos : ¬ nI N < 0 := fun z => by
    have := (nI_ltB (a := N) (b := 0) (by omega) (by omega)).mp (nI_0 ▸ z)
    omega
  refine va_newa (atype := .long) (ty := .long) (a0 := (N, .inr (.inl (fun _ => 0)))) hx hb (hts _ harr) rfl hK hP hD hS hA (fun cA => rfl) hpos (nI_cl (by omega)) (by show N * 8 ≤ 536870912; omega) (Nat.le_of_ble_eq_true hk) (Nat.le_of_ble_eq_true hn) d (fun q cA H1 K1 p1 d1 s1 => ?_)
  have hc : cA = G.2 4 := vK_new (t := 4) K1 rfl
  subst hc
  exact kk q ok H1 locs ls hl (by rw [vX_snoc]; exact p1) (by rw [vX_snoc]; exact d1) s1
/-- a new array of references -/
theorem V_anew {N t index : Nat} {C : String} {c : ClassId} (hlink : Cond.classLink M.2.2.2.1 index C ∈ M.2.2.1) (ho : ∀ U, vN U → va_AO C U) (ht : (vT G)[t]? = some (c, .object C)) (hN : Nat.blt N 100000000 = true) (hk : Nat.ble (k + 1) M.2.2.2.2.cells = true) (hn : Nat.ble (n + N) M.2.2.2.2.slots = true) (d : decode M.1 pc = .ok (.anewarray index, 3))
    (kk : ∀ q : Nat, V l G M Γ (k + 1) (n + N) (pc + 3) L (.ref q :: st) (X ++ [[(q, .inl (c, N, .inr (.inr (.inr (.inr (fun _ => none))))))]])) : V l G M Γ k n pc L (.int (nI N) :: st) X := by
  intro ok H locs ls hl hP hD hS
  obtain ⟨hx, hb, hml, hown, hts, ⟨hK, hNst⟩, hA, hlk⟩ := id ok
  have hN9 : N < 100000000 := Nat.le_of_ble_eq_true hN
  have hpos : ¬ nI N < 0 := fun z => by
    have := (nI_ltB (a := N) (b := 0) (by omega) (by omega)).mp (nI_0 ▸ z)
    omega
  refine va_newq hx hb hown (hts _ hlink) (ho _ hNst) hK hP hD hS hA hpos (nI_cl (by omega)) (by omega) (Nat.le_of_ble_eq_true hk) (Nat.le_of_ble_eq_true hn) d (fun q cA H1 K1 p1 d1 s1 => ?_)
  have hc : cA = c := vK_new K1 ht
  subst hc
  exact kk q ok H1 locs ls hl (by rw [vX_snoc]; exact p1) (by rw [vX_snoc]; exact d1) s1
/-- a new object -/
theorem V_new {index ci N : Nat} {C : String} {T : u_T} {fs : List Value} (ty0 : Nat → FieldType) (hlink : Cond.classLink M.2.2.2.1 index C ∈ M.2.2.1) (hinst : Cond.instantiable C N ∈ M.2.2.1) (hini : Cond.initialized C ∈ M.2.2.1) (hin : ∀ w ∈ u_ws C T N, w ∈ M.2.2.1) (hty : ∀ k, k < N → parseFieldDescriptor (T k).2.2.1 = some (ty0 k)) (hc : vwCl[ci]? = some (C, T, N)) (hfs : ∀ j, j < N → defaultValue (ty0 j) = vp_V fs j) (hk : Nat.ble (k + 1) M.2.2.2.2.cells = true) (hn : Nat.ble (n + N) M.2.2.2.2.slots = true) (d : decode M.1 pc = .ok (.new index, 3))
    (kk : ∀ q : Nat, V l G M Γ (k + 1) (n + N) (pc + 3) L (.ref q :: st) (X ++ [[(q, .inr (ci, fs))]])) : V l G M Γ k n pc L st X := by
  intro ok H locs ls hl hP hD hS
  obtain ⟨hx, hb, hml, hown, hts, ⟨hK, hNst⟩, hA, hlk⟩ := id ok
  exact va_new hx hb hts hin ty0 hty hown (hts _ hlink) (hts _ hinst) (hts _ hini) hK hP hD hS hA hc hfs (Nat.le_of_ble_eq_true hk) (Nat.le_of_ble_eq_true hn) d (fun q H1 p1 d1 s1 => kk q ok H1 locs ls hl (by rw [vX_snoc]; exact p1) (by rw [vX_snoc]; exact d1) s1)
/-- a final field of the object under construction -/
theorem V_putF {q index : Nat} {ref C : String} {T : u_T} {N ci a : Nat} {fs : List Value} {v : Value} {ty : FieldType} {ty0 : Nat → FieldType} (hI : Γ.2.2.2.2.2.2.1.name = "<init>") (j : Nat) (hX : X[q]? = some [(a, .inr (ci, fs))]) (hin : ∀ w ∈ u_ws C T N, w ∈ M.2.2.1) (hty : ∀ k, k < N → parseFieldDescriptor (T k).2.2.1 = some (ty0 k)) (hnm : ∀ a, a < N → ∀ b, b < N → a ≠ b → (T a).2.1 ≠ (T b).2.1) (hc : vwCl[ci]? = some (C, T, N)) (hk : Nat.blt j N = true) (hlink : Cond.fieldLink M.2.2.2.1 index ref (T j).2.1 (T j).2.2.1 ∈ M.2.2.1) (hsame : (T j).1 = ref) (hfin : (T j).2.2.2 = true) (hdecl : (T j).1 = M.2.2.2.1) (hd : ty0 j = ty) (hn : narrow ty v = v) (hfit : fits ty v = true) (hl9 : Nat.blt j fs.length = true) (d : decode M.1 pc = .ok (.putfield index, 3))
    (kk : V l G M Γ k n (pc + 3) L st (X.set q [(a, .inr (ci, fs.set j v))])) : V l G M Γ k n pc L (v :: .ref a :: st) X := by
  intro ok H locs ls hl hP hD hS
  obtain ⟨hx, hb, hml, hown, hts, ⟨hK, hNst⟩, hA, hlk⟩ := id ok
  obtain ⟨p9, e9, s9⟩ := vX_pos hX
  exact va_putF (D := G.1) (ci := ci) (v := v) (ty := ty) (C := C) (T := T) (N := N) hx hb hts hin ty0 hty hnm hown hK hP hD hS p9 e9 hc j (Nat.le_of_ble_eq_true hk) (hts _ hlink) (fun _ h9 => by rw [← hsame]; exact h9) hfin hI hdecl (by rw [hty j (Nat.le_of_ble_eq_true hk), hd]) hn hfit (Nat.le_of_ble_eq_true hl9) d (fun H1 l1 p1 d1 s1 => kk ok _ _ _ hl (by rw [← s9]; exact p1) (by rw [← s9]; exact d1) s1)
/-- a reference into an array -/
theorem V_aast {q qk ci t a v N i : Nat} {c : ClassId} {C : String} {T : u_T} {NF : Nat} {vs : List Value} {f : Nat → Option Nat} (hX : X[q]? = some [(a, .inl (c, N, .inr (.inr (.inr (.inr f)))))]) (ht : (vT G)[t]? = some (c, .object C)) (hv : X.flatten[qk]? = some (v, .inr (ci, vs))) (hc : vwCl[ci]? = some (C, T, NF)) (hi : i < N) (hN : Nat.blt N 2147483648 = true) (d : decode M.1 pc = .ok (.aastore, 1))
    (kk : V l G M Γ k n (pc + 1) L st (X.set q [(a, .inl (c, N, .inr (.inr (.inr (.inr (va_up f i (some v)))))))])) : V l G M Γ k n pc L (.ref v :: .int (nI i) :: .ref a :: st) X := by
  intro ok H locs ls hl hP hD hS
  obtain ⟨hx, hb, hml, hown, hts, ⟨hK, hNst⟩, hA, hlk⟩ := id ok
  obtain ⟨p9, e9, s9⟩ := vX_pos hX
  have hN2 : N < 2147483648 := Nat.le_of_ble_eq_true hN
  refine va_astq (r := (C, T, NF)) hx hb hK hP hD hS p9 t qk ci e9 ht hv hc (nI_inA hi hN2) d (fun H1 l1 p1 d1 s1 => ?_)
  rw [nI_cl (by omega), s9] at p1 d1
  exact kk ok _ _ _ hl p1 d1 s1
/-- an array of references by what it holds -/
theorem arrV_same {c : ClassId} {N : Nat} {f g : Nat → Value} (h : ∀ j, j < N → f j = g j) : arrV c N f = arrV c N g := by
  unfold arrV
  congr 1
  apply Array.ext
  · simp
  · intro i h1 h2
    simp at h1
    simp [h i h1]
theorem V_arr {q a N : Nat} {c : ClassId} {f : Nat → Option Nat} (g : Nat → Option Nat) (hX : X[q]? = some [(a, .inl (c, N, .inr (.inr (.inr (.inr f)))))]) (hfg : ∀ j, j < N → f j = g j)
    (kk : V l G M Γ k n pc L st (X.set q [(a, .inl (c, N, .inr (.inr (.inr (.inr g)))))])) : V l G M Γ k n pc L st X := by
  intro ok H locs ls hl hP hD hS
  obtain ⟨p9, e9, s9⟩ := vX_pos hX
  have hcell : vp_cell c (N, .inr (.inr (.inr (.inr f)))) = vp_cell c (N, .inr (.inr (.inr (.inr g)))) := by
    show arrV c N (fun j => va_rf (f j)) = arrV c N (fun j => va_rf (g j))
    exact arrV_same (fun j hj => by rw [hfg j hj])
  refine kk ok H locs ls hl ?_ ?_ hS
  · rw [← s9]
    intro k9 q9 h9
    rw [List.getElem?_set] at h9
    split at h9
    · rename_i hk
      split at h9
      · cases h9
        have := hP p9 _ e9
        show H[a]? = some (vp_cell c _)
        rw [← hcell]
        exact this
      · cases h9
    · exact hP k9 q9 h9
  · rw [← s9]
    exact hD.set e9
/-- an item to the end -/
theorem V_toEnd (i : Nat) (h : Nat.blt i X.length = true) (kk : V l G M Γ k n pc L st (X.take i ++ X.drop (i + 1) ++ [X.getD i []])) : V l G M Γ k n pc L st X := by
  refine V_wld ?_ kk
  have hl : i < X.length := Nat.le_of_ble_eq_true h
  have hg : X[i]? = some X[i] := List.getElem?_eq_getElem hl
  rw [vX_get hg, List.getD_eq_getElem?_getD, hg, Option.getD_some, vX_snoc, List.flatten_append, List.append_assoc]
  exact List.Perm.append_left _ List.perm_append_comm
section
variable {y : MethodName} {ws : List Cond} {bytes : ByteArray} {maxL index mc ms : Nat} {rm : Room} {rest : List Value} {Xc : List va_W} {E : Option Value → List va_W → Prop}
/-- a call of a constructor without arguments -/
theorem V_callI {b : Nat} (is : List Nat) (hM : Kc l G y ws rm [.ref b] Xc E mc ms) (hY : vY y ws bytes maxL none 0) (hT : GoodIn M.2.2.1 ws) (hini : Cond.initialized y.cls ∈ M.2.2.1) (hlk9 : Cond.methodLink M.2.2.2.1 index y ∈ M.2.2.1) (hinm : Cond.instanceMethod y ∈ M.2.2.1) (hnm : y.name = "<init>") (hi : vIdx is X.length = true) (hXc9 : is.map (fun i => X.getD i []) = Xc)
    (hcs : rm.cells = mc ∧ rm.slots = ms) (hR : Nat.ble (rm.frames + 1) M.2.2.2.2.frames = true ∧ Nat.ble (8 + (maxL + 11) + rm.locals) M.2.2.2.2.locals = true) (hk : Nat.ble (k + mc) M.2.2.2.2.cells = true ∧ Nat.ble (n + ms) M.2.2.2.2.slots = true) (hr : Nat.ble (rest.map fun v => v.category).sum 8 = true)
    (d : decode M.1 pc = .ok (.invokespecial index, 3)) (kk : ∀ (v : Option Value) (Y : List va_W), E v Y → Y.length = is.length ∧ V l G M Γ (k + mc) (n + ms) (pc + 3) L (v.toList ++ rest) (vfill X is Y)) : V l G M Γ k n pc L (.ref b :: rest) X := by
  intro ok H locs ls hl hP hD hS
  obtain ⟨hx, hb, hml, hown, hts, ⟨hK, hN⟩, hA, hlk⟩ := id ok
  have hXc : vpick X is = Xc.flatten := by rw [vpick_map is X hi, hXc9]
  obtain ⟨hDc, hF⟩ := vgone hD hXc hS hA
  have hPc := vtake hP hXc
  obtain ⟨⟨ws', hw⟩, hd1, hd2, hd3⟩ := hY
  refine vcall (va_runI (As := []) (rest := rest) ⟨hx, hb, hml, hown, hts⟩ (hM H.size) (cwI 0 hts hT hw hcs.1 hcs.2 (hts _ hini) (hts _ hlk9) (hts _ hinm) hnm ⟨hd1, hd2, hd3⟩ ⟨Nat.le_of_ble_eq_true hR.1, Nat.le_of_ble_eq_true hR.2⟩) ⟨vPre_blind, fun U hU hW => ⟨rfl, by rw [hU], by rw [hU]; exact hPc, ⟨va_K.moved hW.alike hK, hN.warm hW⟩, hDc.weaken (fun _ _ _ _ => trivial)⟩⟩ rfl rfl hl.1 rfl (lv_room (Nat.le_of_ble_eq_true hr)) d ⟨Nat.le_of_ble_eq_true hk.1, Nat.le_of_ble_eq_true hk.2⟩) hS (fun q _ h => hF q h) hF (fun v Y H1 l1 hE p1 d1 z1 k1 s1 => ?_)
  obtain ⟨g1, g3⟩ := kk v Y hE
  obtain ⟨f1, f2⟩ := vback hP hD hXc (vfill_pick hi g1) (vhole_fill is X Y) k1 hF p1 d1
  exact g3 ok H1 l1 ls hl f1 f2 s1
/-- of a nest mate's -/
theorem V_callIN {b : Nat} {host : String} (is : List Nat) (hM : Kc l G y ws rm [.ref b] Xc E mc ms) (hY : vY y ws bytes maxL none 0) (hT : GoodIn M.2.2.1 ws) (hNst : ∀ U, vN U → va_Nw (.methodLinkNest M.2.2.2.1 index y host) U) (hini : Cond.initialized y.cls ∈ M.2.2.1) (hinm : Cond.instanceMethod y ∈ M.2.2.1) (hnm : y.name = "<init>") (hi : vIdx is X.length = true) (hXc9 : is.map (fun i => X.getD i []) = Xc)
    (hcs : rm.cells = mc ∧ rm.slots = ms) (hR : Nat.ble (rm.frames + 1) M.2.2.2.2.frames = true ∧ Nat.ble (8 + (maxL + 11) + rm.locals) M.2.2.2.2.locals = true) (hk : Nat.ble (k + mc) M.2.2.2.2.cells = true ∧ Nat.ble (n + ms) M.2.2.2.2.slots = true) (hr : Nat.ble (rest.map fun v => v.category).sum 8 = true)
    (d : decode M.1 pc = .ok (.invokespecial index, 3)) (kk : ∀ (v : Option Value) (Y : List va_W), E v Y → Y.length = is.length ∧ V l G M Γ (k + mc) (n + ms) (pc + 3) L (v.toList ++ rest) (vfill X is Y)) : V l G M Γ k n pc L (.ref b :: rest) X := by
  intro ok H locs ls hl hP hD hS
  obtain ⟨hx, hb, hml, hown, hts, ⟨hK, hN⟩, hA, hlk⟩ := id ok
  have hXc : vpick X is = Xc.flatten := by rw [vpick_map is X hi, hXc9]
  obtain ⟨hDc, hF⟩ := vgone hD hXc hS hA
  have hPc := vtake hP hXc
  obtain ⟨⟨ws', hw⟩, hd1, hd2, hd3⟩ := hY
  refine vcall (va_runIN (As := []) (rest := rest) ⟨hx, hb, hml, hown, hts⟩ (hM H.size) ⟨va_cnB 0 hts hT hw hcs.1 hcs.2 (hNst _ hN) (hts _ hini) ⟨hd1, hd2, hd3⟩ ⟨Nat.le_of_ble_eq_true hR.1, Nat.le_of_ble_eq_true hR.2⟩, hnm, hts _ hinm⟩ ⟨vPre_blind, fun U hU hW => ⟨rfl, by rw [hU], by rw [hU]; exact hPc, ⟨va_K.moved hW.alike hK, hN.warm hW⟩, hDc.weaken (fun _ _ _ _ => trivial)⟩⟩ rfl rfl hl.1 rfl (lv_room (Nat.le_of_ble_eq_true hr)) d ⟨Nat.le_of_ble_eq_true hk.1, Nat.le_of_ble_eq_true hk.2⟩) hS (fun q _ h => hF q h) hF (fun v Y H1 l1 hE p1 d1 z1 k1 s1 => ?_)
  obtain ⟨g1, g3⟩ := kk v Y hE
  obtain ⟨f1, f2⟩ := vback hP hD hXc (vfill_pick hi g1) (vhole_fill is X Y) k1 hF p1 d1
  exact g3 ok H1 l1 ls hl f1 f2 s1
end
end VNEW
