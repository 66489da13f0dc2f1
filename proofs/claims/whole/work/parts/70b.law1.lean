theorem e0_wsX60 : wsX60 = [255, 257, 259, 261, 263, 265, 267, 269, 271].filterMap (fun i => lw_tbl[i]?) := by decide +kernel
theorem in0_wsX60 : ∀ w ∈ wsX60, w ∈ lw_tbl := fun w hw => by
  rw [e0_wsX60] at hw
  obtain ⟨i, -, hi⟩ := List.mem_filterMap.mp hw
  exact List.mem_of_getElem? hi
theorem e0_wsX70 : wsX70 = [821, 823, 825, 827, 829, 831, 833, 835, 837, 839, 841, 843, 845, 847, 849, 851, 853].filterMap (fun i => lw_tbl[i]?) := by decide +kernel
theorem in0_wsX70 : ∀ w ∈ wsX70, w ∈ lw_tbl := fun w hw => by
  rw [e0_wsX70] at hw
  obtain ⟨i, -, hi⟩ := List.mem_filterMap.mp hw
  exact List.mem_of_getElem? hi
theorem e0_wsX50 : wsX50 = [68, 70, 72, 74, 76].filterMap (fun i => lw_tbl[i]?) := by decide +kernel
theorem in0_wsX50 : ∀ w ∈ wsX50, w ∈ lw_tbl := fun w hw => by
  rw [e0_wsX50] at hw
  obtain ⟨i, -, hi⟩ := List.mem_filterMap.mp hw
  exact List.mem_of_getElem? hi
theorem e0_wsX20 : wsX20 = [184, 186, 188, 190, 192, 194, 196, 198, 200, 202, 204].filterMap (fun i => lw_tbl[i]?) := by decide +kernel
theorem in0_wsX20 : ∀ w ∈ wsX20, w ∈ lw_tbl := fun w hw => by
  rw [e0_wsX20] at hw
  obtain ⟨i, -, hi⟩ := List.mem_filterMap.mp hw
  exact List.mem_of_getElem? hi
theorem e0_wsX30 : wsX30 = [220, 222, 224].filterMap (fun i => lw_tbl[i]?) := by decide +kernel
theorem in0_wsX30 : ∀ w ∈ wsX30, w ∈ lw_tbl := fun w hw => by
  rw [e0_wsX30] at hw
  obtain ⟨i, -, hi⟩ := List.mem_filterMap.mp hw
  exact List.mem_of_getElem? hi
theorem e0_wsX00 : wsX00 = [238, 240, 242].filterMap (fun i => lw_tbl[i]?) := by decide +kernel
theorem in0_wsX00 : ∀ w ∈ wsX00, w ∈ lw_tbl := fun w hw => by
  rw [e0_wsX00] at hw
  obtain ⟨i, -, hi⟩ := List.mem_filterMap.mp hw
  exact List.mem_of_getElem? hi
theorem e0_wsX10 : wsX10 = [128, 130, 132, 134, 136, 138, 140, 142, 144, 146, 148, 150, 152].filterMap (fun i => lw_tbl[i]?) := by decide +kernel
theorem in0_wsX10 : ∀ w ∈ wsX10, w ∈ lw_tbl := fun w hw => by
  rw [e0_wsX10] at hw
  obtain ⟨i, -, hi⟩ := List.mem_filterMap.mp hw
  exact List.mem_of_getElem? hi
theorem in0_nil : ∀ w ∈ ([] : List Cond), w ∈ lw_tbl := fun _ h => absurd h List.not_mem_nil
theorem wsL_law_in0 : ∀ w ∈ wsL_law0, w ∈ lw_tbl := by
  unfold wsL_law0
  exact List.forall_mem_append.mpr ⟨List.forall_mem_append.mpr ⟨List.forall_mem_append.mpr ⟨List.forall_mem_append.mpr ⟨List.forall_mem_append.mpr ⟨List.forall_mem_append.mpr ⟨List.forall_mem_append.mpr ⟨List.forall_mem_append.mpr ⟨List.forall_mem_append.mpr ⟨in_wsL_law0_r1, List.forall_mem_append.mpr ⟨in_wsL_law0_r2, List.forall_mem_append.mpr ⟨in_wsL_law0_r3, List.forall_mem_append.mpr ⟨in_wsL_law0_r4, List.forall_mem_append.mpr ⟨in_wsL_law0_r5, List.forall_mem_append.mpr ⟨in_wsL_law0_r6, List.forall_mem_append.mpr ⟨in_wsL_law0_r7, List.forall_mem_append.mpr ⟨in_wsL_law0_r8, List.forall_mem_append.mpr ⟨in_wsL_law0_r9, List.forall_mem_append.mpr ⟨in_wsL_law0_r10, List.forall_mem_append.mpr ⟨in_wsL_law0_r11, List.forall_mem_append.mpr ⟨in_wsL_law0_r12, List.forall_mem_append.mpr ⟨in_wsL_law0_r13, List.forall_mem_append.mpr ⟨in_wsL_law0_r14, List.forall_mem_append.mpr ⟨in_wsL_law0_r15, List.forall_mem_append.mpr ⟨in_wsL_law0_r16, List.forall_mem_append.mpr ⟨in_wsL_law0_r17, List.forall_mem_append.mpr ⟨in_wsL_law0_r18, List.forall_mem_append.mpr ⟨in_wsL_law0_r19, List.forall_mem_append.mpr ⟨in_wsL_law0_r20, List.forall_mem_append.mpr ⟨in_wsL_law0_r21, List.forall_mem_append.mpr ⟨in_wsL_law0_r22, List.forall_mem_append.mpr ⟨in_wsL_law0_r23, List.forall_mem_append.mpr ⟨in_wsL_law0_r24, List.forall_mem_append.mpr ⟨in_wsL_law0_r25, List.forall_mem_append.mpr ⟨in_wsL_law0_r26, List.forall_mem_append.mpr ⟨in_wsL_law0_r27, List.forall_mem_append.mpr ⟨in_wsL_law0_r28, List.forall_mem_append.mpr ⟨in_wsL_law0_r29, List.forall_mem_append.mpr ⟨in_wsL_law0_r30, List.forall_mem_append.mpr ⟨in_wsL_law0_r31, List.forall_mem_append.mpr ⟨in_wsL_law0_r32, in_wsL_law0_r33⟩⟩⟩⟩⟩⟩⟩⟩⟩⟩⟩⟩⟩⟩⟩⟩⟩⟩⟩⟩⟩⟩⟩⟩⟩⟩⟩⟩⟩⟩⟩⟩, in0_wsX60⟩, in0_wsX70⟩, in0_wsX50⟩, in0_wsX20⟩, in0_wsX30⟩, in0_wsX00⟩, in0_wsX10⟩, in0_nil⟩
