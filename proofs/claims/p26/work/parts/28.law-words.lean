theorem sel_up {C : String} {x0 y0 y : MethodName} {s : State} {args : Array Value} {n : Nat} (hy : y.cls ≠ "java/lang/invoke/MethodHandle" ∧ y.cls ≠ "java/lang/invoke/VarHandle") (hC : (Cond.instantiable C n).before args s = true) (h0 : (Cond.selects C x0 y0).before args s = true) (he : y0.cls = y.cls) (hpriv : (Cond.privateMethod y).before args s = true) (hinst : (Cond.instanceMethod y).before args s = true) : (Cond.selects C y y).before args s = true := by
  obtain ⟨c, k, hc, hk, -, -, -, -⟩ := Cond.instantiable_spec hC
  obtain ⟨c2, r2, m2, q1, q2, q3, q4, kP, hkP, hkPi⟩ := Cond.selects_spec h0
  obtain ⟨mk, methM, hnamed, hmethM, -, -⟩ := Cond.instanceMethod_spec hinst
  have hfound : s.methodFound? y.cls y.name y.desc = some mk := State.methodFound?_of_named hnamed hy
  have hcls : mk.cls = m2.cls := Option.some.inj ((findClass_of_methodNamed hnamed).symm.trans (by rw [← he]; exact findClass_of_methodNamed q3))
  have hsel : selectMethod {} s.vm c mk = .method mk := selectMethod_private hmethM (Cond.privateMethod_at hpriv mk methM hnamed hmethM)
  simp only [Cond.before, Cond.holds, Cond.value, hc, hfound, hnamed, hsel, hcls, hkP]
  simp; exact hkPi
/-- private methods of the class above, called on its heir: the tables have them as private alone -/
def lw_sel3 : List Cond := [Cond.selects RJ4 yJ5_ensureCapacityInternal_d00df yJ5_ensureCapacityInternal_d00df, Cond.selects RJ4 yJ5_newCapacity_0f7a4 yJ5_newCapacity_0f7a4, Cond.selects RJ4 yJ5_inflate_da8c8 yJ5_inflate_da8c8]
def lw_tbl3 : List Cond := lw_sel3 ++ lw_tbl
theorem lw_tbl3_ok {args : Array Value} {s : State} (hts : ∀ w ∈ lw_tbl, w.before args s = true) : ∀ w ∈ lw_tbl3, w.before args s = true := by
  intro w hw
  rcases List.mem_append.mp hw with hw | hw
  · have h4 := hts (Cond.instantiable RJ4 4) (List.mem_of_getElem? (i := 690) (by decide +kernel))
    have h0 := hts (Cond.selects RJ4 yJ5_isLatin1_aae02 yJ5_isLatin1_aae02) (List.mem_of_getElem? (i := 762) (by decide +kernel))
    simp only [lw_sel3, List.mem_cons, List.not_mem_nil, or_false] at hw
    rcases hw with rfl | rfl | rfl
    · exact sel_up ⟨by decide +kernel, by decide +kernel⟩ h4 h0 rfl (hts (Cond.privateMethod yJ5_ensureCapacityInternal_d00df) (List.mem_of_getElem? (i := 731) (by decide +kernel))) (hts (Cond.instanceMethod yJ5_ensureCapacityInternal_d00df) (List.mem_of_getElem? (i := 732) (by decide +kernel)))
    · exact sel_up ⟨by decide +kernel, by decide +kernel⟩ h4 h0 rfl (hts (Cond.privateMethod yJ5_newCapacity_0f7a4) (List.mem_of_getElem? (i := 735) (by decide +kernel))) (hts (Cond.instanceMethod yJ5_newCapacity_0f7a4) (List.mem_of_getElem? (i := 736) (by decide +kernel)))
    · exact sel_up ⟨by decide +kernel, by decide +kernel⟩ h4 h0 rfl (hts (Cond.privateMethod yJ5_inflate_da8c8) (List.mem_of_getElem? (i := 768) (by decide +kernel))) (hts (Cond.instanceMethod yJ5_inflate_da8c8) (List.mem_of_getElem? (i := 769) (by decide +kernel)))
  · exact hts w hw
set_option maxRecDepth 20000 in
theorem wsL_law0_r1_in : ∀ w ∈ wsL_law0_r1, w ∈ lw_tbl3 := fun w h => (goodIn_p wsL_law0_r1 [494, 498, 86] rfl (by decide +kernel) w h).1
set_option maxRecDepth 20000 in
theorem wsL_law0_r2_in : ∀ w ∈ wsL_law0_r2, w ∈ lw_tbl3 := fun w h => (goodIn_p wsL_law0_r2 [504, 519] rfl (by decide +kernel) w h).1
set_option maxRecDepth 20000 in
theorem wsL_law0_r3_in : ∀ w ∈ wsL_law0_r3, w ∈ lw_tbl3 := fun w h => (goodIn_p wsL_law0_r3 [524, 528] rfl (by decide +kernel) w h).1
set_option maxRecDepth 20000 in
theorem wsL_law0_r4_in : ∀ w ∈ wsL_law0_r4, w ∈ lw_tbl3 := fun w h => (goodIn_p wsL_law0_r4 [579, 663] rfl (by decide +kernel) w h).1
set_option maxRecDepth 20000 in
theorem wsL_law0_r5_in : ∀ w ∈ wsL_law0_r5, w ∈ lw_tbl3 := fun w h => (goodIn_p wsL_law0_r5 [696, 699, 705, 708, 725] rfl (by decide +kernel) w h).1
set_option maxRecDepth 20000 in
theorem wsL_law0_r6_in : ∀ w ∈ wsL_law0_r6, w ∈ lw_tbl3 := fun w h => (goodIn_p wsL_law0_r6 [490, 486, 729, 732, 736] rfl (by decide +kernel) w h).1
set_option maxRecDepth 20000 in
theorem wsL_law0_r7_in : ∀ w ∈ wsL_law0_r7, w ∈ lw_tbl3 := fun w h => (goodIn_p wsL_law0_r7 [740, 743, 264, 748, 752] rfl (by decide +kernel) w h).1
set_option maxRecDepth 20000 in
theorem wsL_law0_r8_in : ∀ w ∈ wsL_law0_r8, w ∈ lw_tbl3 := fun w h => (goodIn_p wsL_law0_r8 [335, 766, 769, 773] rfl (by decide +kernel) w h).1
set_option maxRecDepth 20000 in
theorem wsL_law0_r9_in : ∀ w ∈ wsL_law0_r9, w ∈ lw_tbl3 := fun w h => (goodIn_p wsL_law0_r9 [776, 779, 782, 785, 788, 793, 796] rfl (by decide +kernel) w h).1
set_option maxRecDepth 20000 in
theorem wsL_law0_r10_in : ∀ w ∈ wsL_law0_r10, w ∈ lw_tbl3 := fun w h => (goodIn_p wsL_law0_r10 [805, 808, 811, 814, 818, 823] rfl (by decide +kernel) w h).1
set_option maxRecDepth 20000 in
theorem wsL_law0_r11_in : ∀ w ∈ wsL_law0_r11, w ∈ lw_tbl3 := fun w h => (goodIn_p wsL_law0_r11 [826, 832, 838, 840, 844] rfl (by decide +kernel) w h).1
set_option maxRecDepth 20000 in
theorem wsL_law0_r12_in : ∀ w ∈ wsL_law0_r12, w ∈ lw_tbl3 := fun w h => (goodIn_p wsL_law0_r12 [847, 850, 854, 857, 860, 864, 878] rfl (by decide +kernel) w h).1
set_option maxRecDepth 20000 in
theorem wsL_law0_r13_in : ∀ w ∈ wsL_law0_r13, w ∈ lw_tbl3 := fun w h => (goodIn_p wsL_law0_r13 [396, 402, 406, 202] rfl (by decide +kernel) w h).1
set_option maxRecDepth 20000 in
theorem wsL_law0_r14_in : ∀ w ∈ wsL_law0_r14, w ∈ lw_tbl3 := fun w h => (goodIn_p wsL_law0_r14 [410, 414, 418, 360, 423, 882] rfl (by decide +kernel) w h).1
set_option maxRecDepth 20000 in
theorem wsL_law0_r15_in : ∀ w ∈ wsL_law0_r15, w ∈ lw_tbl3 := fun w h => (goodIn_p wsL_law0_r15 [886, 889, 893, 897, 900, 904] rfl (by decide +kernel) w h).1
set_option maxRecDepth 20000 in
theorem wsL_law0_r16_in : ∀ w ∈ wsL_law0_r16, w ∈ lw_tbl3 := fun w h => (goodIn_p wsL_law0_r16 [908, 913, 917, 922, 926] rfl (by decide +kernel) w h).1
set_option maxRecDepth 20000 in
theorem wsL_law0_r17_in : ∀ w ∈ wsL_law0_r17, w ∈ lw_tbl3 := fun w h => (goodIn_p wsL_law0_r17 [930, 934, 938, 388, 164, 159] rfl (by decide +kernel) w h).1
set_option maxRecDepth 20000 in
theorem wsL_law0_r18_in : ∀ w ∈ wsL_law0_r18, w ∈ lw_tbl3 := fun w h => (goodIn_p wsL_law0_r18 [168, 58, 131, 173, 943, 139] rfl (by decide +kernel) w h).1
set_option maxRecDepth 20000 in
theorem wsL_law0_r19_in : ∀ w ∈ wsL_law0_r19, w ∈ lw_tbl3 := fun w h => (goodIn_p wsL_law0_r19 [949, 238, 177, 181, 207, 55] rfl (by decide +kernel) w h).1
set_option maxRecDepth 20000 in
theorem wsL_law0_r20_in : ∀ w ∈ wsL_law0_r20, w ∈ lw_tbl3 := fun w h => (goodIn_p wsL_law0_r20 [135, 211, 216, 220, 477] rfl (by decide +kernel) w h).1
set_option maxRecDepth 20000 in
theorem wsL_law0_r21_in : ∀ w ∈ wsL_law0_r21, w ∈ lw_tbl3 := fun w h => (goodIn_p wsL_law0_r21 [483, 455, 460, 464, 468] rfl (by decide +kernel) w h).1
set_option maxRecDepth 20000 in
theorem wsL_law0_r22_in : ∀ w ∈ wsL_law0_r22, w ∈ lw_tbl3 := fun w h => (goodIn_p wsL_law0_r22 [229, 234, 243, 247, 250] rfl (by decide +kernel) w h).1
set_option maxRecDepth 20000 in
theorem wsL_law0_r23_in : ∀ w ∈ wsL_law0_r23, w ∈ lw_tbl3 := fun w h => (goodIn_p wsL_law0_r23 [253, 257, 261, 267, 272, 279] rfl (by decide +kernel) w h).1
set_option maxRecDepth 20000 in
theorem wsL_law0_r24_in : ∀ w ∈ wsL_law0_r24, w ∈ lw_tbl3 := fun w h => (goodIn_p wsL_law0_r24 [283, 288, 293, 297, 302] rfl (by decide +kernel) w h).1
set_option maxRecDepth 20000 in
theorem wsL_law0_r25_in : ∀ w ∈ wsL_law0_r25, w ∈ lw_tbl3 := fun w h => (goodIn_p wsL_law0_r25 [306, 310, 314, 318, 324] rfl (by decide +kernel) w h).1
set_option maxRecDepth 20000 in
theorem wsL_law0_r26_in : ∀ w ∈ wsL_law0_r26, w ∈ lw_tbl3 := fun w h => (goodIn_p wsL_law0_r26 [328, 332, 339, 343, 347, 352] rfl (by decide +kernel) w h).1
set_option maxRecDepth 20000 in
theorem wsL_law0_r27_in : ∀ w ∈ wsL_law0_r27, w ∈ lw_tbl3 := fun w h => (goodIn_p wsL_law0_r27 [356, 367, 372, 376, 380] rfl (by decide +kernel) w h).1
set_option maxRecDepth 20000 in
theorem wsL_law0_r28_in : ∀ w ∈ wsL_law0_r28, w ∈ lw_tbl3 := fun w h => (goodIn_p wsL_law0_r28 [384, 392, 473, 427, 431] rfl (by decide +kernel) w h).1
set_option maxRecDepth 20000 in
theorem wsL_law0_r29_in : ∀ w ∈ wsL_law0_r29, w ∈ lw_tbl3 := fun w h => (goodIn_p wsL_law0_r29 [436, 440, 444, 451, 224] rfl (by decide +kernel) w h).1
set_option maxRecDepth 20000 in
theorem wsX50_in : ∀ w ∈ wsX50, w ∈ lw_tbl3 := by decide +kernel
set_option maxRecDepth 20000 in
theorem wsJ40_in : ∀ w ∈ wsJ40, w ∈ lw_tbl3 := by decide +kernel
set_option maxRecDepth 20000 in
theorem wsX20_in : ∀ w ∈ wsX20, w ∈ lw_tbl3 := by decide +kernel
set_option maxRecDepth 20000 in
theorem wsX10_in : ∀ w ∈ wsX10, w ∈ lw_tbl3 := by decide +kernel
set_option maxRecDepth 20000 in
theorem wsX40_in : ∀ w ∈ wsX40, w ∈ lw_tbl3 := by decide +kernel
set_option maxRecDepth 20000 in
theorem wsX00_in : ∀ w ∈ wsX00, w ∈ lw_tbl3 := by decide +kernel
set_option maxRecDepth 20000 in
theorem wsX30_in : ∀ w ∈ wsX30, w ∈ lw_tbl3 := by decide +kernel
set_option maxRecDepth 20000 in
theorem wsJ00_in : ∀ w ∈ wsJ00, w ∈ lw_tbl3 := by decide +kernel
theorem wsL_law_in0 : ∀ w ∈ wsL_law0, w ∈ lw_tbl3 := List.forall_mem_append.mpr ⟨List.forall_mem_append.mpr ⟨List.forall_mem_append.mpr ⟨List.forall_mem_append.mpr ⟨List.forall_mem_append.mpr ⟨List.forall_mem_append.mpr ⟨List.forall_mem_append.mpr ⟨List.forall_mem_append.mpr ⟨List.forall_mem_append.mpr ⟨List.forall_mem_append.mpr ⟨wsL_law0_r1_in, List.forall_mem_append.mpr ⟨wsL_law0_r2_in, List.forall_mem_append.mpr ⟨wsL_law0_r3_in, List.forall_mem_append.mpr ⟨wsL_law0_r4_in, List.forall_mem_append.mpr ⟨wsL_law0_r5_in, List.forall_mem_append.mpr ⟨wsL_law0_r6_in, List.forall_mem_append.mpr ⟨wsL_law0_r7_in, List.forall_mem_append.mpr ⟨wsL_law0_r8_in, List.forall_mem_append.mpr ⟨wsL_law0_r9_in, List.forall_mem_append.mpr ⟨wsL_law0_r10_in, List.forall_mem_append.mpr ⟨wsL_law0_r11_in, List.forall_mem_append.mpr ⟨wsL_law0_r12_in, List.forall_mem_append.mpr ⟨wsL_law0_r13_in, List.forall_mem_append.mpr ⟨wsL_law0_r14_in, List.forall_mem_append.mpr ⟨wsL_law0_r15_in, List.forall_mem_append.mpr ⟨wsL_law0_r16_in, List.forall_mem_append.mpr ⟨wsL_law0_r17_in, List.forall_mem_append.mpr ⟨wsL_law0_r18_in, List.forall_mem_append.mpr ⟨wsL_law0_r19_in, List.forall_mem_append.mpr ⟨wsL_law0_r20_in, List.forall_mem_append.mpr ⟨wsL_law0_r21_in, List.forall_mem_append.mpr ⟨wsL_law0_r22_in, List.forall_mem_append.mpr ⟨wsL_law0_r23_in, List.forall_mem_append.mpr ⟨wsL_law0_r24_in, List.forall_mem_append.mpr ⟨wsL_law0_r25_in, List.forall_mem_append.mpr ⟨wsL_law0_r26_in, List.forall_mem_append.mpr ⟨wsL_law0_r27_in, List.forall_mem_append.mpr ⟨wsL_law0_r28_in, wsL_law0_r29_in⟩⟩⟩⟩⟩⟩⟩⟩⟩⟩⟩⟩⟩⟩⟩⟩⟩⟩⟩⟩⟩⟩⟩⟩⟩⟩⟩⟩, wsX50_in⟩, wsJ40_in⟩, wsX20_in⟩, wsX10_in⟩, wsX40_in⟩, wsX00_in⟩, wsX30_in⟩, wsJ00_in⟩, fun _ h => absurd h List.not_mem_nil⟩
theorem wsL_law_x0 : ∀ w ∈ (vx_atS RX5 88 "java/lang/IndexOutOfBoundsException" ["java/lang/RuntimeException", "java/lang/Exception"]).filter goodWord, w ∈ lw_tbl3 := by decide +kernel
theorem wsL_law_x1 : ∀ w ∈ (vx_atS RX5 48 "java/lang/IllegalStateException" ["java/lang/RuntimeException", "java/lang/Exception"]).filter goodWord, w ∈ lw_tbl3 := by decide +kernel
theorem wsL_law_x2 : ∀ w ∈ (vx_atS RX5 59 "java/lang/IllegalArgumentException" ["java/lang/RuntimeException", "java/lang/Exception"]).filter goodWord, w ∈ lw_tbl3 := by decide +kernel
theorem wsL_law_in : ∀ w ∈ wsL_law, w ∈ lw_tbl3 := fun w h => (List.mem_append.mp h).elim (fun h => (List.mem_append.mp h).elim (fun h => (List.mem_append.mp h).elim (fun h => wsL_law_in0 w h) (fun h => wsL_law_x0 w h)) (fun h => wsL_law_x1 w h)) (fun h => wsL_law_x2 w h)
