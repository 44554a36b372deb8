section ZMN
variable {l : Launch} {G : va_G} {K : Nat × Nat × (Nat → Int32)} {cI cZ cT cB : ClassId}
theorem mm_X7_openAt_48 : Cond.fieldLink RX7 48 RX7 (TX7 0).2.1 (TX7 0).2.2.1 ∈ wsX7_openAt := by decide +kernel
theorem mi_X7_openAt_X7 : ∀ w ∈ u_ws RX7 TX7 14, w ∈ wsX7_openAt := by decide +kernel
theorem mh_X7_isCell_P : yX7_isCell.cls ≠ "java/lang/invoke/MethodHandle" ∧ yX7_isCell.cls ≠ "java/lang/invoke/VarHandle" ∧ (parseMethodDescriptor yX7_isCell.desc).map (fun d => d.parameters.length) = some 2 := by decide +kernel
set_option maxRecDepth 100000 in
set_option maxHeartbeats 4000000 in
theorem m_openAt0 (ad : Nat → Nat) (M : mS) (hM : mfr M) (x y : Int32) (hp : ¬ pin x y) : jI l G K (j_ty cI cZ cT cB) yX7_openAt wsX7_openAt { frames := 2, cells := 0, slots := 0, locals := 43 } (m_w cI cZ ad M) [.ref (ad 0), .int x, .int y] 0 0 (fun r (u : mS) => r = nI 0 ∧ u 0 0 = nI 1) (fun u => m_w cI cZ ad u) := by
  refine j_ofI (cc := cX7_openAt) (maxL := 4) (by decide) rfl (Nat.le_of_ble_eq_true rfl) ?_
  intro p e s m args below meth c X hnm hZ
  have hA : ∀ q, s.heap.size ≤ q → (va_A (m_w cI cZ ad M) s.heap.size) q := fun _ h => Or.inr h
  refine j_aload_n X 0 dX7_openAt_0 rfl rfl ?_
  refine j_iconst (v := nI 0) X (by decide) dX7_openAt_1 ?_
  refine j_put X 0 (C := RX7) (T := TX7) (N := 14) rfl rfl 0 (by decide) mi_X7_openAt_X7 RX7 mm_X7_openAt_48 (fun x q => q) tyX7_ok nmX7 rfl (ty := .int) (v := .int (nI 0)) (by decide +kernel) rfl rfl (Nat.le_of_ble_eq_true rfl) dX7_openAt_2 ?_
  refine j_weq (ws' := (m_w cI cZ ad (m_up M 0 0 (nI 0)))) rfl ?_
  refine j_iload_n X 1 dX7_openAt_5 rfl rfl ?_
  refine j_iload_n X 2 dX7_openAt_6 rfl rfl ?_
  refine p_callSI X hA hZ (rest := []) [] (m_w cI cZ ad (m_up M 0 0 (nI 0))) (fun _ => (m_w cI cZ ad (m_up M 0 0 (nI 0)))) (List.Perm.refl _) (fun _ => nil_perm (m_w cI cZ ad (m_up M 0 0 (nI 0)))) [.int x, .int y] (m_isCell x y) 2 rfl gX7_openAt_X7_isCell rfl ⟨rfl, rfl⟩ mh_X7_isCell_P ⟨Nat.le_of_ble_eq_true rfl, Nat.le_of_ble_eq_true rfl⟩ rfl (Nat.le_of_ble_eq_true rfl) ⟨by show 0 + 0 ≤ 0; omega, by show 0 + 0 ≤ 0; omega⟩ dX7_openAt_7 (fun r9 u9 h9 => ?_)
  replace h9 := h9.symm
  subst h9
  refine j_top (y := nI 0) (cel_0 hp) ?_
  refine j_if_ne X (tgt := 19) dX7_openAt_10 (by decide) (fun c9 => ?_) (fun c9 => ?_)
  · exact absurd c9 (by decide)
  · refine j_aload_n X 0 dX7_openAt_13 rfl rfl ?_
    refine j_iconst (v := nI 1) X (by decide) dX7_openAt_14 ?_
    refine p_callVI X hA hZ (rest := []) (m_w cI cZ ad (m_up M 0 0 (nI 0))) [] (fun u => m_w cI cZ ad u) (nil_perm _).symm (fun _ => List.Perm.refl _) [.int (nI 1)] 0 rfl rfl (m_no (cI := cI) (cZ := cZ) (cT := cT) ad (m_up M 0 0 (nI 0)) (nI 1)) 1 rfl gX7_openAt_X7_no rfl ⟨rfl, rfl⟩ mh_X7_no_V ⟨Nat.le_of_ble_eq_true rfl, Nat.le_of_ble_eq_true rfl⟩ rfl (Nat.le_of_ble_eq_true rfl) ⟨by show 0 + 0 ≤ 0; omega, by show 0 + 0 ≤ 0; omega⟩ dX7_openAt_15 (fun r9 u9 h9 => ?_)
    obtain ⟨h9a, h9b⟩ := h9
    replace h9a := h9a.symm
    subst h9a
    replace h9b := h9b.symm
    subst h9b
    exact j_iret X (m_up (m_up M 0 0 (nI 0)) 0 0 (nI 1)) rfl dX7_openAt_18 ⟨rfl, rfl⟩
theorem mm_X7_falls_48 : Cond.fieldLink RX7 48 RX7 (TX7 0).2.1 (TX7 0).2.2.1 ∈ wsX7_falls := by decide +kernel
theorem mi_X7_falls_X7 : ∀ w ∈ u_ws RX7 TX7 14, w ∈ wsX7_falls := by decide +kernel
set_option maxRecDepth 100000 in
set_option maxHeartbeats 4000000 in
theorem m_falls0 (ad : Nat → Nat) (M : mS) (hM : mfr M) (x y : Int32) (hp : ¬ pin x y) : jI l G K (j_ty cI cZ cT cB) yX7_falls wsX7_falls { frames := 7, cells := 0, slots := 0, locals := 164 } (m_w cI cZ ad M) [.ref (ad 0), .int x, .int y] 0 0 (fun r (u : mS) => r = nI 0 ∧ u 0 0 = nI 1) (fun u => m_w cI cZ ad u) := by
  refine j_ofI (cc := cX7_falls) (maxL := 5) (by decide) rfl (Nat.le_of_ble_eq_true rfl) ?_
  intro p e s m args below meth c X hnm hZ
  have hA : ∀ q, s.heap.size ≤ q → (va_A (m_w cI cZ ad M) s.heap.size) q := fun _ h => Or.inr h
  refine j_aload_n X 0 dX7_falls_0 rfl rfl ?_
  refine j_iconst (v := nI 0) X (by decide) dX7_falls_1 ?_
  refine j_put X 0 (C := RX7) (T := TX7) (N := 14) rfl rfl 0 (by decide) mi_X7_falls_X7 RX7 mm_X7_falls_48 (fun x q => q) tyX7_ok nmX7 rfl (ty := .int) (v := .int (nI 0)) (by decide +kernel) rfl rfl (Nat.le_of_ble_eq_true rfl) dX7_falls_2 ?_
  refine j_weq (ws' := (m_w cI cZ ad (m_up M 0 0 (nI 0)))) rfl ?_
  refine j_iload_n X 1 dX7_falls_5 rfl rfl ?_
  refine j_iload_n X 2 dX7_falls_6 rfl rfl ?_
  refine p_callSI X hA hZ (rest := []) [] (m_w cI cZ ad (m_up M 0 0 (nI 0))) (fun _ => (m_w cI cZ ad (m_up M 0 0 (nI 0)))) (List.Perm.refl _) (fun _ => nil_perm (m_w cI cZ ad (m_up M 0 0 (nI 0)))) [.int x, .int y] (m_isCell x y) 2 rfl gX7_falls_X7_isCell rfl ⟨rfl, rfl⟩ mh_X7_isCell_P ⟨Nat.le_of_ble_eq_true rfl, Nat.le_of_ble_eq_true rfl⟩ rfl (Nat.le_of_ble_eq_true rfl) ⟨by show 0 + 0 ≤ 0; omega, by show 0 + 0 ≤ 0; omega⟩ dX7_falls_7 (fun r9 u9 h9 => ?_)
  replace h9 := h9.symm
  subst h9
  refine j_top (y := nI 0) (cel_0 hp) ?_
  refine j_if_ne X (tgt := 19) dX7_falls_10 (by decide) (fun c9 => ?_) (fun c9 => ?_)
  · exact absurd c9 (by decide)
  · refine j_aload_n X 0 dX7_falls_13 rfl rfl ?_
    refine j_iconst (v := nI 1) X (by decide) dX7_falls_14 ?_
    refine p_callVI X hA hZ (rest := []) (m_w cI cZ ad (m_up M 0 0 (nI 0))) [] (fun u => m_w cI cZ ad u) (nil_perm _).symm (fun _ => List.Perm.refl _) [.int (nI 1)] 0 rfl rfl (m_no (cI := cI) (cZ := cZ) (cT := cT) ad (m_up M 0 0 (nI 0)) (nI 1)) 1 rfl gX7_falls_X7_no rfl ⟨rfl, rfl⟩ mh_X7_no_V ⟨Nat.le_of_ble_eq_true rfl, Nat.le_of_ble_eq_true rfl⟩ rfl (Nat.le_of_ble_eq_true rfl) ⟨by show 0 + 0 ≤ 0; omega, by show 0 + 0 ≤ 0; omega⟩ dX7_falls_15 (fun r9 u9 h9 => ?_)
    obtain ⟨h9a, h9b⟩ := h9
    replace h9a := h9a.symm
    subst h9a
    replace h9b := h9b.symm
    subst h9b
    exact j_iret X (m_up (m_up M 0 0 (nI 0)) 0 0 (nI 1)) rfl dX7_falls_18 ⟨rfl, rfl⟩
theorem mm_X7_openAt_38 : Cond.fieldLink RX7 38 RX7 (TX7 12).2.1 (TX7 12).2.2.1 ∈ wsX7_openAt := by decide +kernel
theorem mi_X7_openAt_X6 : ∀ w ∈ u_ws RX6 TX6 5, w ∈ wsX7_openAt := by decide +kernel
theorem mh_X6_open_V : yX6_open.cls = RX6 ∧ yX6_open.cls ≠ "java/lang/invoke/MethodHandle" ∧ yX6_open.cls ≠ "java/lang/invoke/VarHandle" ∧ (parseMethodDescriptor yX6_open.desc).map (fun d => d.parameters.length) = some 1 := by decide +kernel
set_option maxRecDepth 100000 in
set_option maxHeartbeats 4000000 in
theorem m_openAt1 (ad : Nat → Nat) (M : mS) (hM : mfr M) (a b : Nat) (ha : a < 12) (hb : b < 12) : jI l G K (j_ty cI cZ cT cB) yX7_openAt wsX7_openAt { frames := 2, cells := 0, slots := 0, locals := 43 } (m_w cI cZ ad M) [.ref (ad 0), .int (nI a), .int (nI b)] 0 0 (fun r (u : mS) => r = nI 3 ∧ u 0 0 = nI 0) (fun u => m_w cI cZ ad u) := by
  refine j_ofI (cc := cX7_openAt) (maxL := 4) (by decide) rfl (Nat.le_of_ble_eq_true rfl) ?_
  intro p e s m args below meth c X hnm hZ
  have hA : ∀ q, s.heap.size ≤ q → (va_A (m_w cI cZ ad M) s.heap.size) q := fun _ h => Or.inr h
  refine j_aload_n X 0 dX7_openAt_0 rfl rfl ?_
  refine j_iconst (v := nI 0) X (by decide) dX7_openAt_1 ?_
  refine j_put X 0 (C := RX7) (T := TX7) (N := 14) rfl rfl 0 (by decide) mi_X7_openAt_X7 RX7 mm_X7_openAt_48 (fun x q => q) tyX7_ok nmX7 rfl (ty := .int) (v := .int (nI 0)) (by decide +kernel) rfl rfl (Nat.le_of_ble_eq_true rfl) dX7_openAt_2 ?_
  refine j_weq (ws' := (m_w cI cZ ad (m_up M 0 0 (nI 0)))) rfl ?_
  refine j_iload_n X 1 dX7_openAt_5 rfl rfl ?_
  refine j_iload_n X 2 dX7_openAt_6 rfl rfl ?_
  refine p_callSI X hA hZ (rest := []) [] (m_w cI cZ ad (m_up M 0 0 (nI 0))) (fun _ => (m_w cI cZ ad (m_up M 0 0 (nI 0)))) (List.Perm.refl _) (fun _ => nil_perm (m_w cI cZ ad (m_up M 0 0 (nI 0)))) [.int (nI a), .int (nI b)] (m_isCell (nI a) (nI b)) 2 rfl gX7_openAt_X7_isCell rfl ⟨rfl, rfl⟩ mh_X7_isCell_P ⟨Nat.le_of_ble_eq_true rfl, Nat.le_of_ble_eq_true rfl⟩ rfl (Nat.le_of_ble_eq_true rfl) ⟨by show 0 + 0 ≤ 0; omega, by show 0 + 0 ≤ 0; omega⟩ dX7_openAt_7 (fun r9 u9 h9 => ?_)
  replace h9 := h9.symm
  subst h9
  refine j_top (y := nI 1) (cel_1 (pin_of ha hb)) ?_
  refine j_if_ne X (tgt := 19) dX7_openAt_10 (by decide) (fun c9 => ?_) (fun c9 => ?_)
  · refine j_bipush (v := nI 12) X (by decide) dX7_openAt_19 ?_
    refine j_iload_n X 2 dX7_openAt_21 rfl rfl ?_
    refine j_imulN X 12 b dX7_openAt_22 ?_
    refine j_iload_n X 1 dX7_openAt_23 rfl rfl ?_
    refine j_iadd X dX7_openAt_24 ?_
    refine j_top (y := nI ((12 * b) + a)) (nI_add (12 * b) a) ?_
    refine j_istore_n (lo' := [(3, .int (nI ((12 * b) + a))), (0, .ref (ad 0)), (1, .int (nI a)), (2, .int (nI b))]) X dX7_openAt_25 rfl (by decide) rfl ?_
    refine j_aload_n X 1 dX7_openAt_26 rfl rfl ?_
    refine j_get X 0 (C := RX7) (T := TX7) (N := 14) rfl rfl 12 (by decide) mi_X7_openAt_X7 RX7 mm_X7_openAt_38 (fun x q => q) (v := .ref (ad 9)) rfl dX7_openAt_27 ?_
    refine j_getN X 9 rfl rfl 2 (by decide) mi_X7_openAt_X6 (hZ.2.2.2.1.1 _ xn_2) (fun x q => q) (v := .ref (ad 10)) rfl dX7_openAt_30 ?_
    refine j_bipush (v := nI 8) X (by decide) dX7_openAt_33 ?_
    refine j_iload_n X 0 dX7_openAt_35 rfl rfl ?_
    refine j_imulN X 8 ((12 * b) + a) dX7_openAt_36 ?_
    refine j_iald X 10 0 rfl rfl (8 * (12 * b + a)) rfl (by omega) (by decide) dX7_openAt_37 ?_
    refine j_top (y := nI 3) ((hM.2.1 _ (by omega)).trans (fz_0 _)) ?_
    refine j_if_eq X (tgt := 52) dX7_openAt_38 (by decide) (fun c9 => ?_) (fun c9 => ?_)
    · exact absurd c9 (by decide)
    · refine j_aload_n X 1 dX7_openAt_41 rfl rfl ?_
      refine j_get X 0 (C := RX7) (T := TX7) (N := 14) rfl rfl 12 (by decide) mi_X7_openAt_X7 RX7 mm_X7_openAt_38 (fun x q => q) (v := .ref (ad 9)) rfl dX7_openAt_42 ?_
      refine j_iload_n X 0 dX7_openAt_45 rfl rfl ?_
      refine p_callVI X hA hZ (rest := []) (m_w cI cZ ad (m_up M 0 0 (nI 0))) [] (fun u => m_w cI cZ ad u) (nil_perm _).symm (fun _ => List.Perm.refl _) [.int (nI ((12 * b) + a))] 9 rfl rfl (m_isT9 (cI := cI) (cZ := cZ) (cT := cT) ad (m_up M 0 0 (nI 0)) ((12 * b) + a) (by omega) ((hM.2.1 _ (by omega)).trans (fz_n _ 2 (by decide) (by decide)))) 1 rfl gX7_openAt_X6_isTunnel rfl ⟨rfl, rfl⟩ mh_X6_isTunnel_V ⟨Nat.le_of_ble_eq_true rfl, Nat.le_of_ble_eq_true rfl⟩ rfl (Nat.le_of_ble_eq_true rfl) ⟨by show 0 + 0 ≤ 0; omega, by show 0 + 0 ≤ 0; omega⟩ dX7_openAt_46 (fun r9 u9 h9 => ?_)
      obtain ⟨h9a, h9b⟩ := h9
      replace h9a := h9a.symm
      subst h9a
      replace h9b := h9b.symm
      subst h9b
      refine j_if_eq X (tgt := 58) dX7_openAt_49 (by decide) (fun c9 => ?_) (fun c9 => ?_)
      · refine j_aload_n X 1 dX7_openAt_58 rfl rfl ?_
        refine j_get X 0 (C := RX7) (T := TX7) (N := 14) rfl rfl 12 (by decide) mi_X7_openAt_X7 RX7 mm_X7_openAt_38 (fun x q => q) (v := .ref (ad 9)) rfl dX7_openAt_59 ?_
        refine j_iload_n X 0 dX7_openAt_62 rfl rfl ?_
        refine p_callVU X hA hZ (rest := []) (m_w cI cZ ad (m_up M 0 0 (nI 0))) [] (fun u => m_w cI cZ ad u) (nil_perm _).symm (fun _ => List.Perm.refl _) [.int (nI ((12 * b) + a))] 9 rfl rfl (m_open (cI := cI) (cZ := cZ) (cT := cT) ad (m_up M 0 0 (nI 0)) (12 * b + a) (by omega)) 1 rfl gX7_openAt_X6_open rfl ⟨rfl, rfl⟩ mh_X6_open_V ⟨Nat.le_of_ble_eq_true rfl, Nat.le_of_ble_eq_true rfl⟩ rfl (Nat.le_of_ble_eq_true rfl) ⟨by show 0 + 0 ≤ 0; omega, by show 0 + 0 ≤ 0; omega⟩ dX7_openAt_63 (fun u9 h9 => ?_)
        obtain ⟨h9a, h9b⟩ := h9
        refine j_aload_n X 1 dX7_openAt_66 rfl rfl ?_
        refine j_get X 0 (C := RX7) (T := TX7) (N := 14) rfl rfl 12 (by decide) mi_X7_openAt_X7 RX7 mm_X7_openAt_38 (fun x q => q) (v := .ref (ad 9)) rfl dX7_openAt_67 ?_
        refine j_getN X 9 rfl rfl 2 (by decide) mi_X7_openAt_X6 (hZ.2.2.2.1.1 _ xn_2) (fun x q => q) (v := .ref (ad 10)) rfl dX7_openAt_70 ?_
        refine j_bipush (v := nI 8) X (by decide) dX7_openAt_73 ?_
        refine j_iload_n X 0 dX7_openAt_75 rfl rfl ?_
        refine j_imulN X 8 ((12 * b) + a) dX7_openAt_76 ?_
        refine j_iald X 10 0 rfl rfl (8 * (12 * b + a)) rfl (by omega) (by decide) dX7_openAt_77 ?_
        refine j_top (y := nI 3) ((h9b _ (by omega)).trans ((hM.2.1 _ (by omega)).trans (fz_0 _))) ?_
        exact j_iret X u9 rfl dX7_openAt_78 ⟨rfl, h9a 0 0 (by decide)⟩
      · exact absurd c9 (by decide)
  · exact absurd c9 (by decide)
theorem mm_X7_cellTold_38 : Cond.fieldLink RX7 38 RX7 (TX7 12).2.1 (TX7 12).2.2.1 ∈ wsX7_cellTold := by decide +kernel
theorem mi_X7_cellTold_X7 : ∀ w ∈ u_ws RX7 TX7 14, w ∈ wsX7_cellTold := by decide +kernel
theorem mi_X7_cellTold_X6 : ∀ w ∈ u_ws RX6 TX6 5, w ∈ wsX7_cellTold := by decide +kernel
set_option maxRecDepth 100000 in
set_option maxHeartbeats 4000000 in
theorem m_cellTold (ad : Nat → Nat) (M : mS) (hM : mfr M) (k cc : Nat) (hk : k < 144) (hcc : cc < 8) : jI l G K (j_ty cI cZ cT cB) yX7_cellTold wsX7_cellTold { frames := 0, cells := 0, slots := 0, locals := 0 } (m_w cI cZ ad M) [.ref (ad 0), .int (nI k), .int (nI cc)] 0 0 (fun r (u : mS) => r = fz (8 * k + cc) ∧ u = M) (fun u => m_w cI cZ ad u) := by
  refine j_ofI (cc := cX7_cellTold) (maxL := 3) (by decide) rfl (Nat.le_of_ble_eq_true rfl) ?_
  intro p e s m args below meth c X hnm hZ
  have hA : ∀ q, s.heap.size ≤ q → (va_A (m_w cI cZ ad M) s.heap.size) q := fun _ h => Or.inr h
  refine j_aload_n X 0 dX7_cellTold_0 rfl rfl ?_
  refine j_get X 0 (C := RX7) (T := TX7) (N := 14) rfl rfl 12 (by decide) mi_X7_cellTold_X7 RX7 mm_X7_cellTold_38 (fun x q => q) (v := .ref (ad 9)) rfl dX7_cellTold_1 ?_
  refine j_getN X 9 rfl rfl 2 (by decide) mi_X7_cellTold_X6 (hZ.2.2.2.1.1 _ xn_2) (fun x q => q) (v := .ref (ad 10)) rfl dX7_cellTold_4 ?_
  refine j_bipush (v := nI 8) X (by decide) dX7_cellTold_7 ?_
  refine j_iload_n X 1 dX7_cellTold_9 rfl rfl ?_
  refine j_imulN X 8 k dX7_cellTold_10 ?_
  refine j_iload_n X 2 dX7_cellTold_11 rfl rfl ?_
  refine j_iadd X dX7_cellTold_12 ?_
  refine j_top (y := nI ((8 * k) + cc)) (nI_add (8 * k) cc) ?_
  refine j_iald X 10 0 rfl rfl (8 * k + cc) rfl (by omega) (by decide) dX7_cellTold_13 ?_
  exact j_iret X M rfl dX7_cellTold_14 ⟨hM.2.1 _ (by omega), rfl⟩
theorem mm_X7_cell_48 : Cond.fieldLink RX7 48 RX7 (TX7 0).2.1 (TX7 0).2.2.1 ∈ wsX7_cell := by decide +kernel
theorem mi_X7_cell_X7 : ∀ w ∈ u_ws RX7 TX7 14, w ∈ wsX7_cell := by decide +kernel
set_option maxRecDepth 100000 in
set_option maxHeartbeats 4000000 in
theorem m_cell0 (ad : Nat → Nat) (M : mS) (hM : mfr M) (x y k : Int32) (hp : ¬ (pin x y ∧ ¬ k < 0 ∧ k < 8)) : jI l G K (j_ty cI cZ cT cB) yX7_cell wsX7_cell { frames := 2, cells := 0, slots := 0, locals := 43 } (m_w cI cZ ad M) [.ref (ad 0), .int x, .int y, .int k] 0 0 (fun r (u : mS) => r = nI 0 ∧ u 0 0 = nI 1) (fun u => m_w cI cZ ad u) := by
  refine j_ofI (cc := cX7_cell) (maxL := 4) (by decide) rfl (Nat.le_of_ble_eq_true rfl) ?_
  intro p e s m args below meth c X hnm hZ
  have hA : ∀ q, s.heap.size ≤ q → (va_A (m_w cI cZ ad M) s.heap.size) q := fun _ h => Or.inr h
  refine j_aload_n X 0 dX7_cell_0 rfl rfl ?_
  refine j_iconst (v := nI 0) X (by decide) dX7_cell_1 ?_
  refine j_put X 0 (C := RX7) (T := TX7) (N := 14) rfl rfl 0 (by decide) mi_X7_cell_X7 RX7 mm_X7_cell_48 (fun x q => q) tyX7_ok nmX7 rfl (ty := .int) (v := .int (nI 0)) (by decide +kernel) rfl rfl (Nat.le_of_ble_eq_true rfl) dX7_cell_2 ?_
  refine j_weq (ws' := (m_w cI cZ ad (m_up M 0 0 (nI 0)))) rfl ?_
  refine j_iload_n X 1 dX7_cell_5 rfl rfl ?_
  refine j_iload_n X 2 dX7_cell_6 rfl rfl ?_
  refine p_callSI X hA hZ (rest := []) [] (m_w cI cZ ad (m_up M 0 0 (nI 0))) (fun _ => (m_w cI cZ ad (m_up M 0 0 (nI 0)))) (List.Perm.refl _) (fun _ => nil_perm (m_w cI cZ ad (m_up M 0 0 (nI 0)))) [.int x, .int y] (m_isCell x y) 2 rfl gX7_cell_X7_isCell rfl ⟨rfl, rfl⟩ mh_X7_isCell_P ⟨Nat.le_of_ble_eq_true rfl, Nat.le_of_ble_eq_true rfl⟩ rfl (Nat.le_of_ble_eq_true rfl) ⟨by show 0 + 0 ≤ 0; omega, by show 0 + 0 ≤ 0; omega⟩ dX7_cell_7 (fun r9 u9 h9 => ?_)
  replace h9 := h9.symm
  subst h9
  refine j_if_eq X (tgt := 37) dX7_cell_10 (by decide) (fun c1 => ?_) (fun c1 => ?_)
  · have hq : ¬ (pin x y ∧ ¬ k < 0 ∧ k < 8) := fun q => hp q
    refine j_aload_n X 0 dX7_cell_37 rfl rfl ?_
    refine j_iconst (v := nI 1) X (by decide) dX7_cell_38 ?_
    refine p_callVI X hA hZ (rest := []) (m_w cI cZ ad (m_up M 0 0 (nI 0))) [] (fun u => m_w cI cZ ad u) (nil_perm _).symm (fun _ => List.Perm.refl _) [.int (nI 1)] 0 rfl rfl (m_no (cI := cI) (cZ := cZ) (cT := cT) ad (m_up M 0 0 (nI 0)) (nI 1)) 1 rfl gX7_cell_X7_no rfl ⟨rfl, rfl⟩ mh_X7_no_V ⟨Nat.le_of_ble_eq_true rfl, Nat.le_of_ble_eq_true rfl⟩ rfl (Nat.le_of_ble_eq_true rfl) ⟨by show 0 + 0 ≤ 0; omega, by show 0 + 0 ≤ 0; omega⟩ dX7_cell_39 (fun r9 u9 h9 => ?_)
    obtain ⟨h9a, h9b⟩ := h9
    replace h9a := h9a.symm
    subst h9a
    replace h9b := h9b.symm
    subst h9b
    exact j_iret X (m_up (m_up M 0 0 (nI 0)) 0 0 (nI 1)) rfl dX7_cell_42 ⟨rfl, rfl⟩
  · refine j_iload_n X 3 dX7_cell_13 rfl rfl ?_
    refine j_iconst (v := nI 0) X (by decide) dX7_cell_14 ?_
    refine j_bipush (v := nI 7) X (by decide) dX7_cell_15 ?_
    refine p_callSI X hA hZ (rest := []) [] (m_w cI cZ ad (m_up M 0 0 (nI 0))) (fun _ => (m_w cI cZ ad (m_up M 0 0 (nI 0)))) (List.Perm.refl _) (fun _ => nil_perm (m_w cI cZ ad (m_up M 0 0 (nI 0)))) [.int k, .int (nI 0), .int (nI 7)] (m_isIn k (nI 0) (nI 7)) 3 rfl gX7_cell_X7_isIn rfl ⟨rfl, rfl⟩ mh_X7_isIn_P ⟨Nat.le_of_ble_eq_true rfl, Nat.le_of_ble_eq_true rfl⟩ rfl (Nat.le_of_ble_eq_true rfl) ⟨by show 0 + 0 ≤ 0; omega, by show 0 + 0 ≤ 0; omega⟩ dX7_cell_17 (fun r9 u9 h9 => ?_)
    replace h9 := h9.symm
    subst h9
    refine j_if_eq X (tgt := 37) dX7_cell_20 (by decide) (fun c2 => ?_) (fun c2 => ?_)
    · have hq : ¬ (pin x y ∧ ¬ k < 0 ∧ k < 8) := fun q => hp q
      refine j_aload_n X 0 dX7_cell_37 rfl rfl ?_
      refine j_iconst (v := nI 1) X (by decide) dX7_cell_38 ?_
      refine p_callVI X hA hZ (rest := []) (m_w cI cZ ad (m_up M 0 0 (nI 0))) [] (fun u => m_w cI cZ ad u) (nil_perm _).symm (fun _ => List.Perm.refl _) [.int (nI 1)] 0 rfl rfl (m_no (cI := cI) (cZ := cZ) (cT := cT) ad (m_up M 0 0 (nI 0)) (nI 1)) 1 rfl gX7_cell_X7_no rfl ⟨rfl, rfl⟩ mh_X7_no_V ⟨Nat.le_of_ble_eq_true rfl, Nat.le_of_ble_eq_true rfl⟩ rfl (Nat.le_of_ble_eq_true rfl) ⟨by show 0 + 0 ≤ 0; omega, by show 0 + 0 ≤ 0; omega⟩ dX7_cell_39 (fun r9 u9 h9 => ?_)
      obtain ⟨h9a, h9b⟩ := h9
      replace h9a := h9a.symm
      subst h9a
      replace h9b := h9b.symm
      subst h9b
      exact j_iret X (m_up (m_up M 0 0 (nI 0)) 0 0 (nI 1)) rfl dX7_cell_42 ⟨rfl, rfl⟩
    · exfalso
      have hk : ¬ k < 0 ∧ ¬ 7 < k := Decidable.byContradiction fun q => c2 (in_n q)
      exact hp ⟨Classical.byContradiction fun q => c1 (cel_0 q), hk.1, (up_to (k := 7) (by decide) hk.1).2 hk.2⟩
theorem mh_X7_cellTold_V : yX7_cellTold.cls = RX7 ∧ yX7_cellTold.cls ≠ "java/lang/invoke/MethodHandle" ∧ yX7_cellTold.cls ≠ "java/lang/invoke/VarHandle" ∧ (parseMethodDescriptor yX7_cellTold.desc).map (fun d => d.parameters.length) = some 2 := by decide +kernel
set_option maxRecDepth 100000 in
set_option maxHeartbeats 4000000 in
theorem m_cell1 (ad : Nat → Nat) (M : mS) (hM : mfr M) (a b : Nat) (ha : a < 12) (hb : b < 12) (cc : Nat) (hcc : cc < 8) : jI l G K (j_ty cI cZ cT cB) yX7_cell wsX7_cell { frames := 2, cells := 0, slots := 0, locals := 43 } (m_w cI cZ ad M) [.ref (ad 0), .int (nI a), .int (nI b), .int (nI cc)] 0 0 (fun r (u : mS) => r = fz (8 * (12 * b + a) + cc) ∧ u 0 0 = nI 0) (fun u => m_w cI cZ ad u) := by
  refine j_ofI (cc := cX7_cell) (maxL := 4) (by decide) rfl (Nat.le_of_ble_eq_true rfl) ?_
  intro p e s m args below meth c X hnm hZ
  have hA : ∀ q, s.heap.size ≤ q → (va_A (m_w cI cZ ad M) s.heap.size) q := fun _ h => Or.inr h
  refine j_aload_n X 0 dX7_cell_0 rfl rfl ?_
  refine j_iconst (v := nI 0) X (by decide) dX7_cell_1 ?_
  refine j_put X 0 (C := RX7) (T := TX7) (N := 14) rfl rfl 0 (by decide) mi_X7_cell_X7 RX7 mm_X7_cell_48 (fun x q => q) tyX7_ok nmX7 rfl (ty := .int) (v := .int (nI 0)) (by decide +kernel) rfl rfl (Nat.le_of_ble_eq_true rfl) dX7_cell_2 ?_
  refine j_weq (ws' := (m_w cI cZ ad (m_up M 0 0 (nI 0)))) rfl ?_
  refine j_iload_n X 1 dX7_cell_5 rfl rfl ?_
  refine j_iload_n X 2 dX7_cell_6 rfl rfl ?_
  refine p_callSI X hA hZ (rest := []) [] (m_w cI cZ ad (m_up M 0 0 (nI 0))) (fun _ => (m_w cI cZ ad (m_up M 0 0 (nI 0)))) (List.Perm.refl _) (fun _ => nil_perm (m_w cI cZ ad (m_up M 0 0 (nI 0)))) [.int (nI a), .int (nI b)] (m_isCell (nI a) (nI b)) 2 rfl gX7_cell_X7_isCell rfl ⟨rfl, rfl⟩ mh_X7_isCell_P ⟨Nat.le_of_ble_eq_true rfl, Nat.le_of_ble_eq_true rfl⟩ rfl (Nat.le_of_ble_eq_true rfl) ⟨by show 0 + 0 ≤ 0; omega, by show 0 + 0 ≤ 0; omega⟩ dX7_cell_7 (fun r9 u9 h9 => ?_)
  replace h9 := h9.symm
  subst h9
  refine j_top (y := nI 1) (cel_1 (pin_of ha hb)) ?_
  refine j_if_eq X (tgt := 37) dX7_cell_10 (by decide) (fun c9 => ?_) (fun c9 => ?_)
  · exact absurd c9 (by decide)
  · refine j_iload_n X 3 dX7_cell_13 rfl rfl ?_
    refine j_iconst (v := nI 0) X (by decide) dX7_cell_14 ?_
    refine j_bipush (v := nI 7) X (by decide) dX7_cell_15 ?_
    refine p_callSI X hA hZ (rest := []) [] (m_w cI cZ ad (m_up M 0 0 (nI 0))) (fun _ => (m_w cI cZ ad (m_up M 0 0 (nI 0)))) (List.Perm.refl _) (fun _ => nil_perm (m_w cI cZ ad (m_up M 0 0 (nI 0)))) [.int (nI cc), .int (nI 0), .int (nI 7)] (m_isIn (nI cc) (nI 0) (nI 7)) 3 rfl gX7_cell_X7_isIn rfl ⟨rfl, rfl⟩ mh_X7_isIn_P ⟨Nat.le_of_ble_eq_true rfl, Nat.le_of_ble_eq_true rfl⟩ rfl (Nat.le_of_ble_eq_true rfl) ⟨by show 0 + 0 ≤ 0; omega, by show 0 + 0 ≤ 0; omega⟩ dX7_cell_17 (fun r9 u9 h9 => ?_)
    replace h9 := h9.symm
    subst h9
    refine j_top (y := nI 1) (show s_in (nI cc) (nI 0) (nI 7) = nI 1 from in_1 (nI_pos (by omega)) (nI_nlt (by omega) (by omega))) ?_
    refine j_if_eq X (tgt := 37) dX7_cell_20 (by decide) (fun c9 => ?_) (fun c9 => ?_)
    · exact absurd c9 (by decide)
    · refine j_aload_n X 0 dX7_cell_23 rfl rfl ?_
      refine j_bipush (v := nI 12) X (by decide) dX7_cell_24 ?_
      refine j_iload_n X 2 dX7_cell_26 rfl rfl ?_
      refine j_imulN X 12 b dX7_cell_27 ?_
      refine j_iload_n X 1 dX7_cell_28 rfl rfl ?_
      refine j_iadd X dX7_cell_29 ?_
      refine j_top (y := nI ((12 * b) + a)) (nI_add (12 * b) a) ?_
      refine j_iload_n X 3 dX7_cell_30 rfl rfl ?_
      refine p_callVI X hA hZ (rest := []) (m_w cI cZ ad (m_up M 0 0 (nI 0))) [] (fun u => m_w cI cZ ad u) (nil_perm _).symm (fun _ => List.Perm.refl _) [.int (nI ((12 * b) + a)), .int (nI cc)] 0 rfl rfl (m_cellTold (cI := cI) (cZ := cZ) (cT := cT) ad (m_up M 0 0 (nI 0)) (by exact ⟨⟨hM.1.1, hM.1.2.1, hM.1.2.2⟩, hM.2.1, hM.2.2.1, hM.2.2.2⟩) (12 * b + a) cc (by omega) hcc) 2 rfl gX7_cell_X7_cellTold rfl ⟨rfl, rfl⟩ mh_X7_cellTold_V ⟨Nat.le_of_ble_eq_true rfl, Nat.le_of_ble_eq_true rfl⟩ rfl (Nat.le_of_ble_eq_true rfl) ⟨by show 0 + 0 ≤ 0; omega, by show 0 + 0 ≤ 0; omega⟩ dX7_cell_31 (fun r9 u9 h9 => ?_)
      obtain ⟨h9a, h9b⟩ := h9
      replace h9a := h9a.symm
      subst h9a
      replace h9b := h9b.symm
      subst h9b
      refine j_goto X (tgt := 42) dX7_cell_34 (by decide) ?_
      exact j_iret X (m_up M 0 0 (nI 0)) rfl dX7_cell_42 ⟨rfl, rfl⟩
theorem mm_X7_come_48 : Cond.fieldLink RX7 48 RX7 (TX7 0).2.1 (TX7 0).2.2.1 ∈ wsX7_come := by decide +kernel
theorem mi_X7_come_X7 : ∀ w ∈ u_ws RX7 TX7 14, w ∈ wsX7_come := by decide +kernel
set_option maxRecDepth 100000 in
set_option maxHeartbeats 4000000 in
theorem m_come1 (ad : Nat → Nat) (M : mS) (hM : mfr M) (sd x y hh kk : Int32) (hp : ¬ pin x y) : jI l G K (j_ty cI cZ cT cB) yX7_come wsX7_come { frames := 2, cells := 0, slots := 0, locals := 60 } (m_w cI cZ ad M) [.ref (ad 0), .int sd, .int x, .int y, .int hh, .int kk] 0 0 (fun r (u : mS) => r = nI 0 ∧ u 0 0 = nI 1) (fun u => m_w cI cZ ad u) := by
  refine j_ofI (cc := cX7_come) (maxL := 7) (by decide) rfl (Nat.le_of_ble_eq_true rfl) ?_
  intro p e s m args below meth c X hnm hZ
  have hA : ∀ q, s.heap.size ≤ q → (va_A (m_w cI cZ ad M) s.heap.size) q := fun _ h => Or.inr h
  refine j_aload_n X 0 dX7_come_0 rfl rfl ?_
  refine j_iconst (v := nI 0) X (by decide) dX7_come_1 ?_
  refine j_put X 0 (C := RX7) (T := TX7) (N := 14) rfl rfl 0 (by decide) mi_X7_come_X7 RX7 mm_X7_come_48 (fun x q => q) tyX7_ok nmX7 rfl (ty := .int) (v := .int (nI 0)) (by decide +kernel) rfl rfl (Nat.le_of_ble_eq_true rfl) dX7_come_2 ?_
  refine j_weq (ws' := (m_w cI cZ ad (m_up M 0 0 (nI 0)))) rfl ?_
  refine j_iload_n X 2 dX7_come_5 rfl rfl ?_
  refine j_iload_n X 3 dX7_come_6 rfl rfl ?_
  refine p_callSI X hA hZ (rest := []) [] (m_w cI cZ ad (m_up M 0 0 (nI 0))) (fun _ => (m_w cI cZ ad (m_up M 0 0 (nI 0)))) (List.Perm.refl _) (fun _ => nil_perm (m_w cI cZ ad (m_up M 0 0 (nI 0)))) [.int x, .int y] (m_isCell x y) 2 rfl gX7_come_X7_isCell rfl ⟨rfl, rfl⟩ mh_X7_isCell_P ⟨Nat.le_of_ble_eq_true rfl, Nat.le_of_ble_eq_true rfl⟩ rfl (Nat.le_of_ble_eq_true rfl) ⟨by show 0 + 0 ≤ 0; omega, by show 0 + 0 ≤ 0; omega⟩ dX7_come_7 (fun r9 u9 h9 => ?_)
  replace h9 := h9.symm
  subst h9
  refine j_top (y := nI 0) (cel_0 hp) ?_
  refine j_if_ne X (tgt := 19) dX7_come_10 (by decide) (fun c9 => ?_) (fun c9 => ?_)
  · exact absurd c9 (by decide)
  · refine j_aload_n X 0 dX7_come_13 rfl rfl ?_
    refine j_iconst (v := nI 1) X (by decide) dX7_come_14 ?_
    refine p_callVI X hA hZ (rest := []) (m_w cI cZ ad (m_up M 0 0 (nI 0))) [] (fun u => m_w cI cZ ad u) (nil_perm _).symm (fun _ => List.Perm.refl _) [.int (nI 1)] 0 rfl rfl (m_no (cI := cI) (cZ := cZ) (cT := cT) ad (m_up M 0 0 (nI 0)) (nI 1)) 1 rfl gX7_come_X7_no rfl ⟨rfl, rfl⟩ mh_X7_no_V ⟨Nat.le_of_ble_eq_true rfl, Nat.le_of_ble_eq_true rfl⟩ rfl (Nat.le_of_ble_eq_true rfl) ⟨by show 0 + 0 ≤ 0; omega, by show 0 + 0 ≤ 0; omega⟩ dX7_come_15 (fun r9 u9 h9 => ?_)
    obtain ⟨h9a, h9b⟩ := h9
    replace h9a := h9a.symm
    subst h9a
    replace h9b := h9b.symm
    subst h9b
    exact j_iret X (m_up (m_up M 0 0 (nI 0)) 0 0 (nI 1)) rfl dX7_come_18 ⟨rfl, rfl⟩
set_option maxRecDepth 100000 in
set_option maxHeartbeats 4000000 in
theorem m_come2 (ad : Nat → Nat) (M : mS) (hM : mfr M) (sd x y hh kk : Int32) (hp : pin x y) (hb : ¬ (¬ sd < 0 ∧ ¬ 1 < sd ∧ ¬ hh < 1 ∧ ¬ 9 < hh ∧ ¬ kk < 1 ∧ ¬ 5 < kk)) : jI l G K (j_ty cI cZ cT cB) yX7_come wsX7_come { frames := 2, cells := 0, slots := 0, locals := 60 } (m_w cI cZ ad M) [.ref (ad 0), .int sd, .int x, .int y, .int hh, .int kk] 0 0 (fun r (u : mS) => r = nI 0 ∧ u 0 0 = nI 2) (fun u => m_w cI cZ ad u) := by
  refine j_ofI (cc := cX7_come) (maxL := 7) (by decide) rfl (Nat.le_of_ble_eq_true rfl) ?_
  intro p e s m args below meth c X hnm hZ
  have hA : ∀ q, s.heap.size ≤ q → (va_A (m_w cI cZ ad M) s.heap.size) q := fun _ h => Or.inr h
  refine j_aload_n X 0 dX7_come_0 rfl rfl ?_
  refine j_iconst (v := nI 0) X (by decide) dX7_come_1 ?_
  refine j_put X 0 (C := RX7) (T := TX7) (N := 14) rfl rfl 0 (by decide) mi_X7_come_X7 RX7 mm_X7_come_48 (fun x q => q) tyX7_ok nmX7 rfl (ty := .int) (v := .int (nI 0)) (by decide +kernel) rfl rfl (Nat.le_of_ble_eq_true rfl) dX7_come_2 ?_
  refine j_weq (ws' := (m_w cI cZ ad (m_up M 0 0 (nI 0)))) rfl ?_
  refine j_iload_n X 2 dX7_come_5 rfl rfl ?_
  refine j_iload_n X 3 dX7_come_6 rfl rfl ?_
  refine p_callSI X hA hZ (rest := []) [] (m_w cI cZ ad (m_up M 0 0 (nI 0))) (fun _ => (m_w cI cZ ad (m_up M 0 0 (nI 0)))) (List.Perm.refl _) (fun _ => nil_perm (m_w cI cZ ad (m_up M 0 0 (nI 0)))) [.int x, .int y] (m_isCell x y) 2 rfl gX7_come_X7_isCell rfl ⟨rfl, rfl⟩ mh_X7_isCell_P ⟨Nat.le_of_ble_eq_true rfl, Nat.le_of_ble_eq_true rfl⟩ rfl (Nat.le_of_ble_eq_true rfl) ⟨by show 0 + 0 ≤ 0; omega, by show 0 + 0 ≤ 0; omega⟩ dX7_come_7 (fun r9 u9 h9 => ?_)
  replace h9 := h9.symm
  subst h9
  refine j_top (y := nI 1) (cel_1 hp) ?_
  refine j_if_ne X (tgt := 19) dX7_come_10 (by decide) (fun c9 => ?_) (fun c9 => ?_)
  · refine j_iload_n X 1 dX7_come_19 rfl rfl ?_
    refine j_iconst (v := nI 0) X (by decide) dX7_come_20 ?_
    refine j_iconst (v := nI 1) X (by decide) dX7_come_21 ?_
    refine p_callSI X hA hZ (rest := []) [] (m_w cI cZ ad (m_up M 0 0 (nI 0))) (fun _ => (m_w cI cZ ad (m_up M 0 0 (nI 0)))) (List.Perm.refl _) (fun _ => nil_perm (m_w cI cZ ad (m_up M 0 0 (nI 0)))) [.int sd, .int (nI 0), .int (nI 1)] (m_isIn sd (nI 0) (nI 1)) 3 rfl gX7_come_X7_isIn rfl ⟨rfl, rfl⟩ mh_X7_isIn_P ⟨Nat.le_of_ble_eq_true rfl, Nat.le_of_ble_eq_true rfl⟩ rfl (Nat.le_of_ble_eq_true rfl) ⟨by show 0 + 0 ≤ 0; omega, by show 0 + 0 ≤ 0; omega⟩ dX7_come_22 (fun r9 u9 h9 => ?_)
    replace h9 := h9.symm
    subst h9
    refine j_if_eq X (tgt := 49) dX7_come_25 (by decide) (fun c1 => ?_) (fun c1 => ?_)
    · refine j_aload_n X 0 dX7_come_49 rfl rfl ?_
      refine j_iconst (v := nI 2) X (by decide) dX7_come_50 ?_
      refine p_callVI X hA hZ (rest := []) (m_w cI cZ ad (m_up M 0 0 (nI 0))) [] (fun u => m_w cI cZ ad u) (nil_perm _).symm (fun _ => List.Perm.refl _) [.int (nI 2)] 0 rfl rfl (m_no (cI := cI) (cZ := cZ) (cT := cT) ad (m_up M 0 0 (nI 0)) (nI 2)) 1 rfl gX7_come_X7_no rfl ⟨rfl, rfl⟩ mh_X7_no_V ⟨Nat.le_of_ble_eq_true rfl, Nat.le_of_ble_eq_true rfl⟩ rfl (Nat.le_of_ble_eq_true rfl) ⟨by show 0 + 0 ≤ 0; omega, by show 0 + 0 ≤ 0; omega⟩ dX7_come_51 (fun r9 u9 h9 => ?_)
      obtain ⟨h9a, h9b⟩ := h9
      replace h9a := h9a.symm
      subst h9a
      replace h9b := h9b.symm
      subst h9b
      exact j_iret X (m_up (m_up M 0 0 (nI 0)) 0 0 (nI 2)) rfl dX7_come_54 ⟨rfl, rfl⟩
    · refine j_iload X 4 dX7_come_28 rfl ?_
      refine j_iconst (v := nI 1) X (by decide) dX7_come_30 ?_
      refine j_bipush (v := nI 9) X (by decide) dX7_come_31 ?_
      refine p_callSI X hA hZ (rest := []) [] (m_w cI cZ ad (m_up M 0 0 (nI 0))) (fun _ => (m_w cI cZ ad (m_up M 0 0 (nI 0)))) (List.Perm.refl _) (fun _ => nil_perm (m_w cI cZ ad (m_up M 0 0 (nI 0)))) [.int hh, .int (nI 1), .int (nI 9)] (m_isIn hh (nI 1) (nI 9)) 3 rfl gX7_come_X7_isIn rfl ⟨rfl, rfl⟩ mh_X7_isIn_P ⟨Nat.le_of_ble_eq_true rfl, Nat.le_of_ble_eq_true rfl⟩ rfl (Nat.le_of_ble_eq_true rfl) ⟨by show 0 + 0 ≤ 0; omega, by show 0 + 0 ≤ 0; omega⟩ dX7_come_33 (fun r9 u9 h9 => ?_)
      replace h9 := h9.symm
      subst h9
      refine j_if_eq X (tgt := 49) dX7_come_36 (by decide) (fun c2 => ?_) (fun c2 => ?_)
      · refine j_aload_n X 0 dX7_come_49 rfl rfl ?_
        refine j_iconst (v := nI 2) X (by decide) dX7_come_50 ?_
        refine p_callVI X hA hZ (rest := []) (m_w cI cZ ad (m_up M 0 0 (nI 0))) [] (fun u => m_w cI cZ ad u) (nil_perm _).symm (fun _ => List.Perm.refl _) [.int (nI 2)] 0 rfl rfl (m_no (cI := cI) (cZ := cZ) (cT := cT) ad (m_up M 0 0 (nI 0)) (nI 2)) 1 rfl gX7_come_X7_no rfl ⟨rfl, rfl⟩ mh_X7_no_V ⟨Nat.le_of_ble_eq_true rfl, Nat.le_of_ble_eq_true rfl⟩ rfl (Nat.le_of_ble_eq_true rfl) ⟨by show 0 + 0 ≤ 0; omega, by show 0 + 0 ≤ 0; omega⟩ dX7_come_51 (fun r9 u9 h9 => ?_)
        obtain ⟨h9a, h9b⟩ := h9
        replace h9a := h9a.symm
        subst h9a
        replace h9b := h9b.symm
        subst h9b
        exact j_iret X (m_up (m_up M 0 0 (nI 0)) 0 0 (nI 2)) rfl dX7_come_54 ⟨rfl, rfl⟩
      · refine j_iload X 5 dX7_come_39 rfl ?_
        refine j_iconst (v := nI 1) X (by decide) dX7_come_41 ?_
        refine j_iconst (v := nI 5) X (by decide) dX7_come_42 ?_
        refine p_callSI X hA hZ (rest := []) [] (m_w cI cZ ad (m_up M 0 0 (nI 0))) (fun _ => (m_w cI cZ ad (m_up M 0 0 (nI 0)))) (List.Perm.refl _) (fun _ => nil_perm (m_w cI cZ ad (m_up M 0 0 (nI 0)))) [.int kk, .int (nI 1), .int (nI 5)] (m_isIn kk (nI 1) (nI 5)) 3 rfl gX7_come_X7_isIn rfl ⟨rfl, rfl⟩ mh_X7_isIn_P ⟨Nat.le_of_ble_eq_true rfl, Nat.le_of_ble_eq_true rfl⟩ rfl (Nat.le_of_ble_eq_true rfl) ⟨by show 0 + 0 ≤ 0; omega, by show 0 + 0 ≤ 0; omega⟩ dX7_come_43 (fun r9 u9 h9 => ?_)
        replace h9 := h9.symm
        subst h9
        refine j_if_ne X (tgt := 55) dX7_come_46 (by decide) (fun c3 => ?_) (fun c3 => ?_)
        · exfalso
          have g1 : ¬ sd < 0 ∧ ¬ 1 < sd := Decidable.byContradiction fun q => c1 (in_n q)
          have g2 : ¬ hh < 1 ∧ ¬ 9 < hh := Decidable.byContradiction fun q => c2 (in_n q)
          have g3 : ¬ kk < 1 ∧ ¬ 5 < kk := Decidable.byContradiction fun q => c3 (in_n q)
          exact hb ⟨g1.1, g1.2, g2.1, g2.2, g3.1, g3.2⟩
        · refine j_aload_n X 0 dX7_come_49 rfl rfl ?_
          refine j_iconst (v := nI 2) X (by decide) dX7_come_50 ?_
          refine p_callVI X hA hZ (rest := []) (m_w cI cZ ad (m_up M 0 0 (nI 0))) [] (fun u => m_w cI cZ ad u) (nil_perm _).symm (fun _ => List.Perm.refl _) [.int (nI 2)] 0 rfl rfl (m_no (cI := cI) (cZ := cZ) (cT := cT) ad (m_up M 0 0 (nI 0)) (nI 2)) 1 rfl gX7_come_X7_no rfl ⟨rfl, rfl⟩ mh_X7_no_V ⟨Nat.le_of_ble_eq_true rfl, Nat.le_of_ble_eq_true rfl⟩ rfl (Nat.le_of_ble_eq_true rfl) ⟨by show 0 + 0 ≤ 0; omega, by show 0 + 0 ≤ 0; omega⟩ dX7_come_51 (fun r9 u9 h9 => ?_)
          obtain ⟨h9a, h9b⟩ := h9
          replace h9a := h9a.symm
          subst h9a
          replace h9b := h9b.symm
          subst h9b
          exact j_iret X (m_up (m_up M 0 0 (nI 0)) 0 0 (nI 2)) rfl dX7_come_54 ⟨rfl, rfl⟩
  · exact absurd c9 (by decide)
theorem mm_X7_come_56 : Cond.fieldLink RX7 56 RX7 (TX7 5).2.1 (TX7 5).2.2.1 ∈ wsX7_come := by decide +kernel
theorem mm_X7_come_38 : Cond.fieldLink RX7 38 RX7 (TX7 12).2.1 (TX7 12).2.2.1 ∈ wsX7_come := by decide +kernel
set_option maxRecDepth 100000 in
set_option maxHeartbeats 4000000 in
theorem m_come3 (ad : Nat → Nat) (M : mS) (hM : mfr M) (a b : Nat) (ha : a < 12) (hb : b < 12) (sd hh kk : Int32) (hg : ¬ sd < 0 ∧ ¬ 1 < sd ∧ ¬ hh < 1 ∧ ¬ 9 < hh ∧ ¬ kk < 1 ∧ ¬ 5 < kk) : jI l G K (j_ty cI cZ cT cB) yX7_come wsX7_come { frames := 2, cells := 0, slots := 0, locals := 60 } (m_w cI cZ ad M) [.ref (ad 0), .int sd, .int (nI a), .int (nI b), .int hh, .int kk] 0 0 (fun r (u : mS) => r = nI 0 ∧ u 0 0 = nI 3) (fun u => m_w cI cZ ad u) := by
  refine j_ofI (cc := cX7_come) (maxL := 7) (by decide) rfl (Nat.le_of_ble_eq_true rfl) ?_
  intro p e s m args below meth c X hnm hZ
  have hA : ∀ q, s.heap.size ≤ q → (va_A (m_w cI cZ ad M) s.heap.size) q := fun _ h => Or.inr h
  refine j_aload_n X 0 dX7_come_0 rfl rfl ?_
  refine j_iconst (v := nI 0) X (by decide) dX7_come_1 ?_
  refine j_put X 0 (C := RX7) (T := TX7) (N := 14) rfl rfl 0 (by decide) mi_X7_come_X7 RX7 mm_X7_come_48 (fun x q => q) tyX7_ok nmX7 rfl (ty := .int) (v := .int (nI 0)) (by decide +kernel) rfl rfl (Nat.le_of_ble_eq_true rfl) dX7_come_2 ?_
  refine j_weq (ws' := (m_w cI cZ ad (m_up M 0 0 (nI 0)))) rfl ?_
  refine j_iload_n X 2 dX7_come_5 rfl rfl ?_
  refine j_iload_n X 3 dX7_come_6 rfl rfl ?_
  refine p_callSI X hA hZ (rest := []) [] (m_w cI cZ ad (m_up M 0 0 (nI 0))) (fun _ => (m_w cI cZ ad (m_up M 0 0 (nI 0)))) (List.Perm.refl _) (fun _ => nil_perm (m_w cI cZ ad (m_up M 0 0 (nI 0)))) [.int (nI a), .int (nI b)] (m_isCell (nI a) (nI b)) 2 rfl gX7_come_X7_isCell rfl ⟨rfl, rfl⟩ mh_X7_isCell_P ⟨Nat.le_of_ble_eq_true rfl, Nat.le_of_ble_eq_true rfl⟩ rfl (Nat.le_of_ble_eq_true rfl) ⟨by show 0 + 0 ≤ 0; omega, by show 0 + 0 ≤ 0; omega⟩ dX7_come_7 (fun r9 u9 h9 => ?_)
  replace h9 := h9.symm
  subst h9
  refine j_top (y := nI 1) (cel_1 (pin_of ha hb)) ?_
  refine j_if_ne X (tgt := 19) dX7_come_10 (by decide) (fun c9 => ?_) (fun c9 => ?_)
  · refine j_iload_n X 1 dX7_come_19 rfl rfl ?_
    refine j_iconst (v := nI 0) X (by decide) dX7_come_20 ?_
    refine j_iconst (v := nI 1) X (by decide) dX7_come_21 ?_
    refine p_callSI X hA hZ (rest := []) [] (m_w cI cZ ad (m_up M 0 0 (nI 0))) (fun _ => (m_w cI cZ ad (m_up M 0 0 (nI 0)))) (List.Perm.refl _) (fun _ => nil_perm (m_w cI cZ ad (m_up M 0 0 (nI 0)))) [.int sd, .int (nI 0), .int (nI 1)] (m_isIn sd (nI 0) (nI 1)) 3 rfl gX7_come_X7_isIn rfl ⟨rfl, rfl⟩ mh_X7_isIn_P ⟨Nat.le_of_ble_eq_true rfl, Nat.le_of_ble_eq_true rfl⟩ rfl (Nat.le_of_ble_eq_true rfl) ⟨by show 0 + 0 ≤ 0; omega, by show 0 + 0 ≤ 0; omega⟩ dX7_come_22 (fun r9 u9 h9 => ?_)
    replace h9 := h9.symm
    subst h9
    refine j_top (y := nI 1) (in_1 hg.1 hg.2.1) ?_
    refine j_if_eq X (tgt := 49) dX7_come_25 (by decide) (fun c9 => ?_) (fun c9 => ?_)
    · exact absurd c9 (by decide)
    · refine j_iload X 4 dX7_come_28 rfl ?_
      refine j_iconst (v := nI 1) X (by decide) dX7_come_30 ?_
      refine j_bipush (v := nI 9) X (by decide) dX7_come_31 ?_
      refine p_callSI X hA hZ (rest := []) [] (m_w cI cZ ad (m_up M 0 0 (nI 0))) (fun _ => (m_w cI cZ ad (m_up M 0 0 (nI 0)))) (List.Perm.refl _) (fun _ => nil_perm (m_w cI cZ ad (m_up M 0 0 (nI 0)))) [.int hh, .int (nI 1), .int (nI 9)] (m_isIn hh (nI 1) (nI 9)) 3 rfl gX7_come_X7_isIn rfl ⟨rfl, rfl⟩ mh_X7_isIn_P ⟨Nat.le_of_ble_eq_true rfl, Nat.le_of_ble_eq_true rfl⟩ rfl (Nat.le_of_ble_eq_true rfl) ⟨by show 0 + 0 ≤ 0; omega, by show 0 + 0 ≤ 0; omega⟩ dX7_come_33 (fun r9 u9 h9 => ?_)
      replace h9 := h9.symm
      subst h9
      refine j_top (y := nI 1) (in_1 hg.2.2.1 hg.2.2.2.1) ?_
      refine j_if_eq X (tgt := 49) dX7_come_36 (by decide) (fun c9 => ?_) (fun c9 => ?_)
      · exact absurd c9 (by decide)
      · refine j_iload X 5 dX7_come_39 rfl ?_
        refine j_iconst (v := nI 1) X (by decide) dX7_come_41 ?_
        refine j_iconst (v := nI 5) X (by decide) dX7_come_42 ?_
        refine p_callSI X hA hZ (rest := []) [] (m_w cI cZ ad (m_up M 0 0 (nI 0))) (fun _ => (m_w cI cZ ad (m_up M 0 0 (nI 0)))) (List.Perm.refl _) (fun _ => nil_perm (m_w cI cZ ad (m_up M 0 0 (nI 0)))) [.int kk, .int (nI 1), .int (nI 5)] (m_isIn kk (nI 1) (nI 5)) 3 rfl gX7_come_X7_isIn rfl ⟨rfl, rfl⟩ mh_X7_isIn_P ⟨Nat.le_of_ble_eq_true rfl, Nat.le_of_ble_eq_true rfl⟩ rfl (Nat.le_of_ble_eq_true rfl) ⟨by show 0 + 0 ≤ 0; omega, by show 0 + 0 ≤ 0; omega⟩ dX7_come_43 (fun r9 u9 h9 => ?_)
        replace h9 := h9.symm
        subst h9
        refine j_top (y := nI 1) (in_1 hg.2.2.2.2.1 hg.2.2.2.2.2) ?_
        refine j_if_ne X (tgt := 55) dX7_come_46 (by decide) (fun c9 => ?_) (fun c9 => ?_)
        · refine j_aload_n X 0 dX7_come_55 rfl rfl ?_
          refine j_get X 0 (C := RX7) (T := TX7) (N := 14) rfl rfl 5 (by decide) mi_X7_come_X7 RX7 mm_X7_come_56 (fun x q => q) (v := .int ((m_up M 0 0 (nI 0)) 0 3)) rfl dX7_come_56 ?_
          refine j_top (y := nI 0) (hM.1.2.2) ?_
          refine j_bipush (v := nI 8) X (by decide) dX7_come_59 ?_
          refine j_ncmp_eq X 0 8 rfl rfl (by omega) (by omega) (tgt := 80) dX7_come_61 (by decide) (fun c8 => ?_) (fun c8 => ?_)
          · exact absurd c8 (by decide)
          · refine j_aload_n X 0 dX7_come_64 rfl rfl ?_
            refine j_get X 0 (C := RX7) (T := TX7) (N := 14) rfl rfl 12 (by decide) mi_X7_come_X7 RX7 mm_X7_come_38 (fun x q => q) (v := .ref (ad 9)) rfl dX7_come_65 ?_
            refine j_bipush (v := nI 12) X (by decide) dX7_come_68 ?_
            refine j_iload_n X 3 dX7_come_70 rfl rfl ?_
            refine j_imulN X 12 b dX7_come_71 ?_
            refine j_iload_n X 2 dX7_come_72 rfl rfl ?_
            refine j_iadd X dX7_come_73 ?_
            refine j_top (y := nI ((12 * b) + a)) (nI_add (12 * b) a) ?_
            refine p_callVI X hA hZ (rest := []) (m_w cI cZ ad (m_up M 0 0 (nI 0))) [] (fun u => m_w cI cZ ad u) (nil_perm _).symm (fun _ => List.Perm.refl _) [.int (nI ((12 * b) + a))] 9 rfl rfl (m_isT9 (cI := cI) (cZ := cZ) (cT := cT) ad (m_up M 0 0 (nI 0)) ((12 * b) + a) (by omega) ((hM.2.1 _ (by omega)).trans (fz_n _ 2 (by decide) (by decide)))) 1 rfl gX7_come_X6_isTunnel rfl ⟨rfl, rfl⟩ mh_X6_isTunnel_V ⟨Nat.le_of_ble_eq_true rfl, Nat.le_of_ble_eq_true rfl⟩ rfl (Nat.le_of_ble_eq_true rfl) ⟨by show 0 + 0 ≤ 0; omega, by show 0 + 0 ≤ 0; omega⟩ dX7_come_74 (fun r9 u9 h9 => ?_)
            obtain ⟨h9a, h9b⟩ := h9
            replace h9a := h9a.symm
            subst h9a
            replace h9b := h9b.symm
            subst h9b
            refine j_if_ne X (tgt := 86) dX7_come_77 (by decide) (fun c9 => ?_) (fun c9 => ?_)
            · exact absurd c9 (by decide)
            · refine j_aload_n X 0 dX7_come_80 rfl rfl ?_
              refine j_iconst (v := nI 3) X (by decide) dX7_come_81 ?_
              refine p_callVI X hA hZ (rest := []) (m_w cI cZ ad (m_up M 0 0 (nI 0))) [] (fun u => m_w cI cZ ad u) (nil_perm _).symm (fun _ => List.Perm.refl _) [.int (nI 3)] 0 rfl rfl (m_no (cI := cI) (cZ := cZ) (cT := cT) ad (m_up M 0 0 (nI 0)) (nI 3)) 1 rfl gX7_come_X7_no rfl ⟨rfl, rfl⟩ mh_X7_no_V ⟨Nat.le_of_ble_eq_true rfl, Nat.le_of_ble_eq_true rfl⟩ rfl (Nat.le_of_ble_eq_true rfl) ⟨by show 0 + 0 ≤ 0; omega, by show 0 + 0 ≤ 0; omega⟩ dX7_come_82 (fun r9 u9 h9 => ?_)
              obtain ⟨h9a, h9b⟩ := h9
              replace h9a := h9a.symm
              subst h9a
              replace h9b := h9b.symm
              subst h9b
              exact j_iret X (m_up (m_up M 0 0 (nI 0)) 0 0 (nI 3)) rfl dX7_come_85 ⟨rfl, rfl⟩
        · exact absurd c9 (by decide)
  · exact absurd c9 (by decide)
theorem mm_X7_way_48 : Cond.fieldLink RX7 48 RX7 (TX7 0).2.1 (TX7 0).2.2.1 ∈ wsX7_way := by decide +kernel
theorem mi_X7_way_X7 : ∀ w ∈ u_ws RX7 TX7 14, w ∈ wsX7_way := by decide +kernel
set_option maxRecDepth 100000 in
set_option maxHeartbeats 4000000 in
theorem m_way0 (ad : Nat → Nat) (M : mS) (hM : mfr M) (x y v z : Int32) (hb : ¬ (pin x y ∧ pin v z)) : jI l G K (j_ty cI cZ cT cB) yX7_way wsX7_way { frames := 3, cells := 0, slots := 0, locals := 66 } (m_w cI cZ ad M) [.ref (ad 0), .int x, .int y, .int v, .int z] 0 0 (fun r (u : mS) => r = nI 0 ∧ u 0 0 = nI 1) (fun u => m_w cI cZ ad u) := by
  refine j_ofI (cc := cX7_way) (maxL := 11) (by decide) rfl (Nat.le_of_ble_eq_true rfl) ?_
  intro p e s m args below meth c X hnm hZ
  have hA : ∀ q, s.heap.size ≤ q → (va_A (m_w cI cZ ad M) s.heap.size) q := fun _ h => Or.inr h
  refine j_aload_n X 0 dX7_way_0 rfl rfl ?_
  refine j_iconst (v := nI 0) X (by decide) dX7_way_1 ?_
  refine j_put X 0 (C := RX7) (T := TX7) (N := 14) rfl rfl 0 (by decide) mi_X7_way_X7 RX7 mm_X7_way_48 (fun x q => q) tyX7_ok nmX7 rfl (ty := .int) (v := .int (nI 0)) (by decide +kernel) rfl rfl (Nat.le_of_ble_eq_true rfl) dX7_way_2 ?_
  refine j_weq (ws' := (m_w cI cZ ad (m_up M 0 0 (nI 0)))) rfl ?_
  refine j_iload_n X 1 dX7_way_5 rfl rfl ?_
  refine j_iload_n X 2 dX7_way_6 rfl rfl ?_
  refine p_callSI X hA hZ (rest := []) [] (m_w cI cZ ad (m_up M 0 0 (nI 0))) (fun _ => (m_w cI cZ ad (m_up M 0 0 (nI 0)))) (List.Perm.refl _) (fun _ => nil_perm (m_w cI cZ ad (m_up M 0 0 (nI 0)))) [.int x, .int y] (m_isCell x y) 2 rfl gX7_way_X7_isCell rfl ⟨rfl, rfl⟩ mh_X7_isCell_P ⟨Nat.le_of_ble_eq_true rfl, Nat.le_of_ble_eq_true rfl⟩ rfl (Nat.le_of_ble_eq_true rfl) ⟨by show 0 + 0 ≤ 0; omega, by show 0 + 0 ≤ 0; omega⟩ dX7_way_7 (fun r9 u9 h9 => ?_)
  replace h9 := h9.symm
  subst h9
  refine j_if_eq X (tgt := 22) dX7_way_10 (by decide) (fun c1 => ?_) (fun c1 => ?_)
  · refine j_aload_n X 0 dX7_way_22 rfl rfl ?_
    refine j_iconst (v := nI 1) X (by decide) dX7_way_23 ?_
    refine p_callVI X hA hZ (rest := []) (m_w cI cZ ad (m_up M 0 0 (nI 0))) [] (fun u => m_w cI cZ ad u) (nil_perm _).symm (fun _ => List.Perm.refl _) [.int (nI 1)] 0 rfl rfl (m_no (cI := cI) (cZ := cZ) (cT := cT) ad (m_up M 0 0 (nI 0)) (nI 1)) 1 rfl gX7_way_X7_no rfl ⟨rfl, rfl⟩ mh_X7_no_V ⟨Nat.le_of_ble_eq_true rfl, Nat.le_of_ble_eq_true rfl⟩ rfl (Nat.le_of_ble_eq_true rfl) ⟨by show 0 + 0 ≤ 0; omega, by show 0 + 0 ≤ 0; omega⟩ dX7_way_24 (fun r9 u9 h9 => ?_)
    obtain ⟨h9a, h9b⟩ := h9
    replace h9a := h9a.symm
    subst h9a
    replace h9b := h9b.symm
    subst h9b
    exact j_iret X (m_up (m_up M 0 0 (nI 0)) 0 0 (nI 1)) rfl dX7_way_27 ⟨rfl, rfl⟩
  · refine j_iload_n X 3 dX7_way_13 rfl rfl ?_
    refine j_iload X 4 dX7_way_14 rfl ?_
    refine p_callSI X hA hZ (rest := []) [] (m_w cI cZ ad (m_up M 0 0 (nI 0))) (fun _ => (m_w cI cZ ad (m_up M 0 0 (nI 0)))) (List.Perm.refl _) (fun _ => nil_perm (m_w cI cZ ad (m_up M 0 0 (nI 0)))) [.int v, .int z] (m_isCell v z) 2 rfl gX7_way_X7_isCell rfl ⟨rfl, rfl⟩ mh_X7_isCell_P ⟨Nat.le_of_ble_eq_true rfl, Nat.le_of_ble_eq_true rfl⟩ rfl (Nat.le_of_ble_eq_true rfl) ⟨by show 0 + 0 ≤ 0; omega, by show 0 + 0 ≤ 0; omega⟩ dX7_way_16 (fun r9 u9 h9 => ?_)
    replace h9 := h9.symm
    subst h9
    refine j_if_ne X (tgt := 28) dX7_way_19 (by decide) (fun c2 => ?_) (fun c2 => ?_)
    · exact absurd ⟨Classical.byContradiction fun q => c1 (cel_0 q), Classical.byContradiction fun q => c2 (cel_0 q)⟩ hb
    · refine j_aload_n X 0 dX7_way_22 rfl rfl ?_
      refine j_iconst (v := nI 1) X (by decide) dX7_way_23 ?_
      refine p_callVI X hA hZ (rest := []) (m_w cI cZ ad (m_up M 0 0 (nI 0))) [] (fun u => m_w cI cZ ad u) (nil_perm _).symm (fun _ => List.Perm.refl _) [.int (nI 1)] 0 rfl rfl (m_no (cI := cI) (cZ := cZ) (cT := cT) ad (m_up M 0 0 (nI 0)) (nI 1)) 1 rfl gX7_way_X7_no rfl ⟨rfl, rfl⟩ mh_X7_no_V ⟨Nat.le_of_ble_eq_true rfl, Nat.le_of_ble_eq_true rfl⟩ rfl (Nat.le_of_ble_eq_true rfl) ⟨by show 0 + 0 ≤ 0; omega, by show 0 + 0 ≤ 0; omega⟩ dX7_way_24 (fun r9 u9 h9 => ?_)
      obtain ⟨h9a, h9b⟩ := h9
      replace h9a := h9a.symm
      subst h9a
      replace h9b := h9b.symm
      subst h9b
      exact j_iret X (m_up (m_up M 0 0 (nI 0)) 0 0 (nI 1)) rfl dX7_way_27 ⟨rfl, rfl⟩
theorem mm_X7_way_38 : Cond.fieldLink RX7 38 RX7 (TX7 12).2.1 (TX7 12).2.2.1 ∈ wsX7_way := by decide +kernel
set_option maxRecDepth 100000 in
set_option maxHeartbeats 4000000 in
theorem m_way1 (ad : Nat → Nat) (M : mS) (hM : mfr M) (a b : Nat) (ha : a < 12) (hb : b < 12) (v z : Nat) (hv : v < 12) (hz : z < 12) : jI l G K (j_ty cI cZ cT cB) yX7_way wsX7_way { frames := 3, cells := 0, slots := 0, locals := 66 } (m_w cI cZ ad M) [.ref (ad 0), .int (nI a), .int (nI b), .int (nI v), .int (nI z)] 0 0 (fun r (u : mS) => r = -1 ∧ u 0 0 = nI 0) (fun u => m_w cI cZ ad u) := by
  refine j_ofI (cc := cX7_way) (maxL := 11) (by decide) rfl (Nat.le_of_ble_eq_true rfl) ?_
  intro p e s m args below meth c X hnm hZ
  have hA : ∀ q, s.heap.size ≤ q → (va_A (m_w cI cZ ad M) s.heap.size) q := fun _ h => Or.inr h
  refine j_aload_n X 0 dX7_way_0 rfl rfl ?_
  refine j_iconst (v := nI 0) X (by decide) dX7_way_1 ?_
  refine j_put X 0 (C := RX7) (T := TX7) (N := 14) rfl rfl 0 (by decide) mi_X7_way_X7 RX7 mm_X7_way_48 (fun x q => q) tyX7_ok nmX7 rfl (ty := .int) (v := .int (nI 0)) (by decide +kernel) rfl rfl (Nat.le_of_ble_eq_true rfl) dX7_way_2 ?_
  refine j_weq (ws' := (m_w cI cZ ad (m_up M 0 0 (nI 0)))) rfl ?_
  refine j_iload_n X 1 dX7_way_5 rfl rfl ?_
  refine j_iload_n X 2 dX7_way_6 rfl rfl ?_
  refine p_callSI X hA hZ (rest := []) [] (m_w cI cZ ad (m_up M 0 0 (nI 0))) (fun _ => (m_w cI cZ ad (m_up M 0 0 (nI 0)))) (List.Perm.refl _) (fun _ => nil_perm (m_w cI cZ ad (m_up M 0 0 (nI 0)))) [.int (nI a), .int (nI b)] (m_isCell (nI a) (nI b)) 2 rfl gX7_way_X7_isCell rfl ⟨rfl, rfl⟩ mh_X7_isCell_P ⟨Nat.le_of_ble_eq_true rfl, Nat.le_of_ble_eq_true rfl⟩ rfl (Nat.le_of_ble_eq_true rfl) ⟨by show 0 + 0 ≤ 0; omega, by show 0 + 0 ≤ 0; omega⟩ dX7_way_7 (fun r9 u9 h9 => ?_)
  replace h9 := h9.symm
  subst h9
  refine j_top (y := nI 1) (cel_1 (pin_of ha hb)) ?_
  refine j_if_eq X (tgt := 22) dX7_way_10 (by decide) (fun c9 => ?_) (fun c9 => ?_)
  · exact absurd c9 (by decide)
  · refine j_iload_n X 3 dX7_way_13 rfl rfl ?_
    refine j_iload X 4 dX7_way_14 rfl ?_
    refine p_callSI X hA hZ (rest := []) [] (m_w cI cZ ad (m_up M 0 0 (nI 0))) (fun _ => (m_w cI cZ ad (m_up M 0 0 (nI 0)))) (List.Perm.refl _) (fun _ => nil_perm (m_w cI cZ ad (m_up M 0 0 (nI 0)))) [.int (nI v), .int (nI z)] (m_isCell (nI v) (nI z)) 2 rfl gX7_way_X7_isCell rfl ⟨rfl, rfl⟩ mh_X7_isCell_P ⟨Nat.le_of_ble_eq_true rfl, Nat.le_of_ble_eq_true rfl⟩ rfl (Nat.le_of_ble_eq_true rfl) ⟨by show 0 + 0 ≤ 0; omega, by show 0 + 0 ≤ 0; omega⟩ dX7_way_16 (fun r9 u9 h9 => ?_)
    replace h9 := h9.symm
    subst h9
    refine j_top (y := nI 1) (cel_1 (pin_of hv hz)) ?_
    refine j_if_ne X (tgt := 28) dX7_way_19 (by decide) (fun c9 => ?_) (fun c9 => ?_)
    · refine j_bipush (v := nI 12) X (by decide) dX7_way_28 ?_
      refine j_iload_n X 2 dX7_way_30 rfl rfl ?_
      refine j_imulN X 12 b dX7_way_31 ?_
      refine j_iload_n X 1 dX7_way_32 rfl rfl ?_
      refine j_iadd X dX7_way_33 ?_
      refine j_top (y := nI ((12 * b) + a)) (nI_add (12 * b) a) ?_
      refine j_istore (lo' := [(5, .int (nI ((12 * b) + a))), (0, .ref (ad 0)), (1, .int (nI a)), (2, .int (nI b)), (3, .int (nI v)), (4, .int (nI z))]) X dX7_way_34 (by decide) rfl ?_
      refine j_bipush (v := nI 12) X (by decide) dX7_way_36 ?_
      refine j_iload X 5 dX7_way_38 rfl ?_
      refine j_imulN X 12 z dX7_way_40 ?_
      refine j_iload_n X 4 dX7_way_41 rfl rfl ?_
      refine j_iadd X dX7_way_42 ?_
      refine j_top (y := nI ((12 * z) + v)) (nI_add (12 * z) v) ?_
      refine j_istore (lo' := [(6, .int (nI ((12 * z) + v))), (5, .int (nI ((12 * b) + a))), (0, .ref (ad 0)), (1, .int (nI a)), (2, .int (nI b)), (3, .int (nI v)), (4, .int (nI z))]) X dX7_way_43 (by decide) rfl ?_
      refine j_aload_n X 2 dX7_way_45 rfl rfl ?_
      refine j_get X 0 (C := RX7) (T := TX7) (N := 14) rfl rfl 12 (by decide) mi_X7_way_X7 RX7 mm_X7_way_38 (fun x q => q) (v := .ref (ad 9)) rfl dX7_way_46 ?_
      refine j_iload X 1 dX7_way_49 rfl ?_
      refine p_callVI X hA hZ (rest := []) (m_w cI cZ ad (m_up M 0 0 (nI 0))) [] (fun u => m_w cI cZ ad u) (nil_perm _).symm (fun _ => List.Perm.refl _) [.int (nI ((12 * b) + a))] 9 rfl rfl (m_isT9 (cI := cI) (cZ := cZ) (cT := cT) ad (m_up M 0 0 (nI 0)) ((12 * b) + a) (by omega) ((hM.2.1 _ (by omega)).trans (fz_n _ 2 (by decide) (by decide)))) 1 rfl gX7_way_X6_isTunnel rfl ⟨rfl, rfl⟩ mh_X6_isTunnel_V ⟨Nat.le_of_ble_eq_true rfl, Nat.le_of_ble_eq_true rfl⟩ rfl (Nat.le_of_ble_eq_true rfl) ⟨by show 0 + 0 ≤ 0; omega, by show 0 + 0 ≤ 0; omega⟩ dX7_way_51 (fun r9 u9 h9 => ?_)
      obtain ⟨h9a, h9b⟩ := h9
      replace h9a := h9a.symm
      subst h9a
      replace h9b := h9b.symm
      subst h9b
      refine j_if_eq X (tgt := 69) dX7_way_54 (by decide) (fun c9 => ?_) (fun c9 => ?_)
      · refine j_iconst (v := -1) X (by decide) dX7_way_69 ?_
        exact j_iret X (m_up M 0 0 (nI 0)) rfl dX7_way_70 ⟨rfl, rfl⟩
      · exact absurd c9 (by decide)
    · exact absurd c9 (by decide)
theorem mm_X7_foresee_48 : Cond.fieldLink RX7 48 RX7 (TX7 0).2.1 (TX7 0).2.2.1 ∈ wsX7_foresee := by decide +kernel
theorem mi_X7_foresee_X7 : ∀ w ∈ u_ws RX7 TX7 14, w ∈ wsX7_foresee := by decide +kernel
set_option maxRecDepth 100000 in
set_option maxHeartbeats 4000000 in
theorem m_foresee1 (ad : Nat → Nat) (M : mS) (hM : mfr M) (h k : Int32) (hb : ¬ (¬ h < 1 ∧ ¬ 150 < h)) : jI l G K (j_ty cI cZ cT cB) yX7_foresee wsX7_foresee { frames := 8, cells := 0, slots := 0, locals := 187 } (m_w cI cZ ad M) [.ref (ad 0), .int h, .int k] 0 0 (fun r (u : mS) => r = nI 0 ∧ u 0 0 = nI 1) (fun u => m_w cI cZ ad u) := by
  refine j_ofI (cc := cX7_foresee) (maxL := 4) (by decide) rfl (Nat.le_of_ble_eq_true rfl) ?_
  intro p e s m args below meth c X hnm hZ
  have hA : ∀ q, s.heap.size ≤ q → (va_A (m_w cI cZ ad M) s.heap.size) q := fun _ h => Or.inr h
  refine j_aload_n X 0 dX7_foresee_0 rfl rfl ?_
  refine j_iconst (v := nI 0) X (by decide) dX7_foresee_1 ?_
  refine j_put X 0 (C := RX7) (T := TX7) (N := 14) rfl rfl 0 (by decide) mi_X7_foresee_X7 RX7 mm_X7_foresee_48 (fun x q => q) tyX7_ok nmX7 rfl (ty := .int) (v := .int (nI 0)) (by decide +kernel) rfl rfl (Nat.le_of_ble_eq_true rfl) dX7_foresee_2 ?_
  refine j_weq (ws' := (m_w cI cZ ad (m_up M 0 0 (nI 0)))) rfl ?_
  refine j_iload_n X 1 dX7_foresee_5 rfl rfl ?_
  refine j_iconst (v := nI 1) X (by decide) dX7_foresee_6 ?_
  refine j_sipush (v := nI 150) X (by decide) dX7_foresee_7 ?_
  refine p_callSI X hA hZ (rest := []) [] (m_w cI cZ ad (m_up M 0 0 (nI 0))) (fun _ => (m_w cI cZ ad (m_up M 0 0 (nI 0)))) (List.Perm.refl _) (fun _ => nil_perm (m_w cI cZ ad (m_up M 0 0 (nI 0)))) [.int h, .int (nI 1), .int (nI 150)] (m_isIn h (nI 1) (nI 150)) 3 rfl gX7_foresee_X7_isIn rfl ⟨rfl, rfl⟩ mh_X7_isIn_P ⟨Nat.le_of_ble_eq_true rfl, Nat.le_of_ble_eq_true rfl⟩ rfl (Nat.le_of_ble_eq_true rfl) ⟨by show 0 + 0 ≤ 0; omega, by show 0 + 0 ≤ 0; omega⟩ dX7_foresee_10 (fun r9 u9 h9 => ?_)
  replace h9 := h9.symm
  subst h9
  refine j_if_ne X (tgt := 22) dX7_foresee_13 (by decide) (fun c1 => ?_) (fun c1 => ?_)
  · exact absurd (Decidable.byContradiction fun q => c1 (in_n q)) hb
  · refine j_aload_n X 0 dX7_foresee_16 rfl rfl ?_
    refine j_iconst (v := nI 1) X (by decide) dX7_foresee_17 ?_
    refine p_callVI X hA hZ (rest := []) (m_w cI cZ ad (m_up M 0 0 (nI 0))) [] (fun u => m_w cI cZ ad u) (nil_perm _).symm (fun _ => List.Perm.refl _) [.int (nI 1)] 0 rfl rfl (m_no (cI := cI) (cZ := cZ) (cT := cT) ad (m_up M 0 0 (nI 0)) (nI 1)) 1 rfl gX7_foresee_X7_no rfl ⟨rfl, rfl⟩ mh_X7_no_V ⟨Nat.le_of_ble_eq_true rfl, Nat.le_of_ble_eq_true rfl⟩ rfl (Nat.le_of_ble_eq_true rfl) ⟨by show 0 + 0 ≤ 0; omega, by show 0 + 0 ≤ 0; omega⟩ dX7_foresee_18 (fun r9 u9 h9 => ?_)
    obtain ⟨h9a, h9b⟩ := h9
    replace h9a := h9a.symm
    subst h9a
    replace h9b := h9b.symm
    subst h9b
    exact j_iret X (m_up (m_up M 0 0 (nI 0)) 0 0 (nI 1)) rfl dX7_foresee_21 ⟨rfl, rfl⟩
set_option maxRecDepth 100000 in
set_option maxHeartbeats 4000000 in
theorem m_foresee2 (ad : Nat → Nat) (M : mS) (hM : mfr M) (h k : Int32) (hh : ¬ h < 1 ∧ ¬ 150 < h) (hb : ¬ (¬ k < 0 ∧ k < 4)) : jI l G K (j_ty cI cZ cT cB) yX7_foresee wsX7_foresee { frames := 8, cells := 0, slots := 0, locals := 187 } (m_w cI cZ ad M) [.ref (ad 0), .int h, .int k] 0 0 (fun r (u : mS) => r = nI 0 ∧ u 0 0 = nI 2) (fun u => m_w cI cZ ad u) := by
  refine j_ofI (cc := cX7_foresee) (maxL := 4) (by decide) rfl (Nat.le_of_ble_eq_true rfl) ?_
  intro p e s m args below meth c X hnm hZ
  have hA : ∀ q, s.heap.size ≤ q → (va_A (m_w cI cZ ad M) s.heap.size) q := fun _ h => Or.inr h
  refine j_aload_n X 0 dX7_foresee_0 rfl rfl ?_
  refine j_iconst (v := nI 0) X (by decide) dX7_foresee_1 ?_
  refine j_put X 0 (C := RX7) (T := TX7) (N := 14) rfl rfl 0 (by decide) mi_X7_foresee_X7 RX7 mm_X7_foresee_48 (fun x q => q) tyX7_ok nmX7 rfl (ty := .int) (v := .int (nI 0)) (by decide +kernel) rfl rfl (Nat.le_of_ble_eq_true rfl) dX7_foresee_2 ?_
  refine j_weq (ws' := (m_w cI cZ ad (m_up M 0 0 (nI 0)))) rfl ?_
  refine j_iload_n X 1 dX7_foresee_5 rfl rfl ?_
  refine j_iconst (v := nI 1) X (by decide) dX7_foresee_6 ?_
  refine j_sipush (v := nI 150) X (by decide) dX7_foresee_7 ?_
  refine p_callSI X hA hZ (rest := []) [] (m_w cI cZ ad (m_up M 0 0 (nI 0))) (fun _ => (m_w cI cZ ad (m_up M 0 0 (nI 0)))) (List.Perm.refl _) (fun _ => nil_perm (m_w cI cZ ad (m_up M 0 0 (nI 0)))) [.int h, .int (nI 1), .int (nI 150)] (m_isIn h (nI 1) (nI 150)) 3 rfl gX7_foresee_X7_isIn rfl ⟨rfl, rfl⟩ mh_X7_isIn_P ⟨Nat.le_of_ble_eq_true rfl, Nat.le_of_ble_eq_true rfl⟩ rfl (Nat.le_of_ble_eq_true rfl) ⟨by show 0 + 0 ≤ 0; omega, by show 0 + 0 ≤ 0; omega⟩ dX7_foresee_10 (fun r9 u9 h9 => ?_)
  replace h9 := h9.symm
  subst h9
  refine j_top (y := nI 1) (in_1 hh.1 hh.2) ?_
  refine j_if_ne X (tgt := 22) dX7_foresee_13 (by decide) (fun c9 => ?_) (fun c9 => ?_)
  · refine j_iload_n X 2 dX7_foresee_22 rfl rfl ?_
    refine j_iconst (v := nI 0) X (by decide) dX7_foresee_23 ?_
    refine j_iconst (v := nI 3) X (by decide) dX7_foresee_24 ?_
    refine p_callSI X hA hZ (rest := []) [] (m_w cI cZ ad (m_up M 0 0 (nI 0))) (fun _ => (m_w cI cZ ad (m_up M 0 0 (nI 0)))) (List.Perm.refl _) (fun _ => nil_perm (m_w cI cZ ad (m_up M 0 0 (nI 0)))) [.int k, .int (nI 0), .int (nI 3)] (m_isIn k (nI 0) (nI 3)) 3 rfl gX7_foresee_X7_isIn rfl ⟨rfl, rfl⟩ mh_X7_isIn_P ⟨Nat.le_of_ble_eq_true rfl, Nat.le_of_ble_eq_true rfl⟩ rfl (Nat.le_of_ble_eq_true rfl) ⟨by show 0 + 0 ≤ 0; omega, by show 0 + 0 ≤ 0; omega⟩ dX7_foresee_25 (fun r9 u9 h9 => ?_)
    replace h9 := h9.symm
    subst h9
    refine j_if_ne X (tgt := 37) dX7_foresee_28 (by decide) (fun c1 => ?_) (fun c1 => ?_)
    · have hk : ¬ k < 0 ∧ ¬ 3 < k := Decidable.byContradiction fun q => c1 (in_n q)
      exact absurd ⟨hk.1, (up_to (k := 3) (by decide) hk.1).2 hk.2⟩ hb
    · refine j_aload_n X 0 dX7_foresee_31 rfl rfl ?_
      refine j_iconst (v := nI 2) X (by decide) dX7_foresee_32 ?_
      refine p_callVI X hA hZ (rest := []) (m_w cI cZ ad (m_up M 0 0 (nI 0))) [] (fun u => m_w cI cZ ad u) (nil_perm _).symm (fun _ => List.Perm.refl _) [.int (nI 2)] 0 rfl rfl (m_no (cI := cI) (cZ := cZ) (cT := cT) ad (m_up M 0 0 (nI 0)) (nI 2)) 1 rfl gX7_foresee_X7_no rfl ⟨rfl, rfl⟩ mh_X7_no_V ⟨Nat.le_of_ble_eq_true rfl, Nat.le_of_ble_eq_true rfl⟩ rfl (Nat.le_of_ble_eq_true rfl) ⟨by show 0 + 0 ≤ 0; omega, by show 0 + 0 ≤ 0; omega⟩ dX7_foresee_33 (fun r9 u9 h9 => ?_)
      obtain ⟨h9a, h9b⟩ := h9
      replace h9a := h9a.symm
      subst h9a
      replace h9b := h9b.symm
      subst h9b
      exact j_iret X (m_up (m_up M 0 0 (nI 0)) 0 0 (nI 2)) rfl dX7_foresee_36 ⟨rfl, rfl⟩
  · exact absurd c9 (by decide)
theorem mm_X7_foresee_42 : Cond.fieldLink RX7 42 RX7 (TX7 13).2.1 (TX7 13).2.2.1 ∈ wsX7_foresee := by decide +kernel
theorem mm_X7_foresee_38 : Cond.fieldLink RX7 38 RX7 (TX7 12).2.1 (TX7 12).2.2.1 ∈ wsX7_foresee := by decide +kernel
theorem mh_X6_become_V : yX6_become.cls = RX6 ∧ yX6_become.cls ≠ "java/lang/invoke/MethodHandle" ∧ yX6_become.cls ≠ "java/lang/invoke/VarHandle" ∧ (parseMethodDescriptor yX6_become.desc).map (fun d => d.parameters.length) = some 1 := by decide +kernel
theorem mi_X7_foresee_X6 : ∀ w ∈ u_ws RX6 TX6 5, w ∈ wsX7_foresee := by decide +kernel
set_option maxRecDepth 100000 in
set_option maxHeartbeats 4000000 in
theorem m_foresee3 (ad : Nat → Nat) (M : mS) (hM : mfr M) (n k : Nat) (h1 : 1 ≤ n) (h2 : n ≤ 150) (hk : k < 4) : jI l G K (j_ty cI cZ cT cB) yX7_foresee wsX7_foresee { frames := 8, cells := 0, slots := 0, locals := 187 } (m_w cI cZ ad M) [.ref (ad 0), .int (nI n), .int (nI k)] 0 0 (fun r (u : mS) => r = nI 0 ∧ u 0 0 = nI 0) (fun u => m_w cI cZ ad u) := by
  refine j_ofI (cc := cX7_foresee) (maxL := 4) (by decide) rfl (Nat.le_of_ble_eq_true rfl) ?_
  intro p e s m args below meth c X hnm hZ
  have hA : ∀ q, s.heap.size ≤ q → (va_A (m_w cI cZ ad M) s.heap.size) q := fun _ h => Or.inr h
  refine j_aload_n X 0 dX7_foresee_0 rfl rfl ?_
  refine j_iconst (v := nI 0) X (by decide) dX7_foresee_1 ?_
  refine j_put X 0 (C := RX7) (T := TX7) (N := 14) rfl rfl 0 (by decide) mi_X7_foresee_X7 RX7 mm_X7_foresee_48 (fun x q => q) tyX7_ok nmX7 rfl (ty := .int) (v := .int (nI 0)) (by decide +kernel) rfl rfl (Nat.le_of_ble_eq_true rfl) dX7_foresee_2 ?_
  refine j_weq (ws' := (m_w cI cZ ad (m_up M 0 0 (nI 0)))) rfl ?_
  refine j_iload_n X 1 dX7_foresee_5 rfl rfl ?_
  refine j_iconst (v := nI 1) X (by decide) dX7_foresee_6 ?_
  refine j_sipush (v := nI 150) X (by decide) dX7_foresee_7 ?_
  refine p_callSI X hA hZ (rest := []) [] (m_w cI cZ ad (m_up M 0 0 (nI 0))) (fun _ => (m_w cI cZ ad (m_up M 0 0 (nI 0)))) (List.Perm.refl _) (fun _ => nil_perm (m_w cI cZ ad (m_up M 0 0 (nI 0)))) [.int (nI n), .int (nI 1), .int (nI 150)] (m_isIn (nI n) (nI 1) (nI 150)) 3 rfl gX7_foresee_X7_isIn rfl ⟨rfl, rfl⟩ mh_X7_isIn_P ⟨Nat.le_of_ble_eq_true rfl, Nat.le_of_ble_eq_true rfl⟩ rfl (Nat.le_of_ble_eq_true rfl) ⟨by show 0 + 0 ≤ 0; omega, by show 0 + 0 ≤ 0; omega⟩ dX7_foresee_10 (fun r9 u9 h9 => ?_)
  replace h9 := h9.symm
  subst h9
  refine j_top (y := nI 1) (in_1 (fun g => absurd ((nI_ltI (b := 1) (by omega) (by decide)).1 g) (by omega)) (fun g => absurd ((nI_ltI (a := 150) (by decide) (by omega)).1 g) (by omega))) ?_
  refine j_if_ne X (tgt := 22) dX7_foresee_13 (by decide) (fun c9 => ?_) (fun c9 => ?_)
  · refine j_iload_n X 2 dX7_foresee_22 rfl rfl ?_
    refine j_iconst (v := nI 0) X (by decide) dX7_foresee_23 ?_
    refine j_iconst (v := nI 3) X (by decide) dX7_foresee_24 ?_
    refine p_callSI X hA hZ (rest := []) [] (m_w cI cZ ad (m_up M 0 0 (nI 0))) (fun _ => (m_w cI cZ ad (m_up M 0 0 (nI 0)))) (List.Perm.refl _) (fun _ => nil_perm (m_w cI cZ ad (m_up M 0 0 (nI 0)))) [.int (nI k), .int (nI 0), .int (nI 3)] (m_isIn (nI k) (nI 0) (nI 3)) 3 rfl gX7_foresee_X7_isIn rfl ⟨rfl, rfl⟩ mh_X7_isIn_P ⟨Nat.le_of_ble_eq_true rfl, Nat.le_of_ble_eq_true rfl⟩ rfl (Nat.le_of_ble_eq_true rfl) ⟨by show 0 + 0 ≤ 0; omega, by show 0 + 0 ≤ 0; omega⟩ dX7_foresee_25 (fun r9 u9 h9 => ?_)
    replace h9 := h9.symm
    subst h9
    refine j_top (y := nI 1) (in_1 (nI_pos (by omega)) (fun g => absurd ((nI_ltI (a := 3) (by decide) (by omega)).1 g) (by omega))) ?_
    refine j_if_ne X (tgt := 37) dX7_foresee_28 (by decide) (fun c9 => ?_) (fun c9 => ?_)
    · refine j_aload_n X 0 dX7_foresee_37 rfl rfl ?_
      refine j_get X 0 (C := RX7) (T := TX7) (N := 14) rfl rfl 13 (by decide) mi_X7_foresee_X7 RX7 mm_X7_foresee_42 (fun x q => q) (v := .ref (ad 13)) rfl dX7_foresee_38 ?_
      refine j_aload_n X 0 dX7_foresee_41 rfl rfl ?_
      refine j_get X 0 (C := RX7) (T := TX7) (N := 14) rfl rfl 12 (by decide) mi_X7_foresee_X7 RX7 mm_X7_foresee_38 (fun x q => q) (v := .ref (ad 9)) rfl dX7_foresee_42 ?_
      refine p_callVU X hA hZ (rest := []) (m_w cI cZ ad (m_up M 0 0 (nI 0))) [] (fun u => m_w cI cZ ad u) (nil_perm _).symm (fun _ => List.Perm.refl _) [.ref (ad 9)] 13 rfl rfl (m_become (cI := cI) (cZ := cZ) (cT := cT) ad (m_up M 0 0 (nI 0)) (by exact ⟨⟨hM.1.1, hM.1.2.1, hM.1.2.2⟩, hM.2.1, hM.2.2.1, hM.2.2.2⟩)) 1 rfl gX7_foresee_X6_become rfl ⟨rfl, rfl⟩ mh_X6_become_V ⟨Nat.le_of_ble_eq_true rfl, Nat.le_of_ble_eq_true rfl⟩ rfl (Nat.le_of_ble_eq_true rfl) ⟨by show 0 + 0 ≤ 0; omega, by show 0 + 0 ≤ 0; omega⟩ dX7_foresee_45 (fun M1 h1 => ?_)
      obtain ⟨b1, b2, b3, b4, b5⟩ := h1
      have h3 : M1 0 3 = nI 0 := b1.trans hM.1.2.2
      refine j_aload_n X 0 dX7_foresee_48 rfl rfl ?_
      refine j_aload_n X 0 dX7_foresee_49 rfl rfl ?_
      refine j_get X 0 (C := RX7) (T := TX7) (N := 14) rfl rfl 13 (by decide) mi_X7_foresee_X7 RX7 mm_X7_foresee_42 (fun x q => q) (v := .ref (ad 13)) rfl dX7_foresee_50 ?_
      refine j_iload_n X 1 dX7_foresee_53 rfl rfl ?_
      refine p_callVI X hA hZ (rest := []) (m_w cI cZ ad M1) [] (fun u => m_w cI cZ ad u) (nil_perm _).symm (fun _ => List.Perm.refl _) [.ref (ad 13), .int (nI n)] 0 rfl rfl (m_hours13 (cI := cI) (cZ := cZ) (cT := cT) ad M1 n (by omega) h3 b3) 2 rfl gX7_foresee_X7_hours rfl ⟨rfl, rfl⟩ mh_X7_hours_V ⟨Nat.le_of_ble_eq_true rfl, Nat.le_of_ble_eq_true rfl⟩ rfl (Nat.le_of_ble_eq_true rfl) ⟨by show 0 + 0 ≤ 0; omega, by show 0 + 0 ≤ 0; omega⟩ dX7_foresee_54 (fun r9 u9 h9 => ?_)
      obtain ⟨h9a, h9b⟩ := h9
      replace h9a := h9a.symm
      subst h9a
      have e0 : u9 0 0 = nI 0 := (h9b 0 0 (by decide) (by omega)).trans b5
      have e3 : u9 0 3 = nI 0 := (h9b 0 3 (by decide) (by omega)).trans h3
      have e13 : u9 13 1 = nI 0 := (h9b 13 1 (by decide) (by omega)).trans b4
      have e9 : u9 9 1 = nI 0 := (h9b 9 1 (by decide) (by omega)).trans (b2.trans hM.2.2.2)
      refine j_istore_n (lo' := [(3, .int (nI 0)), (0, .ref (ad 0)), (1, .int (nI n)), (2, .int (nI k))]) X dX7_foresee_57 rfl (by decide) rfl ?_
      refine j_iload_n X 3 dX7_foresee_58 rfl rfl ?_
      refine j_nif_ne X k rfl (by omega) (tgt := 66) dX7_foresee_59 (by decide) (fun c3 => ?_) (fun c3 => ?_)
      · refine j_iload_n X 3 dX7_foresee_66 rfl rfl ?_
        refine j_iconst (v := nI 3) X (by decide) dX7_foresee_67 ?_
        refine j_ncmp_ne X k 3 rfl rfl (by omega) (by omega) (tgt := 89) dX7_foresee_68 (by decide) (fun c4 => ?_) (fun c4 => ?_)
        · refine j_aload_n X 1 dX7_foresee_89 rfl rfl ?_
          refine j_aload_n X 1 dX7_foresee_90 rfl rfl ?_
          refine j_get X 0 (C := RX7) (T := TX7) (N := 14) rfl rfl 13 (by decide) mi_X7_foresee_X7 RX7 mm_X7_foresee_42 (fun x q => q) (v := .ref (ad 13)) rfl dX7_foresee_91 ?_
          refine j_iload_n X 3 dX7_foresee_94 rfl rfl ?_
          refine j_iconst (v := nI 1) X (by decide) dX7_foresee_95 ?_
          refine j_isub X dX7_foresee_96 ?_
          refine p_callVI X hA hZ (rest := []) (m_w cI cZ ad u9) [] (fun u => m_w cI cZ ad u) (nil_perm _).symm (fun _ => List.Perm.refl _) [.ref (ad 13), .int ((nI k) - (nI 1))] 0 rfl rfl (m_standing13 (cI := cI) (cZ := cZ) (cT := cT) ad u9 e3 ((nI k) - (nI 1))) 2 rfl gX7_foresee_X7_standing rfl ⟨rfl, rfl⟩ mh_X7_standing_V ⟨Nat.le_of_ble_eq_true rfl, Nat.le_of_ble_eq_true rfl⟩ rfl (Nat.le_of_ble_eq_true rfl) ⟨by show 0 + 0 ≤ 0; omega, by show 0 + 0 ≤ 0; omega⟩ dX7_foresee_97 (fun r9 u9 h9 => ?_)
          obtain ⟨h9a, h9b⟩ := h9
          replace h9a := h9a.symm
          subst h9a
          replace h9b := h9b.symm
          subst h9b
          exact j_iret X u9 rfl dX7_foresee_100 ⟨rfl, e0⟩
        · refine j_aload_n X 1 dX7_foresee_71 rfl rfl ?_
          refine j_get X 0 (C := RX7) (T := TX7) (N := 14) rfl rfl 13 (by decide) mi_X7_foresee_X7 RX7 mm_X7_foresee_42 (fun x q => q) (v := .ref (ad 13)) rfl dX7_foresee_72 ?_
          refine j_getN X 13 rfl rfl 1 (by decide) mi_X7_foresee_X6 (hZ.2.2.2.1.1 _ xn_1) (fun x q => q) (v := .int (u9 13 1)) rfl dX7_foresee_75 ?_
          refine j_top (y := nI 0) (e13) ?_
          refine j_aload_n X 1 dX7_foresee_78 rfl rfl ?_
          refine j_get X 0 (C := RX7) (T := TX7) (N := 14) rfl rfl 12 (by decide) mi_X7_foresee_X7 RX7 mm_X7_foresee_38 (fun x q => q) (v := .ref (ad 9)) rfl dX7_foresee_79 ?_
          refine j_getN X 9 rfl rfl 1 (by decide) mi_X7_foresee_X6 (hZ.2.2.2.1.1 _ xn_1) (fun x q => q) (v := .int (u9 9 1)) rfl dX7_foresee_82 ?_
          refine j_top (y := nI 0) (e9) ?_
          refine j_isub X dX7_foresee_85 ?_
          refine j_goto X (tgt := 100) dX7_foresee_86 (by decide) ?_
          exact j_iret X u9 rfl dX7_foresee_100 ⟨rfl, e0⟩
      · refine j_iload_n X 0 dX7_foresee_62 rfl rfl ?_
        refine j_goto X (tgt := 100) dX7_foresee_63 (by decide) ?_
        exact j_iret X u9 rfl dX7_foresee_100 ⟨rfl, e0⟩
    · exact absurd c9 (by decide)
  · exact absurd c9 (by decide)
theorem mm_X7_fallsIn_56 : Cond.fieldLink RX7 56 RX7 (TX7 5).2.1 (TX7 5).2.2.1 ∈ wsX7_fallsIn := by decide +kernel
theorem mi_X7_fallsIn_X7 : ∀ w ∈ u_ws RX7 TX7 14, w ∈ wsX7_fallsIn := by decide +kernel
theorem mi_X7_fallsIn_X6 : ∀ w ∈ u_ws RX6 TX6 5, w ∈ wsX7_fallsIn := by decide +kernel
set_option maxRecDepth 100000 in
set_option maxHeartbeats 4000000 in
theorem m_fallsIn (ad : Nat → Nat) (M : mS) (t : Nat) (h3 : M 0 3 = nI 0) (hc : ∀ j, j < 1152 → M 14 j = fz j) : jI l G K (j_ty cI cZ cT cB) yX7_fallsIn wsX7_fallsIn { frames := 6, cells := 0, slots := 0, locals := 140 } (m_w cI cZ ad M) [.ref (ad 0), .ref (ad 13), .int (nI t)] 0 0 (fun r (u : mS) => r = nI 0 ∧ mk5 13 M u) (fun u => m_w cI cZ ad u) := by
  refine j_ofZb (cc := cX7_fallsIn) (maxL := 5) (by decide) rfl (Nat.le_of_ble_eq_true rfl) ?_
  intro p e s m args below meth c X hnm hZ
  have hA : ∀ q, s.heap.size ≤ q → (va_A (m_w cI cZ ad M) s.heap.size) q := fun _ h => Or.inr h
  refine j_iconst (v := nI 0) X (by decide) dX7_fallsIn_0 ?_
  refine j_istore_n (lo' := [(3, .int (nI 0)), (0, .ref (ad 0)), (1, .ref (ad 13)), (2, .int (nI t))]) X dX7_fallsIn_1 rfl (by decide) rfl ?_
  refine j_iload_n X 0 dX7_fallsIn_2 rfl rfl ?_
  refine j_aload_n X 1 dX7_fallsIn_3 rfl rfl ?_
  refine j_get X 0 (C := RX7) (T := TX7) (N := 14) rfl rfl 5 (by decide) mi_X7_fallsIn_X7 RX7 mm_X7_fallsIn_56 (fun x q => q) (v := .int (M 0 3)) rfl dX7_fallsIn_4 ?_
  refine j_top (y := nI 0) (h3) ?_
  refine j_ncmp_ge X 0 0 rfl rfl (by omega) (by omega) (tgt := 22) dX7_fallsIn_7 (by decide) (fun c1 => ?_) (fun c1 => ?_)
  · refine j_aload_n X 1 dX7_fallsIn_22 rfl rfl ?_
    refine j_aload_n X 2 dX7_fallsIn_23 rfl rfl ?_
    refine p_callVU X hA hZ (rest := []) (m_w cI cZ ad M) [] (fun u => m_w cI cZ ad u) (nil_perm _).symm (fun _ => List.Perm.refl _) [.ref (ad 13)] 0 rfl rfl (m_fight13 (cI := cI) (cZ := cZ) (cT := cT) ad M h3) 1 rfl gX7_fallsIn_X7_fight rfl ⟨rfl, rfl⟩ mh_X7_fight_V ⟨Nat.le_of_ble_eq_true rfl, Nat.le_of_ble_eq_true rfl⟩ rfl (Nat.le_of_ble_eq_true rfl) ⟨by show 0 + 0 ≤ 0; omega, by show 0 + 0 ≤ 0; omega⟩ dX7_fallsIn_24 (fun u9 h9 => ?_)
    replace h9 := h9.symm
    subst h9
    refine j_aload_n X 1 dX7_fallsIn_27 rfl rfl ?_
    refine j_aload_n X 2 dX7_fallsIn_28 rfl rfl ?_
    refine p_callVU X hA hZ (rest := []) (m_w cI cZ ad M) [] (fun u => m_w cI cZ ad u) (nil_perm _).symm (fun _ => List.Perm.refl _) [.ref (ad 13)] 0 rfl rfl (m_drift13 (cI := cI) (cZ := cZ) (cT := cT) ad M hc) 1 rfl gX7_fallsIn_X7_drift rfl ⟨rfl, rfl⟩ mh_X7_drift_V ⟨Nat.le_of_ble_eq_true rfl, Nat.le_of_ble_eq_true rfl⟩ rfl (Nat.le_of_ble_eq_true rfl) ⟨by show 0 + 0 ≤ 0; omega, by show 0 + 0 ≤ 0; omega⟩ dX7_fallsIn_29 (fun M1 h1 => ?_)
    have hc1 : ∀ i, i < 1152 → M1 14 i = fz i := fun i hi => (h1 _ _ (by decide) (by omega)).trans (hc i hi)
    refine j_iconst (v := nI 0) X (by decide) dX7_fallsIn_32 ?_
    refine j_istore_n (lo' := [(3, .int (nI 0)), (0, .ref (ad 0)), (1, .ref (ad 13)), (2, .int (nI t))]) X dX7_fallsIn_33 rfl (by decide) rfl ?_
    refine j_iconst (v := nI 0) X (by decide) dX7_fallsIn_34 ?_
    refine j_istore (lo' := [(4, .int (nI 0)), (3, .int (nI 0)), (0, .ref (ad 0)), (1, .ref (ad 13)), (2, .int (nI t))]) X dX7_fallsIn_35 (by decide) rfl ?_
    have L37 : ∀ (d j : Nat), j + d = 144 → j_V p l e (headSpec wsX7_fallsIn { frames := 6, cells := 0, slots := 0, locals := 140 }).room s m args below meth c (MQ below (va_Qi (fun r (u : mS) => r = nI 0 ∧ mk5 13 M u) (j_B G (va_A (m_w cI cZ ad M) s.heap.size) (fun u => m_w cI cZ ad u)) (va_A (m_w cI cZ ad M) s.heap.size)) args s 0 0 (va_A (m_w cI cZ ad M) s.heap.size)) G 5 (va_A (m_w cI cZ ad M) s.heap.size) 0 0 (m_w cI cZ ad M1) 37 [(4, .int (nI j)), (3, .int (nI 0)), (0, .ref (ad 0)), (1, .ref (ad 13)), (2, .int (nI t))] [] := by
      intro d
      induction d with
      | zero =>
        intro j hj
        refine j_iload X 0 dX7_fallsIn_37 rfl ?_
        refine j_sipush (v := nI 144) X (by decide) dX7_fallsIn_39 ?_
        refine j_ncmp_ge X j 144 rfl rfl (by omega) (by omega) (tgt := 94) dX7_fallsIn_42 (by decide) (fun c5 => ?_) (fun c5 => ?_)
        · refine j_aload_n X 3 dX7_fallsIn_94 rfl rfl ?_
          refine j_dup X rfl dX7_fallsIn_95 ?_
          refine j_getN X 13 rfl rfl 0 (by decide) mi_X7_fallsIn_X6 (hZ.2.2.2.1.1 _ xn_0) (fun x q => q) (v := .int (M1 13 0)) rfl dX7_fallsIn_96 ?_
          refine j_iconst (v := nI 1) X (by decide) dX7_fallsIn_99 ?_
          refine j_iadd X dX7_fallsIn_100 ?_
          refine j_putN X 13 rfl rfl 0 (by decide) mi_X7_fallsIn_X6 (hZ.2.2.2.1.1 _ xn_0) (fun x q => q) tyX6_ok nmX6 rfl (ty := .int) (v := .int ((M1 13 0) + (nI 1))) (by decide +kernel) rfl rfl (Nat.le_of_ble_eq_true rfl) dX7_fallsIn_101 ?_
          refine j_weq (ws' := (m_w cI cZ ad (m_up M1 13 0 ((M1 13 0) + (nI 1))))) rfl ?_
          refine j_iload_n X 1 dX7_fallsIn_104 rfl rfl ?_
          exact j_zret X (m_up M1 13 0 ((M1 13 0) + (nI 1))) rfl rfl dX7_fallsIn_105 ⟨rfl, h1.hour _⟩
        · exact absurd c5 (by omega)
      | succ d ih =>
        intro j hj
        refine j_iload X 0 dX7_fallsIn_37 rfl ?_
        refine j_sipush (v := nI 144) X (by decide) dX7_fallsIn_39 ?_
        refine j_ncmp_ge X j 144 rfl rfl (by omega) (by omega) (tgt := 94) dX7_fallsIn_42 (by decide) (fun c5 => ?_) (fun c5 => ?_)
        · exact absurd c5 (by omega)
        · refine j_aload_n X 3 dX7_fallsIn_45 rfl rfl ?_
          refine j_iload X 0 dX7_fallsIn_46 rfl ?_
          refine p_callVI X hA hZ (rest := []) (m_w cI cZ ad M1) [] (fun u => m_w cI cZ ad u) (nil_perm _).symm (fun _ => List.Perm.refl _) [.int (nI j)] 13 rfl rfl (m_isT13 (cI := cI) (cZ := cZ) (cT := cT) ad M1 j (by omega) ((hc1 _ (by omega)).trans (fz_n j 2 (by decide) (by decide)))) 1 rfl gX7_fallsIn_X6_isTunnel rfl ⟨rfl, rfl⟩ mh_X6_isTunnel_V ⟨Nat.le_of_ble_eq_true rfl, Nat.le_of_ble_eq_true rfl⟩ rfl (Nat.le_of_ble_eq_true rfl) ⟨by show 0 + 0 ≤ 0; omega, by show 0 + 0 ≤ 0; omega⟩ dX7_fallsIn_48 (fun r9 u9 h9 => ?_)
          obtain ⟨h9a, h9b⟩ := h9
          replace h9a := h9a.symm
          subst h9a
          replace h9b := h9b.symm
          subst h9b
          refine j_if_eq X (tgt := 88) dX7_fallsIn_51 (by decide) (fun c9 => ?_) (fun c9 => ?_)
          · refine j_iinc (v := nI (j + 1)) (lo' := [(4, .int (nI (j + 1))), (3, .int (nI 0)), (0, .ref (ad 0)), (1, .ref (ad 13)), (2, .int (nI t))]) X 0 dX7_fallsIn_88 rfl ((congrArg (nI j + ·) (show Int32.ofInt 1 = nI 1 by decide)).trans (nI_add j 1)) (by decide) rfl ?_
            refine j_goto X (tgt := 37) dX7_fallsIn_91 (by decide) ?_
            refine j_lo [0, 1, 2, 3, 4] (lo' := [(4, .int (nI (j + 1))), (3, .int (nI 0)), (0, .ref (ad 0)), (1, .ref (ad 13)), (2, .int (nI t))]) rfl ?_
            exact ih (j + 1) (by omega)
          · exact absurd c9 (by decide)
    refine j_lo [0, 1, 2, 3, 4] (lo' := [(4, .int (nI 0)), (3, .int (nI 0)), (0, .ref (ad 0)), (1, .ref (ad 13)), (2, .int (nI t))]) rfl ?_
    exact L37 144 0 (by omega)
  · exact absurd c1 (by omega)
theorem mm_X7_falls_42 : Cond.fieldLink RX7 42 RX7 (TX7 13).2.1 (TX7 13).2.2.1 ∈ wsX7_falls := by decide +kernel
theorem mm_X7_falls_38 : Cond.fieldLink RX7 38 RX7 (TX7 12).2.1 (TX7 12).2.2.1 ∈ wsX7_falls := by decide +kernel
theorem mh_X7_fallsIn_V : yX7_fallsIn.cls = RX7 ∧ yX7_fallsIn.cls ≠ "java/lang/invoke/MethodHandle" ∧ yX7_fallsIn.cls ≠ "java/lang/invoke/VarHandle" ∧ (parseMethodDescriptor yX7_fallsIn.desc).map (fun d => d.parameters.length) = some 2 := by decide +kernel
set_option maxRecDepth 100000 in
set_option maxHeartbeats 4000000 in
theorem m_falls1 (ad : Nat → Nat) (M : mS) (hM : mfr M) (a b : Nat) (ha : a < 12) (hb : b < 12) : jI l G K (j_ty cI cZ cT cB) yX7_falls wsX7_falls { frames := 7, cells := 0, slots := 0, locals := 164 } (m_w cI cZ ad M) [.ref (ad 0), .int (nI a), .int (nI b)] 0 0 (fun r (u : mS) => r = -1 ∧ u 0 0 = nI 0) (fun u => m_w cI cZ ad u) := by
  refine j_ofI (cc := cX7_falls) (maxL := 5) (by decide) rfl (Nat.le_of_ble_eq_true rfl) ?_
  intro p e s m args below meth c X hnm hZ
  have hA : ∀ q, s.heap.size ≤ q → (va_A (m_w cI cZ ad M) s.heap.size) q := fun _ h => Or.inr h
  refine j_aload_n X 0 dX7_falls_0 rfl rfl ?_
  refine j_iconst (v := nI 0) X (by decide) dX7_falls_1 ?_
  refine j_put X 0 (C := RX7) (T := TX7) (N := 14) rfl rfl 0 (by decide) mi_X7_falls_X7 RX7 mm_X7_falls_48 (fun x q => q) tyX7_ok nmX7 rfl (ty := .int) (v := .int (nI 0)) (by decide +kernel) rfl rfl (Nat.le_of_ble_eq_true rfl) dX7_falls_2 ?_
  refine j_weq (ws' := (m_w cI cZ ad (m_up M 0 0 (nI 0)))) rfl ?_
  refine j_iload_n X 1 dX7_falls_5 rfl rfl ?_
  refine j_iload_n X 2 dX7_falls_6 rfl rfl ?_
  refine p_callSI X hA hZ (rest := []) [] (m_w cI cZ ad (m_up M 0 0 (nI 0))) (fun _ => (m_w cI cZ ad (m_up M 0 0 (nI 0)))) (List.Perm.refl _) (fun _ => nil_perm (m_w cI cZ ad (m_up M 0 0 (nI 0)))) [.int (nI a), .int (nI b)] (m_isCell (nI a) (nI b)) 2 rfl gX7_falls_X7_isCell rfl ⟨rfl, rfl⟩ mh_X7_isCell_P ⟨Nat.le_of_ble_eq_true rfl, Nat.le_of_ble_eq_true rfl⟩ rfl (Nat.le_of_ble_eq_true rfl) ⟨by show 0 + 0 ≤ 0; omega, by show 0 + 0 ≤ 0; omega⟩ dX7_falls_7 (fun r9 u9 h9 => ?_)
  replace h9 := h9.symm
  subst h9
  refine j_top (y := nI 1) (cel_1 (pin_of ha hb)) ?_
  refine j_if_ne X (tgt := 19) dX7_falls_10 (by decide) (fun c9 => ?_) (fun c9 => ?_)
  · refine j_bipush (v := nI 12) X (by decide) dX7_falls_19 ?_
    refine j_iload_n X 2 dX7_falls_21 rfl rfl ?_
    refine j_imulN X 12 b dX7_falls_22 ?_
    refine j_iload_n X 1 dX7_falls_23 rfl rfl ?_
    refine j_iadd X dX7_falls_24 ?_
    refine j_top (y := nI ((12 * b) + a)) (nI_add (12 * b) a) ?_
    refine j_istore_n (lo' := [(3, .int (nI ((12 * b) + a))), (0, .ref (ad 0)), (1, .int (nI a)), (2, .int (nI b))]) X dX7_falls_25 rfl (by decide) rfl ?_
    refine j_aload_n X 1 dX7_falls_26 rfl rfl ?_
    refine j_get X 0 (C := RX7) (T := TX7) (N := 14) rfl rfl 13 (by decide) mi_X7_falls_X7 RX7 mm_X7_falls_42 (fun x q => q) (v := .ref (ad 13)) rfl dX7_falls_27 ?_
    refine j_aload_n X 1 dX7_falls_30 rfl rfl ?_
    refine j_get X 0 (C := RX7) (T := TX7) (N := 14) rfl rfl 12 (by decide) mi_X7_falls_X7 RX7 mm_X7_falls_38 (fun x q => q) (v := .ref (ad 9)) rfl dX7_falls_31 ?_
    refine p_callVU X hA hZ (rest := []) (m_w cI cZ ad (m_up M 0 0 (nI 0))) [] (fun u => m_w cI cZ ad u) (nil_perm _).symm (fun _ => List.Perm.refl _) [.ref (ad 9)] 13 rfl rfl (m_become (cI := cI) (cZ := cZ) (cT := cT) ad (m_up M 0 0 (nI 0)) (by exact ⟨⟨hM.1.1, hM.1.2.1, hM.1.2.2⟩, hM.2.1, hM.2.2.1, hM.2.2.2⟩)) 1 rfl gX7_falls_X6_become rfl ⟨rfl, rfl⟩ mh_X6_become_V ⟨Nat.le_of_ble_eq_true rfl, Nat.le_of_ble_eq_true rfl⟩ rfl (Nat.le_of_ble_eq_true rfl) ⟨by show 0 + 0 ≤ 0; omega, by show 0 + 0 ≤ 0; omega⟩ dX7_falls_34 (fun M1 h1 => ?_)
    obtain ⟨b1, b2, b3, b4, b5⟩ := h1
    have h3 : M1 0 3 = nI 0 := b1.trans hM.1.2.2
    refine j_iconst (v := nI 1) X (by decide) dX7_falls_37 ?_
    refine j_istore (lo' := [(4, .int (nI 1)), (3, .int (nI ((12 * b) + a))), (0, .ref (ad 0)), (1, .int (nI a)), (2, .int (nI b))]) X dX7_falls_38 (by decide) rfl ?_
    have L40 : ∀ (d j : Nat), j + d = 150 → ∀ M2 : mS, mk5 13 M1 M2 → j_V p l e (headSpec wsX7_falls { frames := 7, cells := 0, slots := 0, locals := 164 }).room s m args below meth c (MQ below (va_Qi (fun r (u : mS) => r = -1 ∧ u 0 0 = nI 0) (j_B G (va_A (m_w cI cZ ad M) s.heap.size) (fun u => m_w cI cZ ad u)) (va_A (m_w cI cZ ad M) s.heap.size)) args s 0 0 (va_A (m_w cI cZ ad M) s.heap.size)) G 5 (va_A (m_w cI cZ ad M) s.heap.size) 0 0 (m_w cI cZ ad M2) 40 [(4, .int (nI (1 + j))), (3, .int (nI (12 * b + a))), (0, .ref (ad 0)), (1, .int (nI a)), (2, .int (nI b))] [] := by
      intro d
      induction d with
      | zero =>
        intro j hj M2 h2
        refine j_iload X 0 dX7_falls_40 rfl ?_
        refine j_sipush (v := nI 150) X (by decide) dX7_falls_42 ?_
        refine j_ncmp_gt X (1 + j) 150 rfl rfl (by omega) (by omega) (tgt := 69) dX7_falls_45 (by decide) (fun c1 => ?_) (fun c1 => ?_)
        · refine j_iconst (v := -1) X (by decide) dX7_falls_69 ?_
          exact j_iret X M2 rfl dX7_falls_70 ⟨rfl, (h2 0 0 (by decide) (by omega)).trans b5⟩
        · exact absurd c1 (by omega)
      | succ d ih =>
        intro j hj M2 h2
        refine j_iload X 0 dX7_falls_40 rfl ?_
        refine j_sipush (v := nI 150) X (by decide) dX7_falls_42 ?_
        refine j_ncmp_gt X (1 + j) 150 rfl rfl (by omega) (by omega) (tgt := 69) dX7_falls_45 (by decide) (fun c1 => ?_) (fun c1 => ?_)
        · exact absurd c1 (by omega)
        · refine j_aload_n X 2 dX7_falls_48 rfl rfl ?_
          refine j_aload_n X 2 dX7_falls_49 rfl rfl ?_
          refine j_get X 0 (C := RX7) (T := TX7) (N := 14) rfl rfl 13 (by decide) mi_X7_falls_X7 RX7 mm_X7_falls_42 (fun x q => q) (v := .ref (ad 13)) rfl dX7_falls_50 ?_
          refine j_iload_n X 1 dX7_falls_53 rfl rfl ?_
          refine p_callVI X hA hZ (rest := []) (m_w cI cZ ad M2) [] (fun u => m_w cI cZ ad u) (nil_perm _).symm (fun _ => List.Perm.refl _) [.ref (ad 13), .int (nI (12 * b + a))] 0 rfl rfl (m_fallsIn (cI := cI) (cZ := cZ) (cT := cT) ad M2 (12 * b + a) ((h2 _ _ (by decide) (by omega)).trans h3) (fun i hi => (h2 _ _ (by decide) (by omega)).trans (b3 i hi))) 2 rfl gX7_falls_X7_fallsIn rfl ⟨rfl, rfl⟩ mh_X7_fallsIn_V ⟨Nat.le_of_ble_eq_true rfl, Nat.le_of_ble_eq_true rfl⟩ rfl (Nat.le_of_ble_eq_true rfl) ⟨by show 0 + 0 ≤ 0; omega, by show 0 + 0 ≤ 0; omega⟩ dX7_falls_54 (fun r9 u9 h9 => ?_)
          obtain ⟨h9a, h9b⟩ := h9
          replace h9a := h9a.symm
          subst h9a
          refine j_if_eq X (tgt := 63) dX7_falls_57 (by decide) (fun c9 => ?_) (fun c9 => ?_)
          · refine j_iinc (v := nI ((1 + j) + 1)) (lo' := [(4, .int (nI ((1 + j) + 1))), (3, .int (nI (12 * b + a))), (0, .ref (ad 0)), (1, .int (nI a)), (2, .int (nI b))]) X 0 dX7_falls_63 rfl ((congrArg (nI (1 + j) + ·) (show Int32.ofInt 1 = nI 1 by decide)).trans (nI_add (1 + j) 1)) (by decide) rfl ?_
            refine j_goto X (tgt := 40) dX7_falls_66 (by decide) ?_
            refine j_lo [0, 1, 2, 3, 4] (lo' := [(4, .int (nI (1 + j + 1))), (3, .int (nI (12 * b + a))), (0, .ref (ad 0)), (1, .int (nI a)), (2, .int (nI b))]) rfl ?_
            exact ih (j + 1) (by omega) u9 (h2.tr h9b)
          · exact absurd c9 (by decide)
    refine j_lo [0, 1, 2, 3, 4] (lo' := [(4, .int (nI (1 + 0))), (3, .int (nI (12 * b + a))), (0, .ref (ad 0)), (1, .int (nI a)), (2, .int (nI b))]) rfl ?_
    exact L40 150 0 (by omega) M1 mk5.rf
  · exact absurd c9 (by decide)
theorem mm_X7_drawn_56 : Cond.fieldLink RX7 56 RX7 (TX7 5).2.1 (TX7 5).2.2.1 ∈ wsX7_drawn := by decide +kernel
theorem mi_X7_drawn_X7 : ∀ w ∈ u_ws RX7 TX7 14, w ∈ wsX7_drawn := by decide +kernel
theorem mm_X7_drawn_38 : Cond.fieldLink RX7 38 RX7 (TX7 12).2.1 (TX7 12).2.2.1 ∈ wsX7_drawn := by decide +kernel
theorem mi_X7_drawn_X6 : ∀ w ∈ u_ws RX6 TX6 5, w ∈ wsX7_drawn := by decide +kernel
set_option maxRecDepth 100000 in
set_option maxHeartbeats 4000000 in
theorem m_drawn (ad : Nat → Nat) (M : mS) (hM : mfr M) (k : Nat) (hk : k < 144) : jI l G K (j_ty cI cZ cT cB) yX7_drawn wsX7_drawn { frames := 1, cells := 0, slots := 0, locals := 21 } (m_w cI cZ ad M) [.ref (ad 0), .int (nI k)] 0 0 (fun r (u : mS) => r = nI 51 ∧ u = M) (fun u => m_w cI cZ ad u) := by
  refine j_ofI (cc := cX7_drawn) (maxL := 3) (by decide) rfl (Nat.le_of_ble_eq_true rfl) ?_
  intro p e s m args below meth c X hnm hZ
  have hA : ∀ q, s.heap.size ≤ q → (va_A (m_w cI cZ ad M) s.heap.size) q := fun _ h => Or.inr h
  refine j_iconst (v := nI 0) X (by decide) dX7_drawn_0 ?_
  refine j_istore_n (lo' := [(2, .int (nI 0)), (0, .ref (ad 0)), (1, .int (nI k))]) X dX7_drawn_1 rfl (by decide) rfl ?_
  refine j_iload_n X 0 dX7_drawn_2 rfl rfl ?_
  refine j_aload_n X 1 dX7_drawn_3 rfl rfl ?_
  refine j_get X 0 (C := RX7) (T := TX7) (N := 14) rfl rfl 5 (by decide) mi_X7_drawn_X7 RX7 mm_X7_drawn_56 (fun x q => q) (v := .int (M 0 3)) rfl dX7_drawn_4 ?_
  refine j_top (y := nI 0) (hM.1.2.2) ?_
  refine j_ncmp_ge X 0 0 rfl rfl (by omega) (by omega) (tgt := 55) dX7_drawn_7 (by decide) (fun c1 => ?_) (fun c1 => ?_)
  · refine j_aload_n X 1 dX7_drawn_55 rfl rfl ?_
    refine j_get X 0 (C := RX7) (T := TX7) (N := 14) rfl rfl 12 (by decide) mi_X7_drawn_X7 RX7 mm_X7_drawn_38 (fun x q => q) (v := .ref (ad 9)) rfl dX7_drawn_56 ?_
    refine j_getN X 9 rfl rfl 2 (by decide) mi_X7_drawn_X6 (hZ.2.2.2.1.1 _ xn_2) (fun x q => q) (v := .ref (ad 10)) rfl dX7_drawn_59 ?_
    refine j_bipush (v := nI 8) X (by decide) dX7_drawn_62 ?_
    refine j_iload_n X 2 dX7_drawn_64 rfl rfl ?_
    refine j_imulN X 8 k dX7_drawn_65 ?_
    refine j_iconst (v := nI 1) X (by decide) dX7_drawn_66 ?_
    refine j_iadd X dX7_drawn_67 ?_
    refine j_top (y := nI ((8 * k) + 1)) (nI_add (8 * k) 1) ?_
    refine j_iald X 10 0 rfl rfl (8 * k + 1) rfl (by omega) (by decide) dX7_drawn_68 ?_
    refine j_top (y := -1) ((hM.2.1 _ (by omega)).trans (fz_1 k)) ?_
    refine j_istore_n (lo' := [(2, .int (-1)), (0, .ref (ad 0)), (1, .int (nI k))]) X dX7_drawn_69 rfl (by decide) rfl ?_
    refine j_iload_n X 0 dX7_drawn_70 rfl rfl ?_
    refine j_if_ne X (tgt := 77) dX7_drawn_71 (by decide) (fun c9 => ?_) (fun c9 => ?_)
    · refine j_iload_n X 0 dX7_drawn_77 rfl rfl ?_
      refine j_if_le X (tgt := 100) dX7_drawn_78 (by decide) (fun c9 => ?_) (fun c9 => ?_)
      · refine j_aload_n X 1 dX7_drawn_100 rfl rfl ?_
        refine j_get X 0 (C := RX7) (T := TX7) (N := 14) rfl rfl 12 (by decide) mi_X7_drawn_X7 RX7 mm_X7_drawn_38 (fun x q => q) (v := .ref (ad 9)) rfl dX7_drawn_101 ?_
        refine j_getN X 9 rfl rfl 2 (by decide) mi_X7_drawn_X6 (hZ.2.2.2.1.1 _ xn_2) (fun x q => q) (v := .ref (ad 10)) rfl dX7_drawn_104 ?_
        refine j_bipush (v := nI 8) X (by decide) dX7_drawn_107 ?_
        refine j_iload_n X 2 dX7_drawn_109 rfl rfl ?_
        refine j_imulN X 8 k dX7_drawn_110 ?_
        refine j_iald X 10 0 rfl rfl (8 * k) rfl (by omega) (by decide) dX7_drawn_111 ?_
        refine j_top (y := nI 3) ((hM.2.1 _ (by omega)).trans (fz_0 k)) ?_
        refine j_if_ne X (tgt := 118) dX7_drawn_112 (by decide) (fun c9 => ?_) (fun c9 => ?_)
        · refine j_aload_n X 1 dX7_drawn_118 rfl rfl ?_
          refine j_get X 0 (C := RX7) (T := TX7) (N := 14) rfl rfl 12 (by decide) mi_X7_drawn_X7 RX7 mm_X7_drawn_38 (fun x q => q) (v := .ref (ad 9)) rfl dX7_drawn_119 ?_
          refine j_iload_n X 2 dX7_drawn_122 rfl rfl ?_
          refine p_callVI X hA hZ (rest := []) (m_w cI cZ ad M) [] (fun u => m_w cI cZ ad u) (nil_perm _).symm (fun _ => List.Perm.refl _) [.int (nI k)] 9 rfl rfl (m_isT9 (cI := cI) (cZ := cZ) (cT := cT) ad M k (by omega) ((hM.2.1 _ (by omega)).trans (fz_n k 2 (by decide) (by decide)))) 1 rfl gX7_drawn_X6_isTunnel rfl ⟨rfl, rfl⟩ mh_X6_isTunnel_V ⟨Nat.le_of_ble_eq_true rfl, Nat.le_of_ble_eq_true rfl⟩ rfl (Nat.le_of_ble_eq_true rfl) ⟨by show 0 + 0 ≤ 0; omega, by show 0 + 0 ≤ 0; omega⟩ dX7_drawn_123 (fun r9 u9 h9 => ?_)
          obtain ⟨h9a, h9b⟩ := h9
          replace h9a := h9a.symm
          subst h9a
          replace h9b := h9b.symm
          subst h9b
          refine j_if_eq X (tgt := 154) dX7_drawn_126 (by decide) (fun c9 => ?_) (fun c9 => ?_)
          · refine j_bipush (v := nI 48) X (by decide) dX7_drawn_154 ?_
            refine j_aload_n X 1 dX7_drawn_156 rfl rfl ?_
            refine j_get X 0 (C := RX7) (T := TX7) (N := 14) rfl rfl 12 (by decide) mi_X7_drawn_X7 RX7 mm_X7_drawn_38 (fun x q => q) (v := .ref (ad 9)) rfl dX7_drawn_157 ?_
            refine j_getN X 9 rfl rfl 2 (by decide) mi_X7_drawn_X6 (hZ.2.2.2.1.1 _ xn_2) (fun x q => q) (v := .ref (ad 10)) rfl dX7_drawn_160 ?_
            refine j_bipush (v := nI 8) X (by decide) dX7_drawn_163 ?_
            refine j_iload_n X 2 dX7_drawn_165 rfl rfl ?_
            refine j_imulN X 8 k dX7_drawn_166 ?_
            refine j_iald X 10 0 rfl rfl (8 * k) rfl (by omega) (by decide) dX7_drawn_167 ?_
            refine j_top (y := nI 3) ((hM.2.1 _ (by omega)).trans (fz_0 k)) ?_
            refine j_iadd X dX7_drawn_168 ?_
            refine j_top (y := nI (48 + 3)) (nI_add 48 3) ?_
            exact j_iret X M rfl dX7_drawn_169 ⟨rfl, rfl⟩
          · exact absurd c9 (by decide)
        · exact absurd c9 (by decide)
      · exact absurd c9 (by decide)
    · exact absurd c9 (by decide)
  · exact absurd c1 (by omega)
theorem mm_X7_draw_48 : Cond.fieldLink RX7 48 RX7 (TX7 0).2.1 (TX7 0).2.2.1 ∈ wsX7_draw := by decide +kernel
theorem mi_X7_draw_X7 : ∀ w ∈ u_ws RX7 TX7 14, w ∈ wsX7_draw := by decide +kernel
theorem mm_X7_draw_208 : Cond.fieldLink RX7 208 RX7 (TX7 4).2.1 (TX7 4).2.2.1 ∈ wsX7_draw := by decide +kernel
theorem mm_X7_draw_13 : Cond.fieldLink RX7 13 RX7 (TX7 3).2.1 (TX7 3).2.2.1 ∈ wsX7_draw := by decide +kernel
theorem mh_X7_drawn_V : yX7_drawn.cls = RX7 ∧ yX7_drawn.cls ≠ "java/lang/invoke/MethodHandle" ∧ yX7_drawn.cls ≠ "java/lang/invoke/VarHandle" ∧ (parseMethodDescriptor yX7_drawn.desc).map (fun d => d.parameters.length) = some 1 := by decide +kernel
set_option maxRecDepth 100000 in
set_option maxHeartbeats 4000000 in
theorem m_draw (ad : Nat → Nat) (M : mS) (hM : mfr M) : jI l G K (j_ty cI cZ cT cB) yX7_draw wsX7_draw { frames := 2, cells := 0, slots := 0, locals := 43 } (m_w cI cZ ad M) [.ref (ad 0)] 0 0 (fun r (u : mS) => r = nI 156 ∧ u 0 0 = nI 0) (fun u => m_w cI cZ ad u) := by
  refine j_ofI (cc := cX7_draw) (maxL := 2) (by decide) rfl (Nat.le_of_ble_eq_true rfl) ?_
  intro p e s m args below meth c X hnm hZ
  have hA : ∀ q, s.heap.size ≤ q → (va_A (m_w cI cZ ad M) s.heap.size) q := fun _ h => Or.inr h
  refine j_aload_n X 0 dX7_draw_0 rfl rfl ?_
  refine j_iconst (v := nI 0) X (by decide) dX7_draw_1 ?_
  refine j_put X 0 (C := RX7) (T := TX7) (N := 14) rfl rfl 0 (by decide) mi_X7_draw_X7 RX7 mm_X7_draw_48 (fun x q => q) tyX7_ok nmX7 rfl (ty := .int) (v := .int (nI 0)) (by decide +kernel) rfl rfl (Nat.le_of_ble_eq_true rfl) dX7_draw_2 ?_
  refine j_weq (ws' := (m_w cI cZ ad (m_up M 0 0 (nI 0)))) rfl ?_
  refine j_iconst (v := nI 0) X (by decide) dX7_draw_5 ?_
  refine j_istore_n (lo' := [(1, .int (nI 0)), (0, .ref (ad 0))]) X dX7_draw_6 rfl (by decide) rfl ?_
  have L7 : ∀ (d j : Nat), j + d = 156 → ∀ M1 : mS, mfr M1 → M1 0 0 = nI 0 → j_V p l e (headSpec wsX7_draw { frames := 2, cells := 0, slots := 0, locals := 43 }).room s m args below meth c (MQ below (va_Qi (fun r (u : mS) => r = nI 156 ∧ u 0 0 = nI 0) (j_B G (va_A (m_w cI cZ ad M) s.heap.size) (fun u => m_w cI cZ ad u)) (va_A (m_w cI cZ ad M) s.heap.size)) args s 0 0 (va_A (m_w cI cZ ad M) s.heap.size)) G 2 (va_A (m_w cI cZ ad M) s.heap.size) 0 0 (m_w cI cZ ad M1) 7 [(1, .int (nI j)), (0, .ref (ad 0))] [] := by
    intro d
    induction d with
    | zero =>
      intro j hj M1 hM1 h0
      refine j_iload_n X 0 dX7_draw_7 rfl rfl ?_
      refine j_sipush (v := nI 156) X (by decide) dX7_draw_8 ?_
      refine j_ncmp_ge X j 156 rfl rfl (by omega) (by omega) (tgt := 56) dX7_draw_11 (by decide) (fun c1 => ?_) (fun c1 => ?_)
      · refine j_aload_n X 1 dX7_draw_56 rfl rfl ?_
        refine j_sipush (v := nI 156) X (by decide) dX7_draw_57 ?_
        refine j_put X 0 (C := RX7) (T := TX7) (N := 14) rfl rfl 4 (by decide) mi_X7_draw_X7 RX7 mm_X7_draw_208 (fun x q => q) tyX7_ok nmX7 rfl (ty := .int) (v := .int (nI 156)) (by decide +kernel) rfl rfl (Nat.le_of_ble_eq_true rfl) dX7_draw_60 ?_
        refine j_weq (ws' := (m_w cI cZ ad (m_up M1 0 2 (nI 156)))) rfl ?_
        refine j_sipush (v := nI 156) X (by decide) dX7_draw_63 ?_
        exact j_iret X (m_up M1 0 2 (nI 156)) rfl dX7_draw_66 ⟨rfl, h0⟩
      · exact absurd c1 (by omega)
    | succ d ih =>
      intro j hj M1 hM1 h0
      refine j_iload_n X 0 dX7_draw_7 rfl rfl ?_
      refine j_sipush (v := nI 156) X (by decide) dX7_draw_8 ?_
      refine j_ncmp_ge X j 156 rfl rfl (by omega) (by omega) (tgt := 56) dX7_draw_11 (by decide) (fun c1 => ?_) (fun c1 => ?_)
      · exact absurd c1 (by omega)
      · refine j_aload_n X 1 dX7_draw_14 rfl rfl ?_
        refine j_get X 0 (C := RX7) (T := TX7) (N := 14) rfl rfl 3 (by decide) mi_X7_draw_X7 RX7 mm_X7_draw_13 (fun x q => q) (v := .ref (ad 2)) rfl dX7_draw_15 ?_
        refine j_iload_n X 0 dX7_draw_18 rfl rfl ?_
        refine j_iload_n X 0 dX7_draw_19 rfl rfl ?_
        refine j_bipush (v := nI 13) X (by decide) dX7_draw_20 ?_
        refine j_irem X (by decide) dX7_draw_22 ?_
        refine j_top (y := nI (j % 13)) (pk_rem (a := j) (d := 13) (by omega) (by decide) (by decide)) ?_
        refine j_bipush (v := nI 12) X (by decide) dX7_draw_23 ?_
        refine j_ncmp_ne X (j % 13) 12 rfl rfl (by omega) (by omega) (tgt := 33) dX7_draw_25 (by decide) (fun c2 => ?_) (fun c2 => ?_)
        · refine j_aload_n X 1 dX7_draw_33 rfl rfl ?_
          refine j_bipush (v := nI 12) X (by decide) dX7_draw_34 ?_
          refine j_iload_n X 0 dX7_draw_36 rfl rfl ?_
          refine j_bipush (v := nI 13) X (by decide) dX7_draw_37 ?_
          refine j_idiv X (by decide) dX7_draw_39 ?_
          refine j_top (y := nI (j / 13)) (pk_div (a := j) (d := 13) (by omega) (by decide) (by decide)) ?_
          refine j_imulN X 12 (j / 13) dX7_draw_40 ?_
          refine j_iload_n X 0 dX7_draw_41 rfl rfl ?_
          refine j_bipush (v := nI 13) X (by decide) dX7_draw_42 ?_
          refine j_irem X (by decide) dX7_draw_44 ?_
          refine j_top (y := nI (j % 13)) (pk_rem (a := j) (d := 13) (by omega) (by decide) (by decide)) ?_
          refine j_iadd X dX7_draw_45 ?_
          refine j_top (y := nI ((12 * (j / 13)) + (j % 13))) (nI_add (12 * (j / 13)) (j % 13)) ?_
          refine p_callVI X hA hZ (rest := [.int (nI j), .ref (ad 2)]) (m_w cI cZ ad M1) [] (fun u => m_w cI cZ ad u) (nil_perm _).symm (fun _ => List.Perm.refl _) [.int (nI ((12 * (j / 13)) + (j % 13)))] 0 rfl rfl (m_drawn (cI := cI) (cZ := cZ) (cT := cT) ad M1 hM1 ((12 * (j / 13)) + (j % 13)) (by omega)) 1 rfl gX7_draw_X7_drawn rfl ⟨rfl, rfl⟩ mh_X7_drawn_V ⟨Nat.le_of_ble_eq_true rfl, Nat.le_of_ble_eq_true rfl⟩ rfl (Nat.le_of_ble_eq_true rfl) ⟨by show 0 + 0 ≤ 0; omega, by show 0 + 0 ≤ 0; omega⟩ dX7_draw_46 (fun r9 u9 h9 => ?_)
          obtain ⟨h9a, h9b⟩ := h9
          replace h9a := h9a.symm
          subst h9a
          replace h9b := h9b.symm
          subst h9b
          refine j_iast X 2 0 rfl rfl j rfl (by omega) (by decide) dX7_draw_49 ?_
          refine j_weq (ws' := (m_w cI cZ ad (m_up M1 2 j (nI 51)))) rfl ?_
          refine j_iinc (v := nI (j + 1)) (lo' := [(1, .int (nI (j + 1))), (0, .ref (ad 0))]) X 0 dX7_draw_50 rfl ((congrArg (nI j + ·) (show Int32.ofInt 1 = nI 1 by decide)).trans (nI_add j 1)) (by decide) rfl ?_
          refine j_goto X (tgt := 7) dX7_draw_53 (by decide) ?_
          refine j_lo [0, 1] (lo' := [(1, .int (nI (j + 1))), (0, .ref (ad 0))]) rfl ?_
          exact ih (j + 1) (by omega) (m_up M1 2 j (nI 51)) ⟨⟨hM1.1.1, hM1.1.2.1, hM1.1.2.2⟩, hM1.2.1, hM1.2.2.1, hM1.2.2.2⟩ h0
        · refine j_bipush (v := nI 10) X (by decide) dX7_draw_28 ?_
          refine j_goto X (tgt := 49) dX7_draw_30 (by decide) ?_
          refine j_iast X 2 0 rfl rfl j rfl (by omega) (by decide) dX7_draw_49 ?_
          refine j_weq (ws' := (m_w cI cZ ad (m_up M1 2 j (nI 10)))) rfl ?_
          refine j_iinc (v := nI (j + 1)) (lo' := [(1, .int (nI (j + 1))), (0, .ref (ad 0))]) X 0 dX7_draw_50 rfl ((congrArg (nI j + ·) (show Int32.ofInt 1 = nI 1 by decide)).trans (nI_add j 1)) (by decide) rfl ?_
          refine j_goto X (tgt := 7) dX7_draw_53 (by decide) ?_
          refine j_lo [0, 1] (lo' := [(1, .int (nI (j + 1))), (0, .ref (ad 0))]) rfl ?_
          exact ih (j + 1) (by omega) (m_up M1 2 j (nI 10)) ⟨⟨hM1.1.1, hM1.1.2.1, hM1.1.2.2⟩, hM1.2.1, hM1.2.2.1, hM1.2.2.2⟩ h0
  refine j_lo [0, 1] (lo' := [(1, .int (nI 0)), (0, .ref (ad 0))]) rfl ?_
  exact L7 156 0 (by omega) (m_up M 0 0 (nI 0)) (by exact ⟨⟨hM.1.1, hM.1.2.1, hM.1.2.2⟩, hM.2.1, hM.2.2.1, hM.2.2.2⟩) rfl
theorem mm_X7_share_48 : Cond.fieldLink RX7 48 RX7 (TX7 0).2.1 (TX7 0).2.2.1 ∈ wsX7_share := by decide +kernel
theorem mi_X7_share_X7 : ∀ w ∈ u_ws RX7 TX7 14, w ∈ wsX7_share := by decide +kernel
set_option maxRecDepth 100000 in
set_option maxHeartbeats 4000000 in
theorem m_share (ad : Nat → Nat) (M : mS) (hM : mfr M) : jD l G K (j_ty cI cZ cT cB) yX7_share wsX7_share { frames := 3, cells := 2, slots := 24, locals := 71 } (m_w cI cZ ad M) [.ref (ad 0)] 2 24 (fun r (u : mS) => r = FP.dconst0 ∧ u 0 0 = nI 0) (fun u => m_w cI cZ ad u) := by
  refine j_ofD (cc := cX7_share) (maxL := 3) (by decide) rfl (Nat.le_of_ble_eq_true rfl) ?_
  intro p e s m args below meth c X hnm hZ
  have hA : ∀ q, s.heap.size ≤ q → (va_A (m_w cI cZ ad M) s.heap.size) q := fun _ h => Or.inr h
  refine j_aload_n X 0 dX7_share_0 rfl rfl ?_
  refine j_iconst (v := nI 0) X (by decide) dX7_share_1 ?_
  refine j_put X 0 (C := RX7) (T := TX7) (N := 14) rfl rfl 0 (by decide) mi_X7_share_X7 RX7 mm_X7_share_48 (fun x q => q) tyX7_ok nmX7 rfl (ty := .int) (v := .int (nI 0)) (by decide +kernel) rfl rfl (Nat.le_of_ble_eq_true rfl) dX7_share_2 ?_
  refine j_weq (ws' := (m_w cI cZ ad (m_up M 0 0 (nI 0)))) rfl ?_
  refine j_aload_n X 0 dX7_share_5 rfl rfl ?_
  refine j_iconst (v := nI 5) X (by decide) dX7_share_6 ?_
  refine p_callVI X hA hZ (rest := []) (m_w cI cZ ad (m_up M 0 0 (nI 0))) [] (fun u => m_w cI cZ ad u) (nil_perm _).symm (fun _ => List.Perm.refl _) [.int (nI 5)] 0 rfl rfl (m_counted (cI := cI) (cZ := cZ) (cT := cT) ad (m_up M 0 0 (nI 0)) (by exact ⟨⟨hM.1.1, hM.1.2.1, hM.1.2.2⟩, hM.2.1, hM.2.2.1, hM.2.2.2⟩) 5 (by omega)) 1 rfl gX7_share_X7_counted rfl ⟨rfl, rfl⟩ mh_X7_counted_V ⟨Nat.le_of_ble_eq_true rfl, Nat.le_of_ble_eq_true rfl⟩ rfl (Nat.le_of_ble_eq_true rfl) ⟨by show 0 + 1 ≤ 2; omega, by show 0 + 12 ≤ 24; omega⟩ dX7_share_7 (fun r9 u9 h9 => ?_)
  obtain ⟨h9a, h9b⟩ := h9
  replace h9a := h9a.symm
  subst h9a
  replace h9b := h9b.symm
  subst h9b
  refine j_istore_n (lo' := [(1, .int 0), (0, .ref (ad 0))]) X dX7_share_10 rfl (by decide) rfl ?_
  refine j_aload_n X 1 dX7_share_11 rfl rfl ?_
  refine j_bipush (v := nI 6) X (by decide) dX7_share_12 ?_
  refine p_callVI X hA hZ (rest := []) (m_w cI cZ ad (m_up M 0 0 (nI 0))) [] (fun u => m_w cI cZ ad u) (nil_perm _).symm (fun _ => List.Perm.refl _) [.int (nI 6)] 0 rfl rfl (m_counted (cI := cI) (cZ := cZ) (cT := cT) ad (m_up M 0 0 (nI 0)) (by exact ⟨⟨hM.1.1, hM.1.2.1, hM.1.2.2⟩, hM.2.1, hM.2.2.1, hM.2.2.2⟩) 6 (by omega)) 1 rfl gX7_share_X7_counted rfl ⟨rfl, rfl⟩ mh_X7_counted_V ⟨Nat.le_of_ble_eq_true rfl, Nat.le_of_ble_eq_true rfl⟩ rfl (Nat.le_of_ble_eq_true rfl) ⟨by show 0 + 1 + 1 ≤ 2; omega, by show 0 + 12 + 12 ≤ 24; omega⟩ dX7_share_14 (fun r9 u9 h9 => ?_)
  obtain ⟨h9a, h9b⟩ := h9
  replace h9a := h9a.symm
  subst h9a
  replace h9b := h9b.symm
  subst h9b
  refine j_istore_n (lo' := [(2, .int 0), (1, .int 0), (0, .ref (ad 0))]) X dX7_share_17 rfl (by decide) rfl ?_
  refine j_iload_n X 1 dX7_share_18 rfl rfl ?_
  refine j_iload_n X 0 dX7_share_19 rfl rfl ?_
  refine j_iadd X dX7_share_20 ?_
  refine j_top (y := nI (0 + 0)) (nI_add 0 0) ?_
  refine j_nif_ne X (0 + 0) rfl (by omega) (tgt := 28) dX7_share_21 (by decide) (fun c1 => ?_) (fun c1 => ?_)
  · exact absurd c1 (by decide)
  · refine j_dconst0 X dX7_share_24 ?_
    refine j_goto X (tgt := 35) dX7_share_25 (by decide) ?_
    exact j_dret X (m_up M 0 0 (nI 0)) rfl dX7_share_35 ⟨rfl, rfl⟩
def md1 : Nat → Int64
  | 0 => 709
  | k + 1 => md1 k * 31 + (0 : Int32).toInt64
def md2 : Nat → Int64
  | 0 => md1 12
  | k + 1 => md2 k * 31 + (fz k).toInt64
theorem mm_X7_digest_48 : Cond.fieldLink RX7 48 RX7 (TX7 0).2.1 (TX7 0).2.2.1 ∈ wsX7_digest := by decide +kernel
theorem mi_X7_digest_X7 : ∀ w ∈ u_ws RX7 TX7 14, w ∈ wsX7_digest := by decide +kernel
theorem mm_X7_digest_k227 : Jvm.Cond.constantLong RX7 227 (709) ∈ wsX7_digest := by decide +kernel
theorem mm_X7_digest_56 : Cond.fieldLink RX7 56 RX7 (TX7 5).2.1 (TX7 5).2.2.1 ∈ wsX7_digest := by decide +kernel
theorem mm_X7_digest_208 : Cond.fieldLink RX7 208 RX7 (TX7 4).2.1 (TX7 4).2.2.1 ∈ wsX7_digest := by decide +kernel
theorem mm_X7_digest_k229 : Jvm.Cond.constantLong RX7 229 (31) ∈ wsX7_digest := by decide +kernel
theorem mm_X7_digest_38 : Cond.fieldLink RX7 38 RX7 (TX7 12).2.1 (TX7 12).2.2.1 ∈ wsX7_digest := by decide +kernel
theorem mi_X7_digest_X6 : ∀ w ∈ u_ws RX6 TX6 5, w ∈ wsX7_digest := by decide +kernel
set_option maxRecDepth 100000 in
set_option maxHeartbeats 4000000 in
theorem m_digest (ad : Nat → Nat) (M : mS) (hM : mfr M) : jL l G K (j_ty cI cZ cT cB) yX7_digest wsX7_digest { frames := 3, cells := 12, slots := 144, locals := 71 } (m_w cI cZ ad M) [.ref (ad 0)] 12 144 (fun r (u : mS) => r = md2 1152 ∧ u 0 0 = nI 0) (fun u => m_w cI cZ ad u) := by
  refine j_ofL (cc := cX7_digest) (maxL := 5) (by decide) rfl (Nat.le_of_ble_eq_true rfl) ?_
  intro p e s m args below meth c X hnm hZ
  have hA : ∀ q, s.heap.size ≤ q → (va_A (m_w cI cZ ad M) s.heap.size) q := fun _ h => Or.inr h
  refine j_aload_n X 0 dX7_digest_0 rfl rfl ?_
  refine j_iconst (v := nI 0) X (by decide) dX7_digest_1 ?_
  refine j_put X 0 (C := RX7) (T := TX7) (N := 14) rfl rfl 0 (by decide) mi_X7_digest_X7 RX7 mm_X7_digest_48 (fun x q => q) tyX7_ok nmX7 rfl (ty := .int) (v := .int (nI 0)) (by decide +kernel) rfl rfl (Nat.le_of_ble_eq_true rfl) dX7_digest_2 ?_
  refine j_weq (ws' := (m_w cI cZ ad (m_up M 0 0 (nI 0)))) rfl ?_
  refine j_ldc2 X mm_X7_digest_k227 dX7_digest_5 ?_
  refine j_lstore_n (lo' := [(1, .long (709)), (0, .ref (ad 0))]) X dX7_digest_8 rfl (by decide) rfl ?_
  refine j_iconst (v := nI 0) X (by decide) dX7_digest_9 ?_
  refine j_istore_n (lo' := [(3, .int (nI 0)), (1, .long (709)), (0, .ref (ad 0))]) X dX7_digest_10 rfl (by decide) rfl ?_
  have L11 : ∀ (d j : Nat), j + d = 12 → j_V p l e (headSpec wsX7_digest { frames := 3, cells := 12, slots := 144, locals := 71 }).room s m args below meth c (MQ below (va_Ql (fun r (u : mS) => r = md2 1152 ∧ u 0 0 = nI 0) (j_B G (va_A (m_w cI cZ ad M) s.heap.size) (fun u => m_w cI cZ ad u)) (va_A (m_w cI cZ ad M) s.heap.size)) args s 12 144 (va_A (m_w cI cZ ad M) s.heap.size)) G 5 (va_A (m_w cI cZ ad M) s.heap.size) j (12 * j) (m_w cI cZ ad (m_up M 0 0 (nI 0))) 11 [(3, .int (nI j)), (1, .long (md1 j)), (0, .ref (ad 0))] [] := by
    intro d
    induction d with
    | zero =>
      intro j hj
      refine j_iload_n X 0 dX7_digest_11 rfl rfl ?_
      refine j_bipush (v := nI 12) X (by decide) dX7_digest_12 ?_
      refine j_ncmp_ge X j 12 rfl rfl (by omega) (by omega) (tgt := 36) dX7_digest_14 (by decide) (fun c0 => ?_) (fun c0 => ?_)
      · have e12 : j = 12 := by omega
        subst e12
        refine j_wid (k1 := 12) (q1 := 144) (by decide) (by decide) ?_
        refine j_iconst (v := nI 0) X (by decide) dX7_digest_36 ?_
        refine j_istore_n (lo' := [(3, .int (nI 0)), (1, .long (md1 12)), (0, .ref (ad 0))]) X dX7_digest_37 rfl (by decide) rfl ?_
        have L38 : ∀ (d j : Nat), j + d = 1152 → j_V p l e (headSpec wsX7_digest { frames := 3, cells := 12, slots := 144, locals := 71 }).room s m args below meth c (MQ below (va_Ql (fun r (u : mS) => r = md2 1152 ∧ u 0 0 = nI 0) (j_B G (va_A (m_w cI cZ ad M) s.heap.size) (fun u => m_w cI cZ ad u)) (va_A (m_w cI cZ ad M) s.heap.size)) args s 12 144 (va_A (m_w cI cZ ad M) s.heap.size)) G 5 (va_A (m_w cI cZ ad M) s.heap.size) 12 144 (m_w cI cZ ad (m_up M 0 0 (nI 0))) 38 [(3, .int (nI j)), (1, .long (md2 j)), (0, .ref (ad 0))] [] := by
          intro d
          induction d with
          | zero =>
            intro j hj
            refine j_iload_n X 0 dX7_digest_38 rfl rfl ?_
            refine j_sipush (v := nI 1152) X (by decide) dX7_digest_39 ?_
            refine j_ncmp_ge X j 1152 rfl rfl (by omega) (by omega) (tgt := 68) dX7_digest_42 (by decide) (fun c1 => ?_) (fun c1 => ?_)
            · have e12 : j = 1152 := by omega
              subst e12
              refine j_iconst (v := nI 0) X (by decide) dX7_digest_68 ?_
              refine j_istore_n (lo' := [(3, .int (nI 0)), (1, .long (md2 1152)), (0, .ref (ad 0))]) X dX7_digest_69 rfl (by decide) rfl ?_
              refine j_iload_n X 0 dX7_digest_70 rfl rfl ?_
              refine j_aload_n X 2 dX7_digest_71 rfl rfl ?_
              refine j_get X 0 (C := RX7) (T := TX7) (N := 14) rfl rfl 5 (by decide) mi_X7_digest_X7 RX7 mm_X7_digest_56 (fun x q => q) (v := .int ((m_up M 0 0 (nI 0)) 0 3)) rfl dX7_digest_72 ?_
              refine j_top (y := nI 0) (hM.1.2.2) ?_
              refine j_ncmp_ge X 0 0 rfl rfl (by omega) (by omega) (tgt := 155) dX7_digest_75 (by decide) (fun c7 => ?_) (fun c7 => ?_)
              · refine j_iconst (v := nI 0) X (by decide) dX7_digest_155 ?_
                refine j_istore_n (lo' := [(3, .int (nI 0)), (1, .long (md2 1152)), (0, .ref (ad 0))]) X dX7_digest_156 rfl (by decide) rfl ?_
                refine j_iload_n X 0 dX7_digest_157 rfl rfl ?_
                refine j_aload_n X 2 dX7_digest_158 rfl rfl ?_
                refine j_get X 0 (C := RX7) (T := TX7) (N := 14) rfl rfl 4 (by decide) mi_X7_digest_X7 RX7 mm_X7_digest_208 (fun x q => q) (v := .int ((m_up M 0 0 (nI 0)) 0 2)) rfl dX7_digest_159 ?_
                refine j_top (y := nI 0) (hM.1.2.1) ?_
                refine j_ncmp_ge X 0 0 rfl rfl (by omega) (by omega) (tgt := 185) dX7_digest_162 (by decide) (fun c8 => ?_) (fun c8 => ?_)
                · refine j_lload_n X 1 dX7_digest_185 rfl rfl ?_
                  exact j_lret X (m_up M 0 0 (nI 0)) rfl dX7_digest_186 ⟨rfl, rfl⟩
                · exact absurd c8 (by omega)
              · exact absurd c7 (by omega)
            · exact absurd c1 (by omega)
          | succ d ih =>
            intro j hj
            refine j_iload_n X 0 dX7_digest_38 rfl rfl ?_
            refine j_sipush (v := nI 1152) X (by decide) dX7_digest_39 ?_
            refine j_ncmp_ge X j 1152 rfl rfl (by omega) (by omega) (tgt := 68) dX7_digest_42 (by decide) (fun c1 => ?_) (fun c1 => ?_)
            · exact absurd c1 (by omega)
            · refine j_lload_n X 1 dX7_digest_45 rfl rfl ?_
              refine j_ldc2 X mm_X7_digest_k229 dX7_digest_46 ?_
              refine j_lmul X dX7_digest_49 ?_
              refine j_aload_n X 2 dX7_digest_50 rfl rfl ?_
              refine j_get X 0 (C := RX7) (T := TX7) (N := 14) rfl rfl 12 (by decide) mi_X7_digest_X7 RX7 mm_X7_digest_38 (fun x q => q) (v := .ref (ad 9)) rfl dX7_digest_51 ?_
              refine j_getN X 9 rfl rfl 2 (by decide) mi_X7_digest_X6 (hZ.2.2.2.1.1 _ xn_2) (fun x q => q) (v := .ref (ad 10)) rfl dX7_digest_54 ?_
              refine j_iload_n X 0 dX7_digest_57 rfl rfl ?_
              refine j_iald X 10 0 rfl rfl j rfl (by omega) (by decide) dX7_digest_58 ?_
              refine j_top (y := fz j) (hM.2.1 j (by omega)) ?_
              refine j_i2l X dX7_digest_59 ?_
              refine j_ladd X dX7_digest_60 ?_
              refine j_lstore_n (lo' := [(1, .long (((md2 j) * 31) + ((fz j).toInt64))), (3, .int (nI j)), (0, .ref (ad 0))]) X dX7_digest_61 rfl (by decide) rfl ?_
              refine j_iinc (v := nI (j + 1)) (lo' := [(3, .int (nI (j + 1))), (1, .long (((md2 j) * 31) + ((fz j).toInt64))), (0, .ref (ad 0))]) X 1 dX7_digest_62 rfl ((congrArg (nI j + ·) (show Int32.ofInt 1 = nI 1 by decide)).trans (nI_add j 1)) (by decide) rfl ?_
              refine j_goto X (tgt := 38) dX7_digest_65 (by decide) ?_
              refine j_lo [0, 1, 2] (lo' := [(3, .int (nI (j + 1))), (1, .long (md2 (j + 1))), (0, .ref (ad 0))]) rfl ?_
              exact ih (j + 1) (by omega)
        refine j_lo [0, 1, 2] (lo' := [(3, .int (nI 0)), (1, .long (md2 0)), (0, .ref (ad 0))]) rfl ?_
        exact L38 1152 0 (by omega)
      · exact absurd c0 (by omega)
    | succ d ih =>
      intro j hj
      refine j_iload_n X 0 dX7_digest_11 rfl rfl ?_
      refine j_bipush (v := nI 12) X (by decide) dX7_digest_12 ?_
      refine j_ncmp_ge X j 12 rfl rfl (by omega) (by omega) (tgt := 36) dX7_digest_14 (by decide) (fun c0 => ?_) (fun c0 => ?_)
      · exact absurd c0 (by omega)
      · refine j_lload_n X 1 dX7_digest_17 rfl rfl ?_
        refine j_ldc2 X mm_X7_digest_k229 dX7_digest_18 ?_
        refine j_lmul X dX7_digest_21 ?_
        refine j_aload_n X 2 dX7_digest_22 rfl rfl ?_
        refine j_iload_n X 0 dX7_digest_23 rfl rfl ?_
        refine p_callVI X hA hZ (rest := [.long ((md1 j) * 31)]) (m_w cI cZ ad (m_up M 0 0 (nI 0))) [] (fun u => m_w cI cZ ad u) (nil_perm _).symm (fun _ => List.Perm.refl _) [.int (nI j)] 0 rfl rfl (m_counted (cI := cI) (cZ := cZ) (cT := cT) ad (m_up M 0 0 (nI 0)) (by exact ⟨⟨hM.1.1, hM.1.2.1, hM.1.2.2⟩, hM.2.1, hM.2.2.1, hM.2.2.2⟩) j (by omega)) 1 rfl gX7_digest_X7_counted rfl ⟨rfl, rfl⟩ mh_X7_counted_V ⟨Nat.le_of_ble_eq_true rfl, Nat.le_of_ble_eq_true rfl⟩ rfl (Nat.le_of_ble_eq_true rfl) ⟨by show j + 1 ≤ 12; omega, by show 12 * j + 12 ≤ 144; omega⟩ dX7_digest_24 (fun r9 u9 h9 => ?_)
        obtain ⟨h9a, h9b⟩ := h9
        replace h9a := h9a.symm
        subst h9a
        replace h9b := h9b.symm
        subst h9b
        refine j_i2l X dX7_digest_27 ?_
        refine j_ladd X dX7_digest_28 ?_
        refine j_lstore_n (lo' := [(1, .long (((md1 j) * 31) + ((0 : Int32).toInt64))), (3, .int (nI j)), (0, .ref (ad 0))]) X dX7_digest_29 rfl (by decide) rfl ?_
        refine j_iinc (v := nI (j + 1)) (lo' := [(3, .int (nI (j + 1))), (1, .long (((md1 j) * 31) + ((0 : Int32).toInt64))), (0, .ref (ad 0))]) X 1 dX7_digest_30 rfl ((congrArg (nI j + ·) (show Int32.ofInt 1 = nI 1 by decide)).trans (nI_add j 1)) (by decide) rfl ?_
        refine j_goto X (tgt := 11) dX7_digest_33 (by decide) ?_
        refine j_lo [0, 1, 2] (lo' := [(3, .int (nI (j + 1))), (1, .long (md1 (j + 1))), (0, .ref (ad 0))]) rfl ?_
        exact ih (j + 1) (by omega)
  refine j_lo [0, 1, 2] (lo' := [(3, .int (nI 0)), (1, .long (md1 0)), (0, .ref (ad 0))]) rfl ?_
  exact L11 12 0 (by omega)

end ZMN
