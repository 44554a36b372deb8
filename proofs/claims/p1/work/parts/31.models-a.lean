section ZMN
variable {l : Launch} {G : va_G} {K : Nat × Nat × (Nat → Int32)} {cI cZ cT cB : ClassId}
abbrev q_ar (a : Nat) (cI : ClassId) (n : Nat) (f : Nat → Int32) : Nat × va_E := (a, .inl (cI, n, .inl f))
theorem mm_X7_thrown_48 : Cond.fieldLink RX7 48 RX7 (TX7 0).2.1 (TX7 0).2.2.1 ∈ wsX7_thrown := by decide +kernel
theorem mi_X7_thrown_X7 : ∀ w ∈ u_ws RX7 TX7 14, w ∈ wsX7_thrown := by decide +kernel
set_option maxRecDepth 100000 in
set_option maxHeartbeats 4000000 in
theorem m_thrown (ad : Nat → Nat) (M : mS) : jI l G K (j_ty cI cZ cT cB) yX7_thrown wsX7_thrown { frames := 0, cells := 0, slots := 0, locals := 0 } (m_w cI cZ ad M) [.ref (ad 0)] 0 0 (fun r (u : mS) => r = M 0 0 ∧ u = M) (fun u => m_w cI cZ ad u) := by
  refine j_ofI (cc := cX7_thrown) (maxL := 1) (by decide) rfl (Nat.le_of_ble_eq_true rfl) ?_
  intro p e s m args below meth c X hnm hZ
  have hA : ∀ q, s.heap.size ≤ q → (va_A (m_w cI cZ ad M) s.heap.size) q := fun _ h => Or.inr h
  refine j_aload_n X 0 dX7_thrown_0 rfl rfl ?_
  refine j_get X 0 (C := RX7) (T := TX7) (N := 14) rfl rfl 0 (by decide) mi_X7_thrown_X7 RX7 mm_X7_thrown_48 (fun x q => q) (v := .int (M 0 0)) rfl dX7_thrown_1 ?_
  exact j_iret X M rfl dX7_thrown_4 ⟨rfl, rfl⟩
theorem mm_X7_no_48 : Cond.fieldLink RX7 48 RX7 (TX7 0).2.1 (TX7 0).2.2.1 ∈ wsX7_no := by decide +kernel
theorem mi_X7_no_X7 : ∀ w ∈ u_ws RX7 TX7 14, w ∈ wsX7_no := by decide +kernel
set_option maxRecDepth 100000 in
set_option maxHeartbeats 4000000 in
theorem m_no (ad : Nat → Nat) (M : mS) (n : Int32) : jI l G K (j_ty cI cZ cT cB) yX7_no wsX7_no { frames := 0, cells := 0, slots := 0, locals := 0 } (m_w cI cZ ad M) [.ref (ad 0), .int n] 0 0 (fun r (u : mS) => r = nI 0 ∧ u = m_up M 0 0 n) (fun u => m_w cI cZ ad u) := by
  refine j_ofI (cc := cX7_no) (maxL := 2) (by decide) rfl (Nat.le_of_ble_eq_true rfl) ?_
  intro p e s m args below meth c X hnm hZ
  have hA : ∀ q, s.heap.size ≤ q → (va_A (m_w cI cZ ad M) s.heap.size) q := fun _ h => Or.inr h
  refine j_aload_n X 0 dX7_no_0 rfl rfl ?_
  refine j_iload_n X 1 dX7_no_1 rfl rfl ?_
  refine j_put X 0 (C := RX7) (T := TX7) (N := 14) rfl rfl 0 (by decide) mi_X7_no_X7 RX7 mm_X7_no_48 (fun x q => q) tyX7_ok nmX7 rfl (ty := .int) (v := .int n) (by decide +kernel) rfl rfl (Nat.le_of_ble_eq_true rfl) dX7_no_2 ?_
  refine j_weq (ws' := (m_w cI cZ ad (m_up M 0 0 n))) rfl ?_
  refine j_iconst (v := nI 0) X (by decide) dX7_no_5 ?_
  exact j_iret X (m_up M 0 0 n) rfl dX7_no_6 ⟨rfl, rfl⟩
set_option maxRecDepth 100000 in
set_option maxHeartbeats 4000000 in
theorem m_isIn (v a b : Int32) : jI l G K (j_ty cI cZ cT cB) yX7_isIn wsX7_isIn { frames := 0, cells := 0, slots := 0, locals := 0 } ([] : va_W) [.int v, .int a, .int b] 0 0 (fun r (_ : Unit) => r = s_in v a b) (fun _ => []) := by
  refine j_ofZb (cc := cX7_isIn) (maxL := 3) (by decide) rfl (Nat.le_of_ble_eq_true rfl) ?_
  intro p e s m args below meth c X hnm hZ
  have hA : ∀ q, s.heap.size ≤ q → (va_A ([] : va_W) s.heap.size) q := fun _ h => Or.inr h
  refine j_iload_n X 0 dX7_isIn_0 rfl rfl ?_
  refine j_iload_n X 1 dX7_isIn_1 rfl rfl ?_
  refine j_icmp_lt X (tgt := 14) dX7_isIn_2 (by decide) (fun c1 => ?_) (fun c1 => ?_)
  · refine j_iconst (v := nI 0) X (by decide) dX7_isIn_14 ?_
    exact j_zret X () rfl rfl dX7_isIn_15 (in_n (fun q => q.1 c1)).symm
  · refine j_iload_n X 0 dX7_isIn_5 rfl rfl ?_
    refine j_iload_n X 2 dX7_isIn_6 rfl rfl ?_
    refine j_icmp_gt X (tgt := 14) dX7_isIn_7 (by decide) (fun c2 => ?_) (fun c2 => ?_)
    · refine j_iconst (v := nI 0) X (by decide) dX7_isIn_14 ?_
      exact j_zret X () rfl rfl dX7_isIn_15 (in_n (fun q => q.2 c2)).symm
    · refine j_iconst (v := nI 1) X (by decide) dX7_isIn_10 ?_
      refine j_goto X (tgt := 15) dX7_isIn_11 (by decide) ?_
      exact j_zret X () rfl rfl dX7_isIn_15 (in_1 c1 c2).symm
theorem mh_X7_isIn_P : yX7_isIn.cls ≠ "java/lang/invoke/MethodHandle" ∧ yX7_isIn.cls ≠ "java/lang/invoke/VarHandle" ∧ (parseMethodDescriptor yX7_isIn.desc).map (fun d => d.parameters.length) = some 3 := by decide +kernel
set_option maxRecDepth 100000 in
set_option maxHeartbeats 4000000 in
theorem m_isCell (x y : Int32) : jI l G K (j_ty cI cZ cT cB) yX7_isCell wsX7_isCell { frames := 1, cells := 0, slots := 0, locals := 22 } ([] : va_W) [.int x, .int y] 0 0 (fun r (_ : Unit) => r = s_cel x y) (fun _ => []) := by
  refine j_ofZb (cc := cX7_isCell) (maxL := 2) (by decide) rfl (Nat.le_of_ble_eq_true rfl) ?_
  intro p e s m args below meth c X hnm hZ
  have hA : ∀ q, s.heap.size ≤ q → (va_A ([] : va_W) s.heap.size) q := fun _ h => Or.inr h
  refine j_iload_n X 0 dX7_isCell_0 rfl rfl ?_
  refine j_iconst (v := nI 0) X (by decide) dX7_isCell_1 ?_
  refine j_bipush (v := nI 11) X (by decide) dX7_isCell_2 ?_
  refine p_callSI X hA hZ (rest := []) [] ([] : va_W) (fun _ => ([] : va_W)) (List.Perm.refl _) (fun _ => nil_perm ([] : va_W)) [.int x, .int (nI 0), .int (nI 11)] (m_isIn x (nI 0) (nI 11)) 3 rfl gX7_isCell_X7_isIn rfl ⟨rfl, rfl⟩ mh_X7_isIn_P ⟨Nat.le_of_ble_eq_true rfl, Nat.le_of_ble_eq_true rfl⟩ rfl (Nat.le_of_ble_eq_true rfl) ⟨by show 0 + 0 ≤ 0; omega, by show 0 + 0 ≤ 0; omega⟩ dX7_isCell_4 (fun r9 u9 h9 => ?_)
  replace h9 := h9.symm
  subst h9
  refine j_if_eq X (tgt := 24) dX7_isCell_7 (by decide) (fun c1 => ?_) (fun c1 => ?_)
  · refine j_iconst (v := nI 0) X (by decide) dX7_isCell_24 ?_
    exact j_zret X () rfl rfl dX7_isCell_25 (by unfold s_cel; exact (if_pos c1).symm)
  · refine j_iload_n X 1 dX7_isCell_10 rfl rfl ?_
    refine j_iconst (v := nI 0) X (by decide) dX7_isCell_11 ?_
    refine j_bipush (v := nI 11) X (by decide) dX7_isCell_12 ?_
    refine p_callSI X hA hZ (rest := []) [] ([] : va_W) (fun _ => ([] : va_W)) (List.Perm.refl _) (fun _ => nil_perm ([] : va_W)) [.int y, .int (nI 0), .int (nI 11)] (m_isIn y (nI 0) (nI 11)) 3 rfl gX7_isCell_X7_isIn rfl ⟨rfl, rfl⟩ mh_X7_isIn_P ⟨Nat.le_of_ble_eq_true rfl, Nat.le_of_ble_eq_true rfl⟩ rfl (Nat.le_of_ble_eq_true rfl) ⟨by show 0 + 0 ≤ 0; omega, by show 0 + 0 ≤ 0; omega⟩ dX7_isCell_14 (fun r9 u9 h9 => ?_)
    replace h9 := h9.symm
    subst h9
    refine j_if_eq X (tgt := 24) dX7_isCell_17 (by decide) (fun c2 => ?_) (fun c2 => ?_)
    · refine j_iconst (v := nI 0) X (by decide) dX7_isCell_24 ?_
      exact j_zret X () rfl rfl dX7_isCell_25 (by unfold s_cel; exact ((if_neg c1).trans (if_pos c2)).symm)
    · refine j_iconst (v := nI 1) X (by decide) dX7_isCell_20 ?_
      refine j_goto X (tgt := 25) dX7_isCell_21 (by decide) ?_
      exact j_zret X () rfl rfl dX7_isCell_25 (by unfold s_cel; exact ((if_neg c1).trans (if_neg c2)).symm)
theorem mm_X7_isTeam_56 : Cond.fieldLink RX7 56 RX7 (TX7 5).2.1 (TX7 5).2.2.1 ∈ wsX7_isTeam := by decide +kernel
theorem mi_X7_isTeam_X7 : ∀ w ∈ u_ws RX7 TX7 14, w ∈ wsX7_isTeam := by decide +kernel
set_option maxRecDepth 100000 in
set_option maxHeartbeats 4000000 in
theorem m_isTeam (ad : Nat → Nat) (M : mS) (h3 : M 0 3 = nI 0) (t : Int32) : jI l G K (j_ty cI cZ cT cB) yX7_isTeam wsX7_isTeam { frames := 1, cells := 0, slots := 0, locals := 22 } (m_w cI cZ ad M) [.ref (ad 0), .int t] 0 0 (fun r (u : mS) => r = 0 ∧ u = M) (fun u => m_w cI cZ ad u) := by
  refine j_ofZb (cc := cX7_isTeam) (maxL := 2) (by decide) rfl (Nat.le_of_ble_eq_true rfl) ?_
  intro p e s m args below meth c X hnm hZ
  have hA : ∀ q, s.heap.size ≤ q → (va_A (m_w cI cZ ad M) s.heap.size) q := fun _ h => Or.inr h
  refine j_iload_n X 1 dX7_isTeam_0 rfl rfl ?_
  refine j_iconst (v := nI 0) X (by decide) dX7_isTeam_1 ?_
  refine j_aload_n X 0 dX7_isTeam_2 rfl rfl ?_
  refine j_get X 0 (C := RX7) (T := TX7) (N := 14) rfl rfl 5 (by decide) mi_X7_isTeam_X7 RX7 mm_X7_isTeam_56 (fun x q => q) (v := .int (M 0 3)) rfl dX7_isTeam_3 ?_
  refine j_top (y := nI 0) (h3) ?_
  refine j_iconst (v := nI 1) X (by decide) dX7_isTeam_6 ?_
  refine j_isub X dX7_isTeam_7 ?_
  refine p_callSI X hA hZ (rest := []) [] (m_w cI cZ ad M) (fun _ => (m_w cI cZ ad M)) (List.Perm.refl _) (fun _ => nil_perm (m_w cI cZ ad M)) [.int t, .int (nI 0), .int ((nI 0) - (nI 1))] (m_isIn t (nI 0) ((nI 0) - (nI 1))) 3 rfl gX7_isTeam_X7_isIn rfl ⟨rfl, rfl⟩ mh_X7_isIn_P ⟨Nat.le_of_ble_eq_true rfl, Nat.le_of_ble_eq_true rfl⟩ rfl (Nat.le_of_ble_eq_true rfl) ⟨by show 0 + 0 ≤ 0; omega, by show 0 + 0 ≤ 0; omega⟩ dX7_isTeam_8 (fun r9 u9 h9 => ?_)
  replace h9 := h9.symm
  subst h9
  exact j_zret X M rfl (by rw [show s_in t (nI 0) (nI 0 - nI 1) = 0 from team_n t]; rfl) dX7_isTeam_11 ⟨team_n t, rfl⟩
theorem mm_X7_order_48 : Cond.fieldLink RX7 48 RX7 (TX7 0).2.1 (TX7 0).2.2.1 ∈ wsX7_order := by decide +kernel
theorem mi_X7_order_X7 : ∀ w ∈ u_ws RX7 TX7 14, w ∈ wsX7_order := by decide +kernel
theorem mh_X7_isTeam_V : yX7_isTeam.cls = RX7 ∧ yX7_isTeam.cls ≠ "java/lang/invoke/MethodHandle" ∧ yX7_isTeam.cls ≠ "java/lang/invoke/VarHandle" ∧ (parseMethodDescriptor yX7_isTeam.desc).map (fun d => d.parameters.length) = some 1 := by decide +kernel
theorem mh_X7_no_V : yX7_no.cls = RX7 ∧ yX7_no.cls ≠ "java/lang/invoke/MethodHandle" ∧ yX7_no.cls ≠ "java/lang/invoke/VarHandle" ∧ (parseMethodDescriptor yX7_no.desc).map (fun d => d.parameters.length) = some 1 := by decide +kernel
set_option maxRecDepth 100000 in
set_option maxHeartbeats 4000000 in
theorem m_order (ad : Nat → Nat) (M : mS) (hM : mfr M) (t a b d : Int32) : jI l G K (j_ty cI cZ cT cB) yX7_order wsX7_order { frames := 2, cells := 0, slots := 0, locals := 43 } (m_w cI cZ ad M) [.ref (ad 0), .int t, .int a, .int b, .int d] 0 0 (fun r (u : mS) => r = nI 0 ∧ u 0 0 = nI 1) (fun u => m_w cI cZ ad u) := by
  refine j_ofI (cc := cX7_order) (maxL := 5) (by decide) rfl (Nat.le_of_ble_eq_true rfl) ?_
  intro p e s m args below meth c X hnm hZ
  have hA : ∀ q, s.heap.size ≤ q → (va_A (m_w cI cZ ad M) s.heap.size) q := fun _ h => Or.inr h
  refine j_aload_n X 0 dX7_order_0 rfl rfl ?_
  refine j_iconst (v := nI 0) X (by decide) dX7_order_1 ?_
  refine j_put X 0 (C := RX7) (T := TX7) (N := 14) rfl rfl 0 (by decide) mi_X7_order_X7 RX7 mm_X7_order_48 (fun x q => q) tyX7_ok nmX7 rfl (ty := .int) (v := .int (nI 0)) (by decide +kernel) rfl rfl (Nat.le_of_ble_eq_true rfl) dX7_order_2 ?_
  refine j_weq (ws' := (m_w cI cZ ad (m_up M 0 0 (nI 0)))) rfl ?_
  refine j_aload_n X 0 dX7_order_5 rfl rfl ?_
  refine j_iload_n X 1 dX7_order_6 rfl rfl ?_
  refine p_callVI X hA hZ (rest := []) (m_w cI cZ ad (m_up M 0 0 (nI 0))) [] (fun u => m_w cI cZ ad u) (nil_perm _).symm (fun _ => List.Perm.refl _) [.int t] 0 rfl rfl (m_isTeam (cI := cI) (cZ := cZ) (cT := cT) ad (m_up M 0 0 (nI 0)) (by exact hM.1.2.2) t) 1 rfl gX7_order_X7_isTeam rfl ⟨rfl, rfl⟩ mh_X7_isTeam_V ⟨Nat.le_of_ble_eq_true rfl, Nat.le_of_ble_eq_true rfl⟩ rfl (Nat.le_of_ble_eq_true rfl) ⟨by show 0 + 0 ≤ 0; omega, by show 0 + 0 ≤ 0; omega⟩ dX7_order_7 (fun r9 u9 h9 => ?_)
  obtain ⟨h9a, h9b⟩ := h9
  replace h9a := h9a.symm
  subst h9a
  replace h9b := h9b.symm
  subst h9b
  refine j_if_ne X (tgt := 19) dX7_order_10 (by decide) (fun c9 => ?_) (fun c9 => ?_)
  · exact absurd c9 (by decide)
  · refine j_aload_n X 0 dX7_order_13 rfl rfl ?_
    refine j_iconst (v := nI 1) X (by decide) dX7_order_14 ?_
    refine p_callVI X hA hZ (rest := []) (m_w cI cZ ad (m_up M 0 0 (nI 0))) [] (fun u => m_w cI cZ ad u) (nil_perm _).symm (fun _ => List.Perm.refl _) [.int (nI 1)] 0 rfl rfl (m_no (cI := cI) (cZ := cZ) (cT := cT) ad (m_up M 0 0 (nI 0)) (nI 1)) 1 rfl gX7_order_X7_no rfl ⟨rfl, rfl⟩ mh_X7_no_V ⟨Nat.le_of_ble_eq_true rfl, Nat.le_of_ble_eq_true rfl⟩ rfl (Nat.le_of_ble_eq_true rfl) ⟨by show 0 + 0 ≤ 0; omega, by show 0 + 0 ≤ 0; omega⟩ dX7_order_15 (fun r9 u9 h9 => ?_)
    obtain ⟨h9a, h9b⟩ := h9
    replace h9a := h9a.symm
    subst h9a
    replace h9b := h9b.symm
    subst h9b
    exact j_iret X (m_up (m_up M 0 0 (nI 0)) 0 0 (nI 1)) rfl dX7_order_18 ⟨rfl, rfl⟩
theorem mm_X7_clear_48 : Cond.fieldLink RX7 48 RX7 (TX7 0).2.1 (TX7 0).2.2.1 ∈ wsX7_clear := by decide +kernel
theorem mi_X7_clear_X7 : ∀ w ∈ u_ws RX7 TX7 14, w ∈ wsX7_clear := by decide +kernel
set_option maxRecDepth 100000 in
set_option maxHeartbeats 4000000 in
theorem m_clear (ad : Nat → Nat) (M : mS) (hM : mfr M) (t : Int32) : jI l G K (j_ty cI cZ cT cB) yX7_clear wsX7_clear { frames := 2, cells := 0, slots := 0, locals := 43 } (m_w cI cZ ad M) [.ref (ad 0), .int t] 0 0 (fun r (u : mS) => r = nI 0 ∧ u 0 0 = nI 1) (fun u => m_w cI cZ ad u) := by
  refine j_ofI (cc := cX7_clear) (maxL := 3) (by decide) rfl (Nat.le_of_ble_eq_true rfl) ?_
  intro p e s m args below meth c X hnm hZ
  have hA : ∀ q, s.heap.size ≤ q → (va_A (m_w cI cZ ad M) s.heap.size) q := fun _ h => Or.inr h
  refine j_aload_n X 0 dX7_clear_0 rfl rfl ?_
  refine j_iconst (v := nI 0) X (by decide) dX7_clear_1 ?_
  refine j_put X 0 (C := RX7) (T := TX7) (N := 14) rfl rfl 0 (by decide) mi_X7_clear_X7 RX7 mm_X7_clear_48 (fun x q => q) tyX7_ok nmX7 rfl (ty := .int) (v := .int (nI 0)) (by decide +kernel) rfl rfl (Nat.le_of_ble_eq_true rfl) dX7_clear_2 ?_
  refine j_weq (ws' := (m_w cI cZ ad (m_up M 0 0 (nI 0)))) rfl ?_
  refine j_aload_n X 0 dX7_clear_5 rfl rfl ?_
  refine j_iload_n X 1 dX7_clear_6 rfl rfl ?_
  refine p_callVI X hA hZ (rest := []) (m_w cI cZ ad (m_up M 0 0 (nI 0))) [] (fun u => m_w cI cZ ad u) (nil_perm _).symm (fun _ => List.Perm.refl _) [.int t] 0 rfl rfl (m_isTeam (cI := cI) (cZ := cZ) (cT := cT) ad (m_up M 0 0 (nI 0)) (by exact hM.1.2.2) t) 1 rfl gX7_clear_X7_isTeam rfl ⟨rfl, rfl⟩ mh_X7_isTeam_V ⟨Nat.le_of_ble_eq_true rfl, Nat.le_of_ble_eq_true rfl⟩ rfl (Nat.le_of_ble_eq_true rfl) ⟨by show 0 + 0 ≤ 0; omega, by show 0 + 0 ≤ 0; omega⟩ dX7_clear_7 (fun r9 u9 h9 => ?_)
  obtain ⟨h9a, h9b⟩ := h9
  replace h9a := h9a.symm
  subst h9a
  replace h9b := h9b.symm
  subst h9b
  refine j_if_ne X (tgt := 19) dX7_clear_10 (by decide) (fun c9 => ?_) (fun c9 => ?_)
  · exact absurd c9 (by decide)
  · refine j_aload_n X 0 dX7_clear_13 rfl rfl ?_
    refine j_iconst (v := nI 1) X (by decide) dX7_clear_14 ?_
    refine p_callVI X hA hZ (rest := []) (m_w cI cZ ad (m_up M 0 0 (nI 0))) [] (fun u => m_w cI cZ ad u) (nil_perm _).symm (fun _ => List.Perm.refl _) [.int (nI 1)] 0 rfl rfl (m_no (cI := cI) (cZ := cZ) (cT := cT) ad (m_up M 0 0 (nI 0)) (nI 1)) 1 rfl gX7_clear_X7_no rfl ⟨rfl, rfl⟩ mh_X7_no_V ⟨Nat.le_of_ble_eq_true rfl, Nat.le_of_ble_eq_true rfl⟩ rfl (Nat.le_of_ble_eq_true rfl) ⟨by show 0 + 0 ≤ 0; omega, by show 0 + 0 ≤ 0; omega⟩ dX7_clear_15 (fun r9 u9 h9 => ?_)
    obtain ⟨h9a, h9b⟩ := h9
    replace h9a := h9a.symm
    subst h9a
    replace h9b := h9b.symm
    subst h9b
    exact j_iret X (m_up (m_up M 0 0 (nI 0)) 0 0 (nI 1)) rfl dX7_clear_18 ⟨rfl, rfl⟩
theorem mm_X7_lasts_48 : Cond.fieldLink RX7 48 RX7 (TX7 0).2.1 (TX7 0).2.2.1 ∈ wsX7_lasts := by decide +kernel
theorem mi_X7_lasts_X7 : ∀ w ∈ u_ws RX7 TX7 14, w ∈ wsX7_lasts := by decide +kernel
set_option maxRecDepth 100000 in
set_option maxHeartbeats 4000000 in
theorem m_lasts (ad : Nat → Nat) (M : mS) (hM : mfr M) (t : Int32) : jI l G K (j_ty cI cZ cT cB) yX7_lasts wsX7_lasts { frames := 7, cells := 0, slots := 0, locals := 163 } (m_w cI cZ ad M) [.ref (ad 0), .int t] 0 0 (fun r (u : mS) => r = nI 0 ∧ u 0 0 = nI 1) (fun u => m_w cI cZ ad u) := by
  refine j_ofI (cc := cX7_lasts) (maxL := 3) (by decide) rfl (Nat.le_of_ble_eq_true rfl) ?_
  intro p e s m args below meth c X hnm hZ
  have hA : ∀ q, s.heap.size ≤ q → (va_A (m_w cI cZ ad M) s.heap.size) q := fun _ h => Or.inr h
  refine j_aload_n X 0 dX7_lasts_0 rfl rfl ?_
  refine j_iconst (v := nI 0) X (by decide) dX7_lasts_1 ?_
  refine j_put X 0 (C := RX7) (T := TX7) (N := 14) rfl rfl 0 (by decide) mi_X7_lasts_X7 RX7 mm_X7_lasts_48 (fun x q => q) tyX7_ok nmX7 rfl (ty := .int) (v := .int (nI 0)) (by decide +kernel) rfl rfl (Nat.le_of_ble_eq_true rfl) dX7_lasts_2 ?_
  refine j_weq (ws' := (m_w cI cZ ad (m_up M 0 0 (nI 0)))) rfl ?_
  refine j_aload_n X 0 dX7_lasts_5 rfl rfl ?_
  refine j_iload_n X 1 dX7_lasts_6 rfl rfl ?_
  refine p_callVI X hA hZ (rest := []) (m_w cI cZ ad (m_up M 0 0 (nI 0))) [] (fun u => m_w cI cZ ad u) (nil_perm _).symm (fun _ => List.Perm.refl _) [.int t] 0 rfl rfl (m_isTeam (cI := cI) (cZ := cZ) (cT := cT) ad (m_up M 0 0 (nI 0)) (by exact hM.1.2.2) t) 1 rfl gX7_lasts_X7_isTeam rfl ⟨rfl, rfl⟩ mh_X7_isTeam_V ⟨Nat.le_of_ble_eq_true rfl, Nat.le_of_ble_eq_true rfl⟩ rfl (Nat.le_of_ble_eq_true rfl) ⟨by show 0 + 0 ≤ 0; omega, by show 0 + 0 ≤ 0; omega⟩ dX7_lasts_7 (fun r9 u9 h9 => ?_)
  obtain ⟨h9a, h9b⟩ := h9
  replace h9a := h9a.symm
  subst h9a
  replace h9b := h9b.symm
  subst h9b
  refine j_if_ne X (tgt := 19) dX7_lasts_10 (by decide) (fun c9 => ?_) (fun c9 => ?_)
  · exact absurd c9 (by decide)
  · refine j_aload_n X 0 dX7_lasts_13 rfl rfl ?_
    refine j_iconst (v := nI 1) X (by decide) dX7_lasts_14 ?_
    refine p_callVI X hA hZ (rest := []) (m_w cI cZ ad (m_up M 0 0 (nI 0))) [] (fun u => m_w cI cZ ad u) (nil_perm _).symm (fun _ => List.Perm.refl _) [.int (nI 1)] 0 rfl rfl (m_no (cI := cI) (cZ := cZ) (cT := cT) ad (m_up M 0 0 (nI 0)) (nI 1)) 1 rfl gX7_lasts_X7_no rfl ⟨rfl, rfl⟩ mh_X7_no_V ⟨Nat.le_of_ble_eq_true rfl, Nat.le_of_ble_eq_true rfl⟩ rfl (Nat.le_of_ble_eq_true rfl) ⟨by show 0 + 0 ≤ 0; omega, by show 0 + 0 ≤ 0; omega⟩ dX7_lasts_15 (fun r9 u9 h9 => ?_)
    obtain ⟨h9a, h9b⟩ := h9
    replace h9a := h9a.symm
    subst h9a
    replace h9b := h9b.symm
    subst h9b
    exact j_iret X (m_up (m_up M 0 0 (nI 0)) 0 0 (nI 1)) rfl dX7_lasts_18 ⟨rfl, rfl⟩
theorem mm_X7_advise_48 : Cond.fieldLink RX7 48 RX7 (TX7 0).2.1 (TX7 0).2.2.1 ∈ wsX7_advise := by decide +kernel
theorem mi_X7_advise_X7 : ∀ w ∈ u_ws RX7 TX7 14, w ∈ wsX7_advise := by decide +kernel
set_option maxRecDepth 100000 in
set_option maxHeartbeats 4000000 in
theorem m_advise (ad : Nat → Nat) (M : mS) (hM : mfr M) (t h : Int32) : jI l G K (j_ty cI cZ cT cB) yX7_advise wsX7_advise { frames := 8, cells := 0, slots := 0, locals := 187 } (m_w cI cZ ad M) [.ref (ad 0), .int t, .int h] 0 0 (fun r (u : mS) => r = nI 0 ∧ u 0 0 = nI 1) (fun u => m_w cI cZ ad u) := by
  refine j_ofI (cc := cX7_advise) (maxL := 6) (by decide) rfl (Nat.le_of_ble_eq_true rfl) ?_
  intro p e s m args below meth c X hnm hZ
  have hA : ∀ q, s.heap.size ≤ q → (va_A (m_w cI cZ ad M) s.heap.size) q := fun _ h => Or.inr h
  refine j_aload_n X 0 dX7_advise_0 rfl rfl ?_
  refine j_iconst (v := nI 0) X (by decide) dX7_advise_1 ?_
  refine j_put X 0 (C := RX7) (T := TX7) (N := 14) rfl rfl 0 (by decide) mi_X7_advise_X7 RX7 mm_X7_advise_48 (fun x q => q) tyX7_ok nmX7 rfl (ty := .int) (v := .int (nI 0)) (by decide +kernel) rfl rfl (Nat.le_of_ble_eq_true rfl) dX7_advise_2 ?_
  refine j_weq (ws' := (m_w cI cZ ad (m_up M 0 0 (nI 0)))) rfl ?_
  refine j_aload_n X 0 dX7_advise_5 rfl rfl ?_
  refine j_iload_n X 1 dX7_advise_6 rfl rfl ?_
  refine p_callVI X hA hZ (rest := []) (m_w cI cZ ad (m_up M 0 0 (nI 0))) [] (fun u => m_w cI cZ ad u) (nil_perm _).symm (fun _ => List.Perm.refl _) [.int t] 0 rfl rfl (m_isTeam (cI := cI) (cZ := cZ) (cT := cT) ad (m_up M 0 0 (nI 0)) (by exact hM.1.2.2) t) 1 rfl gX7_advise_X7_isTeam rfl ⟨rfl, rfl⟩ mh_X7_isTeam_V ⟨Nat.le_of_ble_eq_true rfl, Nat.le_of_ble_eq_true rfl⟩ rfl (Nat.le_of_ble_eq_true rfl) ⟨by show 0 + 0 ≤ 0; omega, by show 0 + 0 ≤ 0; omega⟩ dX7_advise_7 (fun r9 u9 h9 => ?_)
  obtain ⟨h9a, h9b⟩ := h9
  replace h9a := h9a.symm
  subst h9a
  replace h9b := h9b.symm
  subst h9b
  refine j_if_ne X (tgt := 19) dX7_advise_10 (by decide) (fun c9 => ?_) (fun c9 => ?_)
  · exact absurd c9 (by decide)
  · refine j_aload_n X 0 dX7_advise_13 rfl rfl ?_
    refine j_iconst (v := nI 1) X (by decide) dX7_advise_14 ?_
    refine p_callVI X hA hZ (rest := []) (m_w cI cZ ad (m_up M 0 0 (nI 0))) [] (fun u => m_w cI cZ ad u) (nil_perm _).symm (fun _ => List.Perm.refl _) [.int (nI 1)] 0 rfl rfl (m_no (cI := cI) (cZ := cZ) (cT := cT) ad (m_up M 0 0 (nI 0)) (nI 1)) 1 rfl gX7_advise_X7_no rfl ⟨rfl, rfl⟩ mh_X7_no_V ⟨Nat.le_of_ble_eq_true rfl, Nat.le_of_ble_eq_true rfl⟩ rfl (Nat.le_of_ble_eq_true rfl) ⟨by show 0 + 0 ≤ 0; omega, by show 0 + 0 ≤ 0; omega⟩ dX7_advise_15 (fun r9 u9 h9 => ?_)
    obtain ⟨h9a, h9b⟩ := h9
    replace h9a := h9a.symm
    subst h9a
    replace h9b := h9b.symm
    subst h9b
    exact j_iret X (m_up (m_up M 0 0 (nI 0)) 0 0 (nI 1)) rfl dX7_advise_18 ⟨rfl, rfl⟩
theorem mm_X7_reach_48 : Cond.fieldLink RX7 48 RX7 (TX7 0).2.1 (TX7 0).2.2.1 ∈ wsX7_reach := by decide +kernel
theorem mi_X7_reach_X7 : ∀ w ∈ u_ws RX7 TX7 14, w ∈ wsX7_reach := by decide +kernel
set_option maxRecDepth 100000 in
set_option maxHeartbeats 4000000 in
theorem m_reach (ad : Nat → Nat) (M : mS) (hM : mfr M) (t x y : Int32) : jI l G K (j_ty cI cZ cT cB) yX7_reach wsX7_reach { frames := 4, cells := 0, slots := 0, locals := 93 } (m_w cI cZ ad M) [.ref (ad 0), .int t, .int x, .int y] 0 0 (fun r (u : mS) => r = nI 0 ∧ u 0 0 = nI 1) (fun u => m_w cI cZ ad u) := by
  refine j_ofI (cc := cX7_reach) (maxL := 5) (by decide) rfl (Nat.le_of_ble_eq_true rfl) ?_
  intro p e s m args below meth c X hnm hZ
  have hA : ∀ q, s.heap.size ≤ q → (va_A (m_w cI cZ ad M) s.heap.size) q := fun _ h => Or.inr h
  refine j_aload_n X 0 dX7_reach_0 rfl rfl ?_
  refine j_iconst (v := nI 0) X (by decide) dX7_reach_1 ?_
  refine j_put X 0 (C := RX7) (T := TX7) (N := 14) rfl rfl 0 (by decide) mi_X7_reach_X7 RX7 mm_X7_reach_48 (fun x q => q) tyX7_ok nmX7 rfl (ty := .int) (v := .int (nI 0)) (by decide +kernel) rfl rfl (Nat.le_of_ble_eq_true rfl) dX7_reach_2 ?_
  refine j_weq (ws' := (m_w cI cZ ad (m_up M 0 0 (nI 0)))) rfl ?_
  refine j_aload_n X 0 dX7_reach_5 rfl rfl ?_
  refine j_iload_n X 1 dX7_reach_6 rfl rfl ?_
  refine p_callVI X hA hZ (rest := []) (m_w cI cZ ad (m_up M 0 0 (nI 0))) [] (fun u => m_w cI cZ ad u) (nil_perm _).symm (fun _ => List.Perm.refl _) [.int t] 0 rfl rfl (m_isTeam (cI := cI) (cZ := cZ) (cT := cT) ad (m_up M 0 0 (nI 0)) (by exact hM.1.2.2) t) 1 rfl gX7_reach_X7_isTeam rfl ⟨rfl, rfl⟩ mh_X7_isTeam_V ⟨Nat.le_of_ble_eq_true rfl, Nat.le_of_ble_eq_true rfl⟩ rfl (Nat.le_of_ble_eq_true rfl) ⟨by show 0 + 0 ≤ 0; omega, by show 0 + 0 ≤ 0; omega⟩ dX7_reach_7 (fun r9 u9 h9 => ?_)
  obtain ⟨h9a, h9b⟩ := h9
  replace h9a := h9a.symm
  subst h9a
  replace h9b := h9b.symm
  subst h9b
  refine j_if_eq X (tgt := 21) dX7_reach_10 (by decide) (fun c9 => ?_) (fun c9 => ?_)
  · refine j_aload_n X 0 dX7_reach_21 rfl rfl ?_
    refine j_iconst (v := nI 1) X (by decide) dX7_reach_22 ?_
    refine p_callVI X hA hZ (rest := []) (m_w cI cZ ad (m_up M 0 0 (nI 0))) [] (fun u => m_w cI cZ ad u) (nil_perm _).symm (fun _ => List.Perm.refl _) [.int (nI 1)] 0 rfl rfl (m_no (cI := cI) (cZ := cZ) (cT := cT) ad (m_up M 0 0 (nI 0)) (nI 1)) 1 rfl gX7_reach_X7_no rfl ⟨rfl, rfl⟩ mh_X7_no_V ⟨Nat.le_of_ble_eq_true rfl, Nat.le_of_ble_eq_true rfl⟩ rfl (Nat.le_of_ble_eq_true rfl) ⟨by show 0 + 0 ≤ 0; omega, by show 0 + 0 ≤ 0; omega⟩ dX7_reach_23 (fun r9 u9 h9 => ?_)
    obtain ⟨h9a, h9b⟩ := h9
    replace h9a := h9a.symm
    subst h9a
    replace h9b := h9b.symm
    subst h9b
    exact j_iret X (m_up (m_up M 0 0 (nI 0)) 0 0 (nI 1)) rfl dX7_reach_26 ⟨rfl, rfl⟩
  · exact absurd c9 (by decide)
theorem mm_X7_target_48 : Cond.fieldLink RX7 48 RX7 (TX7 0).2.1 (TX7 0).2.2.1 ∈ wsX7_target := by decide +kernel
theorem mi_X7_target_X7 : ∀ w ∈ u_ws RX7 TX7 14, w ∈ wsX7_target := by decide +kernel
set_option maxRecDepth 100000 in
set_option maxHeartbeats 4000000 in
theorem m_target (ad : Nat → Nat) (M : mS) (hM : mfr M) (t : Int32) : jI l G K (j_ty cI cZ cT cB) yX7_target wsX7_target { frames := 4, cells := 0, slots := 0, locals := 93 } (m_w cI cZ ad M) [.ref (ad 0), .int t] 0 0 (fun r (u : mS) => r = nI 0 ∧ u 0 0 = nI 1) (fun u => m_w cI cZ ad u) := by
  refine j_ofI (cc := cX7_target) (maxL := 5) (by decide) rfl (Nat.le_of_ble_eq_true rfl) ?_
  intro p e s m args below meth c X hnm hZ
  have hA : ∀ q, s.heap.size ≤ q → (va_A (m_w cI cZ ad M) s.heap.size) q := fun _ h => Or.inr h
  refine j_aload_n X 0 dX7_target_0 rfl rfl ?_
  refine j_iconst (v := nI 0) X (by decide) dX7_target_1 ?_
  refine j_put X 0 (C := RX7) (T := TX7) (N := 14) rfl rfl 0 (by decide) mi_X7_target_X7 RX7 mm_X7_target_48 (fun x q => q) tyX7_ok nmX7 rfl (ty := .int) (v := .int (nI 0)) (by decide +kernel) rfl rfl (Nat.le_of_ble_eq_true rfl) dX7_target_2 ?_
  refine j_weq (ws' := (m_w cI cZ ad (m_up M 0 0 (nI 0)))) rfl ?_
  refine j_aload_n X 0 dX7_target_5 rfl rfl ?_
  refine j_iload_n X 1 dX7_target_6 rfl rfl ?_
  refine p_callVI X hA hZ (rest := []) (m_w cI cZ ad (m_up M 0 0 (nI 0))) [] (fun u => m_w cI cZ ad u) (nil_perm _).symm (fun _ => List.Perm.refl _) [.int t] 0 rfl rfl (m_isTeam (cI := cI) (cZ := cZ) (cT := cT) ad (m_up M 0 0 (nI 0)) (by exact hM.1.2.2) t) 1 rfl gX7_target_X7_isTeam rfl ⟨rfl, rfl⟩ mh_X7_isTeam_V ⟨Nat.le_of_ble_eq_true rfl, Nat.le_of_ble_eq_true rfl⟩ rfl (Nat.le_of_ble_eq_true rfl) ⟨by show 0 + 0 ≤ 0; omega, by show 0 + 0 ≤ 0; omega⟩ dX7_target_7 (fun r9 u9 h9 => ?_)
  obtain ⟨h9a, h9b⟩ := h9
  replace h9a := h9a.symm
  subst h9a
  replace h9b := h9b.symm
  subst h9b
  refine j_if_ne X (tgt := 19) dX7_target_10 (by decide) (fun c9 => ?_) (fun c9 => ?_)
  · exact absurd c9 (by decide)
  · refine j_aload_n X 0 dX7_target_13 rfl rfl ?_
    refine j_iconst (v := nI 1) X (by decide) dX7_target_14 ?_
    refine p_callVI X hA hZ (rest := []) (m_w cI cZ ad (m_up M 0 0 (nI 0))) [] (fun u => m_w cI cZ ad u) (nil_perm _).symm (fun _ => List.Perm.refl _) [.int (nI 1)] 0 rfl rfl (m_no (cI := cI) (cZ := cZ) (cT := cT) ad (m_up M 0 0 (nI 0)) (nI 1)) 1 rfl gX7_target_X7_no rfl ⟨rfl, rfl⟩ mh_X7_no_V ⟨Nat.le_of_ble_eq_true rfl, Nat.le_of_ble_eq_true rfl⟩ rfl (Nat.le_of_ble_eq_true rfl) ⟨by show 0 + 0 ≤ 0; omega, by show 0 + 0 ≤ 0; omega⟩ dX7_target_15 (fun r9 u9 h9 => ?_)
    obtain ⟨h9a, h9b⟩ := h9
    replace h9a := h9a.symm
    subst h9a
    replace h9b := h9b.symm
    subst h9b
    exact j_iret X (m_up (m_up M 0 0 (nI 0)) 0 0 (nI 1)) rfl dX7_target_18 ⟨rfl, rfl⟩
theorem mm_X7_team_48 : Cond.fieldLink RX7 48 RX7 (TX7 0).2.1 (TX7 0).2.2.1 ∈ wsX7_team := by decide +kernel
theorem mi_X7_team_X7 : ∀ w ∈ u_ws RX7 TX7 14, w ∈ wsX7_team := by decide +kernel
set_option maxRecDepth 100000 in
set_option maxHeartbeats 4000000 in
theorem m_team (ad : Nat → Nat) (M : mS) (hM : mfr M) (t k : Int32) : jI l G K (j_ty cI cZ cT cB) yX7_team wsX7_team { frames := 2, cells := 0, slots := 0, locals := 47 } (m_w cI cZ ad M) [.ref (ad 0), .int t, .int k] 0 0 (fun r (u : mS) => r = nI 0 ∧ u 0 0 = nI 1) (fun u => m_w cI cZ ad u) := by
  refine j_ofI (cc := cX7_team) (maxL := 3) (by decide) rfl (Nat.le_of_ble_eq_true rfl) ?_
  intro p e s m args below meth c X hnm hZ
  have hA : ∀ q, s.heap.size ≤ q → (va_A (m_w cI cZ ad M) s.heap.size) q := fun _ h => Or.inr h
  refine j_aload_n X 0 dX7_team_0 rfl rfl ?_
  refine j_iconst (v := nI 0) X (by decide) dX7_team_1 ?_
  refine j_put X 0 (C := RX7) (T := TX7) (N := 14) rfl rfl 0 (by decide) mi_X7_team_X7 RX7 mm_X7_team_48 (fun x q => q) tyX7_ok nmX7 rfl (ty := .int) (v := .int (nI 0)) (by decide +kernel) rfl rfl (Nat.le_of_ble_eq_true rfl) dX7_team_2 ?_
  refine j_weq (ws' := (m_w cI cZ ad (m_up M 0 0 (nI 0)))) rfl ?_
  refine j_aload_n X 0 dX7_team_5 rfl rfl ?_
  refine j_iload_n X 1 dX7_team_6 rfl rfl ?_
  refine p_callVI X hA hZ (rest := []) (m_w cI cZ ad (m_up M 0 0 (nI 0))) [] (fun u => m_w cI cZ ad u) (nil_perm _).symm (fun _ => List.Perm.refl _) [.int t] 0 rfl rfl (m_isTeam (cI := cI) (cZ := cZ) (cT := cT) ad (m_up M 0 0 (nI 0)) (by exact hM.1.2.2) t) 1 rfl gX7_team_X7_isTeam rfl ⟨rfl, rfl⟩ mh_X7_isTeam_V ⟨Nat.le_of_ble_eq_true rfl, Nat.le_of_ble_eq_true rfl⟩ rfl (Nat.le_of_ble_eq_true rfl) ⟨by show 0 + 0 ≤ 0; omega, by show 0 + 0 ≤ 0; omega⟩ dX7_team_7 (fun r9 u9 h9 => ?_)
  obtain ⟨h9a, h9b⟩ := h9
  replace h9a := h9a.symm
  subst h9a
  replace h9b := h9b.symm
  subst h9b
  refine j_if_eq X (tgt := 32) dX7_team_10 (by decide) (fun c9 => ?_) (fun c9 => ?_)
  · refine j_aload_n X 0 dX7_team_32 rfl rfl ?_
    refine j_iconst (v := nI 1) X (by decide) dX7_team_33 ?_
    refine p_callVI X hA hZ (rest := []) (m_w cI cZ ad (m_up M 0 0 (nI 0))) [] (fun u => m_w cI cZ ad u) (nil_perm _).symm (fun _ => List.Perm.refl _) [.int (nI 1)] 0 rfl rfl (m_no (cI := cI) (cZ := cZ) (cT := cT) ad (m_up M 0 0 (nI 0)) (nI 1)) 1 rfl gX7_team_X7_no rfl ⟨rfl, rfl⟩ mh_X7_no_V ⟨Nat.le_of_ble_eq_true rfl, Nat.le_of_ble_eq_true rfl⟩ rfl (Nat.le_of_ble_eq_true rfl) ⟨by show 0 + 0 ≤ 0; omega, by show 0 + 0 ≤ 0; omega⟩ dX7_team_34 (fun r9 u9 h9 => ?_)
    obtain ⟨h9a, h9b⟩ := h9
    replace h9a := h9a.symm
    subst h9a
    replace h9b := h9b.symm
    subst h9b
    exact j_iret X (m_up (m_up M 0 0 (nI 0)) 0 0 (nI 1)) rfl dX7_team_37 ⟨rfl, rfl⟩
  · exact absurd c9 (by decide)
theorem mm_X7_heard_48 : Cond.fieldLink RX7 48 RX7 (TX7 0).2.1 (TX7 0).2.2.1 ∈ wsX7_heard := by decide +kernel
theorem mi_X7_heard_X7 : ∀ w ∈ u_ws RX7 TX7 14, w ∈ wsX7_heard := by decide +kernel
set_option maxRecDepth 100000 in
set_option maxHeartbeats 4000000 in
theorem m_heard (ad : Nat → Nat) (M : mS) (hM : mfr M) (t k : Int32) : jI l G K (j_ty cI cZ cT cB) yX7_heard wsX7_heard { frames := 2, cells := 0, slots := 0, locals := 43 } (m_w cI cZ ad M) [.ref (ad 0), .int t, .int k] 0 0 (fun r (u : mS) => r = nI 0 ∧ u 0 0 = nI 1) (fun u => m_w cI cZ ad u) := by
  refine j_ofI (cc := cX7_heard) (maxL := 3) (by decide) rfl (Nat.le_of_ble_eq_true rfl) ?_
  intro p e s m args below meth c X hnm hZ
  have hA : ∀ q, s.heap.size ≤ q → (va_A (m_w cI cZ ad M) s.heap.size) q := fun _ h => Or.inr h
  refine j_aload_n X 0 dX7_heard_0 rfl rfl ?_
  refine j_iconst (v := nI 0) X (by decide) dX7_heard_1 ?_
  refine j_put X 0 (C := RX7) (T := TX7) (N := 14) rfl rfl 0 (by decide) mi_X7_heard_X7 RX7 mm_X7_heard_48 (fun x q => q) tyX7_ok nmX7 rfl (ty := .int) (v := .int (nI 0)) (by decide +kernel) rfl rfl (Nat.le_of_ble_eq_true rfl) dX7_heard_2 ?_
  refine j_weq (ws' := (m_w cI cZ ad (m_up M 0 0 (nI 0)))) rfl ?_
  refine j_aload_n X 0 dX7_heard_5 rfl rfl ?_
  refine j_iload_n X 1 dX7_heard_6 rfl rfl ?_
  refine p_callVI X hA hZ (rest := []) (m_w cI cZ ad (m_up M 0 0 (nI 0))) [] (fun u => m_w cI cZ ad u) (nil_perm _).symm (fun _ => List.Perm.refl _) [.int t] 0 rfl rfl (m_isTeam (cI := cI) (cZ := cZ) (cT := cT) ad (m_up M 0 0 (nI 0)) (by exact hM.1.2.2) t) 1 rfl gX7_heard_X7_isTeam rfl ⟨rfl, rfl⟩ mh_X7_isTeam_V ⟨Nat.le_of_ble_eq_true rfl, Nat.le_of_ble_eq_true rfl⟩ rfl (Nat.le_of_ble_eq_true rfl) ⟨by show 0 + 0 ≤ 0; omega, by show 0 + 0 ≤ 0; omega⟩ dX7_heard_7 (fun r9 u9 h9 => ?_)
  obtain ⟨h9a, h9b⟩ := h9
  replace h9a := h9a.symm
  subst h9a
  replace h9b := h9b.symm
  subst h9b
  refine j_if_eq X (tgt := 42) dX7_heard_10 (by decide) (fun c9 => ?_) (fun c9 => ?_)
  · refine j_aload_n X 0 dX7_heard_42 rfl rfl ?_
    refine j_iconst (v := nI 1) X (by decide) dX7_heard_43 ?_
    refine p_callVI X hA hZ (rest := []) (m_w cI cZ ad (m_up M 0 0 (nI 0))) [] (fun u => m_w cI cZ ad u) (nil_perm _).symm (fun _ => List.Perm.refl _) [.int (nI 1)] 0 rfl rfl (m_no (cI := cI) (cZ := cZ) (cT := cT) ad (m_up M 0 0 (nI 0)) (nI 1)) 1 rfl gX7_heard_X7_no rfl ⟨rfl, rfl⟩ mh_X7_no_V ⟨Nat.le_of_ble_eq_true rfl, Nat.le_of_ble_eq_true rfl⟩ rfl (Nat.le_of_ble_eq_true rfl) ⟨by show 0 + 0 ≤ 0; omega, by show 0 + 0 ≤ 0; omega⟩ dX7_heard_44 (fun r9 u9 h9 => ?_)
    obtain ⟨h9a, h9b⟩ := h9
    replace h9a := h9a.symm
    subst h9a
    replace h9b := h9b.symm
    subst h9b
    exact j_iret X (m_up (m_up M 0 0 (nI 0)) 0 0 (nI 1)) rfl dX7_heard_47 ⟨rfl, rfl⟩
  · exact absurd c9 (by decide)
theorem mm_X6_isTunnel_9 : Cond.fieldLink RX6 9 RX6 (TX6 2).2.1 (TX6 2).2.2.1 ∈ wsX6_isTunnel := by decide +kernel
theorem mi_X6_isTunnel_X6 : ∀ w ∈ u_ws RX6 TX6 5, w ∈ wsX6_isTunnel := by decide +kernel
set_option maxRecDepth 100000 in
set_option maxHeartbeats 4000000 in
theorem m_isT9 (ad : Nat → Nat) (M : mS) (k : Nat) (hk : k < 144) (hc : M 10 (8 * k + 2) = 0) : jI l G K (j_ty cI cZ cT cB) yX6_isTunnel wsX6_isTunnel { frames := 0, cells := 0, slots := 0, locals := 0 } (m_w cI cZ ad M) [.ref (ad 9), .int (nI k)] 0 0 (fun r (u : mS) => r = 0 ∧ u = M) (fun u => m_w cI cZ ad u) := by
  refine j_ofZb (cc := cX6_isTunnel) (maxL := 2) (by decide) rfl (Nat.le_of_ble_eq_true rfl) ?_
  intro p e s m args below meth c X hnm hZ
  have hA : ∀ q, s.heap.size ≤ q → (va_A (m_w cI cZ ad M) s.heap.size) q := fun _ h => Or.inr h
  refine j_iload_n X 1 dX6_isTunnel_0 rfl rfl ?_
  refine j_iconst (v := -1) X (by decide) dX6_isTunnel_1 ?_
  refine j_icmp_eq X (tgt := 24) dX6_isTunnel_2 (by decide) (fun c1 => ?_) (fun c1 => ?_)
  · exact absurd c1 (nI_m1 (by omega))
  · refine j_aload_n X 0 dX6_isTunnel_5 rfl rfl ?_
    refine j_get X 9 (C := RX6) (T := TX6) (N := 5) rfl rfl 2 (by decide) mi_X6_isTunnel_X6 RX6 mm_X6_isTunnel_9 (fun x q => q) (v := .ref (ad 10)) rfl dX6_isTunnel_6 ?_
    refine j_bipush (v := nI 8) X (by decide) dX6_isTunnel_9 ?_
    refine j_iload_n X 1 dX6_isTunnel_11 rfl rfl ?_
    refine j_imulN X 8 k dX6_isTunnel_12 ?_
    refine j_iconst (v := nI 2) X (by decide) dX6_isTunnel_13 ?_
    refine j_iadd X dX6_isTunnel_14 ?_
    refine j_top (y := nI ((8 * k) + 2)) (nI_add (8 * k) 2) ?_
    refine j_iald X 10 0 rfl rfl (8 * k + 2) rfl (by omega) (by decide) dX6_isTunnel_15 ?_
    refine j_top (y := nI 0) hc ?_
    refine j_iconst (v := nI 1) X (by decide) dX6_isTunnel_16 ?_
    refine j_icmp_ne X (tgt := 24) dX6_isTunnel_17 (by decide) (fun c9 => ?_) (fun c9 => ?_)
    · refine j_iconst (v := nI 0) X (by decide) dX6_isTunnel_24 ?_
      exact j_zret X M rfl rfl dX6_isTunnel_25 ⟨rfl, rfl⟩
    · exact absurd c9 (by decide)
set_option maxRecDepth 100000 in
set_option maxHeartbeats 4000000 in
theorem m_isT13 (ad : Nat → Nat) (M : mS) (k : Nat) (hk : k < 144) (hc : M 14 (8 * k + 2) = 0) : jI l G K (j_ty cI cZ cT cB) yX6_isTunnel wsX6_isTunnel { frames := 0, cells := 0, slots := 0, locals := 0 } (m_w cI cZ ad M) [.ref (ad 13), .int (nI k)] 0 0 (fun r (u : mS) => r = 0 ∧ u = M) (fun u => m_w cI cZ ad u) := by
  refine j_ofZb (cc := cX6_isTunnel) (maxL := 2) (by decide) rfl (Nat.le_of_ble_eq_true rfl) ?_
  intro p e s m args below meth c X hnm hZ
  have hA : ∀ q, s.heap.size ≤ q → (va_A (m_w cI cZ ad M) s.heap.size) q := fun _ h => Or.inr h
  refine j_iload_n X 1 dX6_isTunnel_0 rfl rfl ?_
  refine j_iconst (v := -1) X (by decide) dX6_isTunnel_1 ?_
  refine j_icmp_eq X (tgt := 24) dX6_isTunnel_2 (by decide) (fun c1 => ?_) (fun c1 => ?_)
  · exact absurd c1 (nI_m1 (by omega))
  · refine j_aload_n X 0 dX6_isTunnel_5 rfl rfl ?_
    refine j_get X 13 (C := RX6) (T := TX6) (N := 5) rfl rfl 2 (by decide) mi_X6_isTunnel_X6 RX6 mm_X6_isTunnel_9 (fun x q => q) (v := .ref (ad 14)) rfl dX6_isTunnel_6 ?_
    refine j_bipush (v := nI 8) X (by decide) dX6_isTunnel_9 ?_
    refine j_iload_n X 1 dX6_isTunnel_11 rfl rfl ?_
    refine j_imulN X 8 k dX6_isTunnel_12 ?_
    refine j_iconst (v := nI 2) X (by decide) dX6_isTunnel_13 ?_
    refine j_iadd X dX6_isTunnel_14 ?_
    refine j_top (y := nI ((8 * k) + 2)) (nI_add (8 * k) 2) ?_
    refine j_iald X 14 0 rfl rfl (8 * k + 2) rfl (by omega) (by decide) dX6_isTunnel_15 ?_
    refine j_top (y := nI 0) hc ?_
    refine j_iconst (v := nI 1) X (by decide) dX6_isTunnel_16 ?_
    refine j_icmp_ne X (tgt := 24) dX6_isTunnel_17 (by decide) (fun c9 => ?_) (fun c9 => ?_)
    · refine j_iconst (v := nI 0) X (by decide) dX6_isTunnel_24 ?_
      exact j_zret X M rfl rfl dX6_isTunnel_25 ⟨rfl, rfl⟩
    · exact absurd c9 (by decide)
end ZMN
