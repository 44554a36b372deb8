section ZMN
variable {l : Launch} {G : va_G} {K : Nat × Nat × (Nat → Int32)} {cI cZ cT cB : ClassId}
theorem mm_X6_open_9 : Cond.fieldLink RX6 9 RX6 (TX6 2).2.1 (TX6 2).2.2.1 ∈ wsX6_open := by decide +kernel
theorem mi_X6_open_X6 : ∀ w ∈ u_ws RX6 TX6 5, w ∈ wsX6_open := by decide +kernel
set_option maxRecDepth 100000 in
set_option maxHeartbeats 4000000 in
theorem m_open (ad : Nat → Nat) (M : mS) (k : Nat) (hk : k < 144) : jU l G K (j_ty cI cZ cT cB) yX6_open wsX6_open { frames := 0, cells := 0, slots := 0, locals := 0 } (m_w cI cZ ad M) [.ref (ad 9), .int (nI k)] 0 0 (fun (u : mS) => (∀ q i, q ≠ 10 → u q i = M q i) ∧ (∀ i, i < 8 * k + 2 → u 10 i = M 10 i)) (fun u => m_w cI cZ ad u) := by
  refine j_ofV (cc := cX6_open) (maxL := 3) (by decide) rfl (Nat.le_of_ble_eq_true rfl) ?_
  intro p e s m args below meth c X hnm hZ
  have hA : ∀ q, s.heap.size ≤ q → (va_A (m_w cI cZ ad M) s.heap.size) q := fun _ h => Or.inr h
  refine j_aload_n X 0 dX6_open_0 rfl rfl ?_
  refine j_get X 9 (C := RX6) (T := TX6) (N := 5) rfl rfl 2 (by decide) mi_X6_open_X6 RX6 mm_X6_open_9 (fun x q => q) (v := .ref (ad 10)) rfl dX6_open_1 ?_
  refine j_bipush (v := nI 8) X (by decide) dX6_open_4 ?_
  refine j_iload_n X 1 dX6_open_6 rfl rfl ?_
  refine j_imulN X 8 k dX6_open_7 ?_
  refine j_iconst (v := nI 2) X (by decide) dX6_open_8 ?_
  refine j_iadd X dX6_open_9 ?_
  refine j_top (y := nI ((8 * k) + 2)) (nI_add (8 * k) 2) ?_
  refine j_iconst (v := nI 1) X (by decide) dX6_open_10 ?_
  refine j_iast X 10 0 rfl rfl (8 * k + 2) rfl (by omega) (by decide) dX6_open_11 ?_
  refine j_weq (ws' := (m_w cI cZ ad (m_up M 10 (8 * k + 2) (nI 1)))) rfl ?_
  refine j_iconst (v := nI 3) X (by decide) dX6_open_12 ?_
  refine j_istore_n (lo' := [(2, .int (nI 3)), (0, .ref (ad 9)), (1, .int (nI k))]) X dX6_open_13 rfl (by decide) rfl ?_
  have L14 : ∀ (d j : Nat), j + d = 8 → 3 ≤ j → ∀ M1 : mS, (∀ q i, q ≠ 10 → M1 q i = M q i) → (∀ i, i < 8 * k + 2 → M1 10 i = M 10 i) → j_V p l e (headSpec wsX6_open { frames := 0, cells := 0, slots := 0, locals := 0 }).room s m args below meth c (MQ below (va_Qv (fun (u : mS) => (∀ q i, q ≠ 10 → u q i = M q i) ∧ (∀ i, i < 8 * k + 2 → u 10 i = M 10 i)) (j_B G (va_A (m_w cI cZ ad M) s.heap.size) (fun u => m_w cI cZ ad u)) (va_A (m_w cI cZ ad M) s.heap.size)) args s 0 0 (va_A (m_w cI cZ ad M) s.heap.size)) G 3 (va_A (m_w cI cZ ad M) s.heap.size) 0 0 (m_w cI cZ ad M1) 14 [(2, .int (nI j)), (0, .ref (ad 9)), (1, .int (nI k))] [] := by
    intro d
    induction d with
    | zero =>
      intro j hj h3 M1 h1 h2
      refine j_iload_n X 0 dX6_open_14 rfl rfl ?_
      refine j_bipush (v := nI 8) X (by decide) dX6_open_15 ?_
      refine j_ncmp_ge X j 8 rfl rfl (by omega) (by omega) (tgt := 38) dX6_open_17 (by decide) (fun c1 => ?_) (fun c1 => ?_)
      · exact j_vret X M1 rfl dX6_open_38 ⟨h1, h2⟩
      · exact absurd c1 (by omega)
    | succ d ih =>
      intro j hj h3 M1 h1 h2
      refine j_iload_n X 0 dX6_open_14 rfl rfl ?_
      refine j_bipush (v := nI 8) X (by decide) dX6_open_15 ?_
      refine j_ncmp_ge X j 8 rfl rfl (by omega) (by omega) (tgt := 38) dX6_open_17 (by decide) (fun c1 => ?_) (fun c1 => ?_)
      · exact absurd c1 (by omega)
      · refine j_aload_n X 1 dX6_open_20 rfl rfl ?_
        refine j_get X 9 (C := RX6) (T := TX6) (N := 5) rfl rfl 2 (by decide) mi_X6_open_X6 RX6 mm_X6_open_9 (fun x q => q) (v := .ref (ad 10)) rfl dX6_open_21 ?_
        refine j_bipush (v := nI 8) X (by decide) dX6_open_24 ?_
        refine j_iload_n X 2 dX6_open_26 rfl rfl ?_
        refine j_imulN X 8 k dX6_open_27 ?_
        refine j_iload_n X 0 dX6_open_28 rfl rfl ?_
        refine j_iadd X dX6_open_29 ?_
        refine j_top (y := nI ((8 * k) + j)) (nI_add (8 * k) j) ?_
        refine j_iconst (v := nI 0) X (by decide) dX6_open_30 ?_
        refine j_iast X 10 0 rfl rfl (8 * k + j) rfl (by omega) (by decide) dX6_open_31 ?_
        refine j_weq (ws' := (m_w cI cZ ad (m_up M1 10 (8 * k + j) (nI 0)))) rfl ?_
        refine j_iinc (v := nI (j + 1)) (lo' := [(2, .int (nI (j + 1))), (0, .ref (ad 9)), (1, .int (nI k))]) X 0 dX6_open_32 rfl ((congrArg (nI j + ·) (show Int32.ofInt 1 = nI 1 by decide)).trans (nI_add j 1)) (by decide) rfl ?_
        refine j_goto X (tgt := 14) dX6_open_35 (by decide) ?_
        refine j_lo [0, 1, 2] (lo' := [(2, .int (nI (j + 1))), (0, .ref (ad 9)), (1, .int (nI k))]) rfl ?_
        exact ih (j + 1) (by omega) (by omega) (m_up M1 10 (8 * k + j) (nI 0)) (fun q i hq => by unfold m_up; rw [if_neg hq]; exact h1 q i hq) (fun i hi => by unfold m_up; rw [if_pos rfl]; unfold upd; rw [if_neg (by omega)]; exact h2 i hi)
  refine j_lo [0, 1, 2] (lo' := [(2, .int (nI 3)), (0, .ref (ad 9)), (1, .int (nI k))]) rfl ?_
  exact L14 5 3 (by omega) (by omega) (m_up M 10 (8 * k + 2) (nI 1)) (fun q i hq => by unfold m_up; rw [if_neg hq]) (fun i hi => by unfold m_up; rw [if_pos rfl]; unfold upd; rw [if_neg (by omega)])
theorem mm_X6_become_21 : Cond.fieldLink RX6 21 RX6 (TX6 0).2.1 (TX6 0).2.2.1 ∈ wsX6_become := by decide +kernel
theorem mi_X6_become_X6 : ∀ w ∈ u_ws RX6 TX6 5, w ∈ wsX6_become := by decide +kernel
theorem mm_X6_become_25 : Cond.fieldLink RX6 25 RX6 (TX6 1).2.1 (TX6 1).2.2.1 ∈ wsX6_become := by decide +kernel
theorem mm_X6_become_9 : Cond.fieldLink RX6 9 RX6 (TX6 2).2.1 (TX6 2).2.2.1 ∈ wsX6_become := by decide +kernel
theorem mm_X6_become_acl : Cond.methodLink RX6 28 arraycopyName ∈ wsX6_become := by decide +kernel
theorem mm_X6_become_acn : Cond.native arraycopyName ∈ wsX6_become := by decide +kernel
theorem mm_X6_become_acs : Cond.static arraycopyName ∈ wsX6_become := by decide +kernel
theorem mm_X6_become_aci : Cond.initialized "java/lang/System" ∈ wsX6_become := by decide +kernel
theorem mm_X6_become_15 : Cond.fieldLink RX6 15 RX6 (TX6 3).2.1 (TX6 3).2.2.1 ∈ wsX6_become := by decide +kernel
theorem mm_X6_become_18 : Cond.fieldLink RX6 18 RX6 (TX6 4).2.1 (TX6 4).2.2.1 ∈ wsX6_become := by decide +kernel
set_option maxRecDepth 100000 in
set_option maxHeartbeats 4000000 in
theorem m_become (ad : Nat → Nat) (M : mS) (hM : mfr M) : jU l G K (j_ty cI cZ cT cB) yX6_become wsX6_become { frames := 1, cells := 0, slots := 0, locals := 60 } (m_w cI cZ ad M) [.ref (ad 13), .ref (ad 9)] 0 0 (fun (u : mS) => u 0 3 = M 0 3 ∧ u 9 1 = M 9 1 ∧ (∀ j, j < 1152 → u 14 j = fz j) ∧ u 13 1 = nI 0 ∧ u 0 0 = M 0 0) (fun u => m_w cI cZ ad u) := by
  refine j_ofV (cc := cX6_become) (maxL := 2) (by decide) rfl (Nat.le_of_ble_eq_true rfl) ?_
  intro p e s m args below meth c X hnm hZ
  have hA : ∀ q, s.heap.size ≤ q → (va_A (m_w cI cZ ad M) s.heap.size) q := fun _ h => Or.inr h
  refine j_aload_n X 0 dX6_become_0 rfl rfl ?_
  refine j_aload_n X 1 dX6_become_1 rfl rfl ?_
  refine j_get X 9 (C := RX6) (T := TX6) (N := 5) rfl rfl 0 (by decide) mi_X6_become_X6 RX6 mm_X6_become_21 (fun x q => q) (v := .int (M 9 0)) rfl dX6_become_2 ?_
  refine j_put X 13 (C := RX6) (T := TX6) (N := 5) rfl rfl 0 (by decide) mi_X6_become_X6 RX6 mm_X6_become_21 (fun x q => q) tyX6_ok nmX6 rfl (ty := .int) (v := .int (M 9 0)) (by decide +kernel) rfl rfl (Nat.le_of_ble_eq_true rfl) dX6_become_5 ?_
  refine j_weq (ws' := (m_w cI cZ ad (m_up M 13 0 (M 9 0)))) rfl ?_
  refine j_aload_n X 0 dX6_become_8 rfl rfl ?_
  refine j_aload_n X 1 dX6_become_9 rfl rfl ?_
  refine j_get X 9 (C := RX6) (T := TX6) (N := 5) rfl rfl 1 (by decide) mi_X6_become_X6 RX6 mm_X6_become_25 (fun x q => q) (v := .int ((m_up M 13 0 (M 9 0)) 9 1)) rfl dX6_become_10 ?_
  refine j_put X 13 (C := RX6) (T := TX6) (N := 5) rfl rfl 1 (by decide) mi_X6_become_X6 RX6 mm_X6_become_25 (fun x q => q) tyX6_ok nmX6 rfl (ty := .int) (v := .int ((m_up M 13 0 (M 9 0)) 9 1)) (by decide +kernel) rfl rfl (Nat.le_of_ble_eq_true rfl) dX6_become_13 ?_
  refine j_weq (ws' := (m_w cI cZ ad (m_up (m_up M 13 0 (M 9 0)) 13 1 ((m_up M 13 0 (M 9 0)) 9 1)))) rfl ?_
  refine j_aload_n X 1 dX6_become_16 rfl rfl ?_
  refine j_get X 9 (C := RX6) (T := TX6) (N := 5) rfl rfl 2 (by decide) mi_X6_become_X6 RX6 mm_X6_become_9 (fun x q => q) (v := .ref (ad 10)) rfl dX6_become_17 ?_
  refine j_iconst (v := nI 0) X (by decide) dX6_become_20 ?_
  refine j_aload_n X 0 dX6_become_21 rfl rfl ?_
  refine j_get X 13 (C := RX6) (T := TX6) (N := 5) rfl rfl 2 (by decide) mi_X6_become_X6 RX6 mm_X6_become_9 (fun x q => q) (v := .ref (ad 14)) rfl dX6_become_22 ?_
  refine j_iconst (v := nI 0) X (by decide) dX6_become_25 ?_
  refine j_aload_n X 0 dX6_become_26 rfl rfl ?_
  refine j_get X 13 (C := RX6) (T := TX6) (N := 5) rfl rfl 2 (by decide) mi_X6_become_X6 RX6 mm_X6_become_9 (fun x q => q) (v := .ref (ad 14)) rfl dX6_become_27 ?_
  refine j_alen X 14 0 rfl rfl (v := nI 1152) rfl dX6_become_30 ?_
  refine j_copyI X 10 14 0 (N := 1152) rfl rfl rfl rfl (by decide) mm_X6_become_acl mm_X6_become_acn mm_X6_become_acs mm_X6_become_aci (Nat.le_of_ble_eq_true rfl) (Nat.le_of_ble_eq_true rfl) dX6_become_31 ?_
  refine j_weq (ws' := (m_w cI cZ ad ((fun k9 => if k9 = 14 then va_cpy ((m_up (m_up M 13 0 (M 9 0)) 13 1 ((m_up M 13 0 (M 9 0)) 9 1)) 10) ((m_up (m_up M 13 0 (M 9 0)) 13 1 ((m_up M 13 0 (M 9 0)) 9 1)) 14) 0 0 1152 else (m_up (m_up M 13 0 (M 9 0)) 13 1 ((m_up M 13 0 (M 9 0)) 9 1)) k9)))) rfl ?_
  refine j_aload_n X 1 dX6_become_34 rfl rfl ?_
  refine j_get X 9 (C := RX6) (T := TX6) (N := 5) rfl rfl 3 (by decide) mi_X6_become_X6 RX6 mm_X6_become_15 (fun x q => q) (v := .ref (ad 11)) rfl dX6_become_35 ?_
  refine j_iconst (v := nI 0) X (by decide) dX6_become_38 ?_
  refine j_aload_n X 0 dX6_become_39 rfl rfl ?_
  refine j_get X 13 (C := RX6) (T := TX6) (N := 5) rfl rfl 3 (by decide) mi_X6_become_X6 RX6 mm_X6_become_15 (fun x q => q) (v := .ref (ad 15)) rfl dX6_become_40 ?_
  refine j_iconst (v := nI 0) X (by decide) dX6_become_43 ?_
  refine j_aload_n X 0 dX6_become_44 rfl rfl ?_
  refine j_get X 13 (C := RX6) (T := TX6) (N := 5) rfl rfl 3 (by decide) mi_X6_become_X6 RX6 mm_X6_become_15 (fun x q => q) (v := .ref (ad 15)) rfl dX6_become_45 ?_
  refine j_alen X 15 0 rfl rfl (v := nI 80) rfl dX6_become_48 ?_
  refine j_copyI X 11 15 0 (N := 80) rfl rfl rfl rfl (by decide) mm_X6_become_acl mm_X6_become_acn mm_X6_become_acs mm_X6_become_aci (Nat.le_of_ble_eq_true rfl) (Nat.le_of_ble_eq_true rfl) dX6_become_49 ?_
  refine j_weq (ws' := (m_w cI cZ ad ((fun k9 => if k9 = 15 then va_cpy (((fun k9 => if k9 = 14 then va_cpy ((m_up (m_up M 13 0 (M 9 0)) 13 1 ((m_up M 13 0 (M 9 0)) 9 1)) 10) ((m_up (m_up M 13 0 (M 9 0)) 13 1 ((m_up M 13 0 (M 9 0)) 9 1)) 14) 0 0 1152 else (m_up (m_up M 13 0 (M 9 0)) 13 1 ((m_up M 13 0 (M 9 0)) 9 1)) k9)) 11) (((fun k9 => if k9 = 14 then va_cpy ((m_up (m_up M 13 0 (M 9 0)) 13 1 ((m_up M 13 0 (M 9 0)) 9 1)) 10) ((m_up (m_up M 13 0 (M 9 0)) 13 1 ((m_up M 13 0 (M 9 0)) 9 1)) 14) 0 0 1152 else (m_up (m_up M 13 0 (M 9 0)) 13 1 ((m_up M 13 0 (M 9 0)) 9 1)) k9)) 15) 0 0 80 else ((fun k9 => if k9 = 14 then va_cpy ((m_up (m_up M 13 0 (M 9 0)) 13 1 ((m_up M 13 0 (M 9 0)) 9 1)) 10) ((m_up (m_up M 13 0 (M 9 0)) 13 1 ((m_up M 13 0 (M 9 0)) 9 1)) 14) 0 0 1152 else (m_up (m_up M 13 0 (M 9 0)) 13 1 ((m_up M 13 0 (M 9 0)) 9 1)) k9)) k9)))) rfl ?_
  refine j_aload_n X 1 dX6_become_52 rfl rfl ?_
  refine j_get X 9 (C := RX6) (T := TX6) (N := 5) rfl rfl 4 (by decide) mi_X6_become_X6 RX6 mm_X6_become_18 (fun x q => q) (v := .ref (ad 12)) rfl dX6_become_53 ?_
  refine j_iconst (v := nI 0) X (by decide) dX6_become_56 ?_
  refine j_aload_n X 0 dX6_become_57 rfl rfl ?_
  refine j_get X 13 (C := RX6) (T := TX6) (N := 5) rfl rfl 4 (by decide) mi_X6_become_X6 RX6 mm_X6_become_18 (fun x q => q) (v := .ref (ad 16)) rfl dX6_become_58 ?_
  refine j_iconst (v := nI 0) X (by decide) dX6_become_61 ?_
  refine j_aload_n X 0 dX6_become_62 rfl rfl ?_
  refine j_get X 13 (C := RX6) (T := TX6) (N := 5) rfl rfl 4 (by decide) mi_X6_become_X6 RX6 mm_X6_become_18 (fun x q => q) (v := .ref (ad 16)) rfl dX6_become_63 ?_
  refine j_alen X 16 0 rfl rfl (v := nI 288) rfl dX6_become_66 ?_
  refine j_copyI X 12 16 0 (N := 288) rfl rfl rfl rfl (by decide) mm_X6_become_acl mm_X6_become_acn mm_X6_become_acs mm_X6_become_aci (Nat.le_of_ble_eq_true rfl) (Nat.le_of_ble_eq_true rfl) dX6_become_67 ?_
  refine j_weq (ws' := (m_w cI cZ ad ((fun k9 => if k9 = 16 then va_cpy (((fun k9 => if k9 = 15 then va_cpy (((fun k9 => if k9 = 14 then va_cpy ((m_up (m_up M 13 0 (M 9 0)) 13 1 ((m_up M 13 0 (M 9 0)) 9 1)) 10) ((m_up (m_up M 13 0 (M 9 0)) 13 1 ((m_up M 13 0 (M 9 0)) 9 1)) 14) 0 0 1152 else (m_up (m_up M 13 0 (M 9 0)) 13 1 ((m_up M 13 0 (M 9 0)) 9 1)) k9)) 11) (((fun k9 => if k9 = 14 then va_cpy ((m_up (m_up M 13 0 (M 9 0)) 13 1 ((m_up M 13 0 (M 9 0)) 9 1)) 10) ((m_up (m_up M 13 0 (M 9 0)) 13 1 ((m_up M 13 0 (M 9 0)) 9 1)) 14) 0 0 1152 else (m_up (m_up M 13 0 (M 9 0)) 13 1 ((m_up M 13 0 (M 9 0)) 9 1)) k9)) 15) 0 0 80 else ((fun k9 => if k9 = 14 then va_cpy ((m_up (m_up M 13 0 (M 9 0)) 13 1 ((m_up M 13 0 (M 9 0)) 9 1)) 10) ((m_up (m_up M 13 0 (M 9 0)) 13 1 ((m_up M 13 0 (M 9 0)) 9 1)) 14) 0 0 1152 else (m_up (m_up M 13 0 (M 9 0)) 13 1 ((m_up M 13 0 (M 9 0)) 9 1)) k9)) k9)) 12) (((fun k9 => if k9 = 15 then va_cpy (((fun k9 => if k9 = 14 then va_cpy ((m_up (m_up M 13 0 (M 9 0)) 13 1 ((m_up M 13 0 (M 9 0)) 9 1)) 10) ((m_up (m_up M 13 0 (M 9 0)) 13 1 ((m_up M 13 0 (M 9 0)) 9 1)) 14) 0 0 1152 else (m_up (m_up M 13 0 (M 9 0)) 13 1 ((m_up M 13 0 (M 9 0)) 9 1)) k9)) 11) (((fun k9 => if k9 = 14 then va_cpy ((m_up (m_up M 13 0 (M 9 0)) 13 1 ((m_up M 13 0 (M 9 0)) 9 1)) 10) ((m_up (m_up M 13 0 (M 9 0)) 13 1 ((m_up M 13 0 (M 9 0)) 9 1)) 14) 0 0 1152 else (m_up (m_up M 13 0 (M 9 0)) 13 1 ((m_up M 13 0 (M 9 0)) 9 1)) k9)) 15) 0 0 80 else ((fun k9 => if k9 = 14 then va_cpy ((m_up (m_up M 13 0 (M 9 0)) 13 1 ((m_up M 13 0 (M 9 0)) 9 1)) 10) ((m_up (m_up M 13 0 (M 9 0)) 13 1 ((m_up M 13 0 (M 9 0)) 9 1)) 14) 0 0 1152 else (m_up (m_up M 13 0 (M 9 0)) 13 1 ((m_up M 13 0 (M 9 0)) 9 1)) k9)) k9)) 16) 0 0 288 else ((fun k9 => if k9 = 15 then va_cpy (((fun k9 => if k9 = 14 then va_cpy ((m_up (m_up M 13 0 (M 9 0)) 13 1 ((m_up M 13 0 (M 9 0)) 9 1)) 10) ((m_up (m_up M 13 0 (M 9 0)) 13 1 ((m_up M 13 0 (M 9 0)) 9 1)) 14) 0 0 1152 else (m_up (m_up M 13 0 (M 9 0)) 13 1 ((m_up M 13 0 (M 9 0)) 9 1)) k9)) 11) (((fun k9 => if k9 = 14 then va_cpy ((m_up (m_up M 13 0 (M 9 0)) 13 1 ((m_up M 13 0 (M 9 0)) 9 1)) 10) ((m_up (m_up M 13 0 (M 9 0)) 13 1 ((m_up M 13 0 (M 9 0)) 9 1)) 14) 0 0 1152 else (m_up (m_up M 13 0 (M 9 0)) 13 1 ((m_up M 13 0 (M 9 0)) 9 1)) k9)) 15) 0 0 80 else ((fun k9 => if k9 = 14 then va_cpy ((m_up (m_up M 13 0 (M 9 0)) 13 1 ((m_up M 13 0 (M 9 0)) 9 1)) 10) ((m_up (m_up M 13 0 (M 9 0)) 13 1 ((m_up M 13 0 (M 9 0)) 9 1)) 14) 0 0 1152 else (m_up (m_up M 13 0 (M 9 0)) 13 1 ((m_up M 13 0 (M 9 0)) 9 1)) k9)) k9)) k9)))) rfl ?_
  exact j_vret X ((fun k9 => if k9 = 16 then va_cpy (((fun k9 => if k9 = 15 then va_cpy (((fun k9 => if k9 = 14 then va_cpy ((m_up (m_up M 13 0 (M 9 0)) 13 1 ((m_up M 13 0 (M 9 0)) 9 1)) 10) ((m_up (m_up M 13 0 (M 9 0)) 13 1 ((m_up M 13 0 (M 9 0)) 9 1)) 14) 0 0 1152 else (m_up (m_up M 13 0 (M 9 0)) 13 1 ((m_up M 13 0 (M 9 0)) 9 1)) k9)) 11) (((fun k9 => if k9 = 14 then va_cpy ((m_up (m_up M 13 0 (M 9 0)) 13 1 ((m_up M 13 0 (M 9 0)) 9 1)) 10) ((m_up (m_up M 13 0 (M 9 0)) 13 1 ((m_up M 13 0 (M 9 0)) 9 1)) 14) 0 0 1152 else (m_up (m_up M 13 0 (M 9 0)) 13 1 ((m_up M 13 0 (M 9 0)) 9 1)) k9)) 15) 0 0 80 else ((fun k9 => if k9 = 14 then va_cpy ((m_up (m_up M 13 0 (M 9 0)) 13 1 ((m_up M 13 0 (M 9 0)) 9 1)) 10) ((m_up (m_up M 13 0 (M 9 0)) 13 1 ((m_up M 13 0 (M 9 0)) 9 1)) 14) 0 0 1152 else (m_up (m_up M 13 0 (M 9 0)) 13 1 ((m_up M 13 0 (M 9 0)) 9 1)) k9)) k9)) 12) (((fun k9 => if k9 = 15 then va_cpy (((fun k9 => if k9 = 14 then va_cpy ((m_up (m_up M 13 0 (M 9 0)) 13 1 ((m_up M 13 0 (M 9 0)) 9 1)) 10) ((m_up (m_up M 13 0 (M 9 0)) 13 1 ((m_up M 13 0 (M 9 0)) 9 1)) 14) 0 0 1152 else (m_up (m_up M 13 0 (M 9 0)) 13 1 ((m_up M 13 0 (M 9 0)) 9 1)) k9)) 11) (((fun k9 => if k9 = 14 then va_cpy ((m_up (m_up M 13 0 (M 9 0)) 13 1 ((m_up M 13 0 (M 9 0)) 9 1)) 10) ((m_up (m_up M 13 0 (M 9 0)) 13 1 ((m_up M 13 0 (M 9 0)) 9 1)) 14) 0 0 1152 else (m_up (m_up M 13 0 (M 9 0)) 13 1 ((m_up M 13 0 (M 9 0)) 9 1)) k9)) 15) 0 0 80 else ((fun k9 => if k9 = 14 then va_cpy ((m_up (m_up M 13 0 (M 9 0)) 13 1 ((m_up M 13 0 (M 9 0)) 9 1)) 10) ((m_up (m_up M 13 0 (M 9 0)) 13 1 ((m_up M 13 0 (M 9 0)) 9 1)) 14) 0 0 1152 else (m_up (m_up M 13 0 (M 9 0)) 13 1 ((m_up M 13 0 (M 9 0)) 9 1)) k9)) k9)) 16) 0 0 288 else ((fun k9 => if k9 = 15 then va_cpy (((fun k9 => if k9 = 14 then va_cpy ((m_up (m_up M 13 0 (M 9 0)) 13 1 ((m_up M 13 0 (M 9 0)) 9 1)) 10) ((m_up (m_up M 13 0 (M 9 0)) 13 1 ((m_up M 13 0 (M 9 0)) 9 1)) 14) 0 0 1152 else (m_up (m_up M 13 0 (M 9 0)) 13 1 ((m_up M 13 0 (M 9 0)) 9 1)) k9)) 11) (((fun k9 => if k9 = 14 then va_cpy ((m_up (m_up M 13 0 (M 9 0)) 13 1 ((m_up M 13 0 (M 9 0)) 9 1)) 10) ((m_up (m_up M 13 0 (M 9 0)) 13 1 ((m_up M 13 0 (M 9 0)) 9 1)) 14) 0 0 1152 else (m_up (m_up M 13 0 (M 9 0)) 13 1 ((m_up M 13 0 (M 9 0)) 9 1)) k9)) 15) 0 0 80 else ((fun k9 => if k9 = 14 then va_cpy ((m_up (m_up M 13 0 (M 9 0)) 13 1 ((m_up M 13 0 (M 9 0)) 9 1)) 10) ((m_up (m_up M 13 0 (M 9 0)) 13 1 ((m_up M 13 0 (M 9 0)) 9 1)) 14) 0 0 1152 else (m_up (m_up M 13 0 (M 9 0)) 13 1 ((m_up M 13 0 (M 9 0)) 9 1)) k9)) k9)) k9)) rfl dX6_become_70 ⟨rfl, rfl, fun j hj => (cpy_at _ _ 1152 j hj).trans (hM.2.1 j hj), hM.2.2.2, rfl⟩
theorem mm_X7_trim_48 : Cond.fieldLink RX7 48 RX7 (TX7 0).2.1 (TX7 0).2.2.1 ∈ wsX7_trim := by decide +kernel
theorem mi_X7_trim_X7 : ∀ w ∈ u_ws RX7 TX7 14, w ∈ wsX7_trim := by decide +kernel
theorem mm_X7_trim_69 : Cond.fieldLink RX7 69 RX7 (TX7 2).2.1 (TX7 2).2.2.1 ∈ wsX7_trim := by decide +kernel
set_option maxRecDepth 100000 in
set_option maxHeartbeats 4000000 in
theorem m_trim (ad : Nat → Nat) (M : mS) (hM : mfr M) (n : Int32) : jI l G K (j_ty cI cZ cT cB) yX7_trim wsX7_trim { frames := 1, cells := 0, slots := 0, locals := 22 } (m_w cI cZ ad M) [.ref (ad 0), .int n] 0 0 (fun r (u : mS) => r = nI 0 ∧ u 0 0 = if n = 0 then nI 0 else nI 1) (fun u => m_w cI cZ ad u) := by
  refine j_ofI (cc := cX7_trim) (maxL := 2) (by decide) rfl (Nat.le_of_ble_eq_true rfl) ?_
  intro p e s m args below meth c X hnm hZ
  have hA : ∀ q, s.heap.size ≤ q → (va_A (m_w cI cZ ad M) s.heap.size) q := fun _ h => Or.inr h
  refine j_aload_n X 0 dX7_trim_0 rfl rfl ?_
  refine j_iconst (v := nI 0) X (by decide) dX7_trim_1 ?_
  refine j_put X 0 (C := RX7) (T := TX7) (N := 14) rfl rfl 0 (by decide) mi_X7_trim_X7 RX7 mm_X7_trim_48 (fun x q => q) tyX7_ok nmX7 rfl (ty := .int) (v := .int (nI 0)) (by decide +kernel) rfl rfl (Nat.le_of_ble_eq_true rfl) dX7_trim_2 ?_
  refine j_weq (ws' := (m_w cI cZ ad (m_up M 0 0 (nI 0)))) rfl ?_
  refine j_iload_n X 1 dX7_trim_5 rfl rfl ?_
  refine j_iconst (v := nI 0) X (by decide) dX7_trim_6 ?_
  refine j_aload_n X 0 dX7_trim_7 rfl rfl ?_
  refine j_get X 0 (C := RX7) (T := TX7) (N := 14) rfl rfl 2 (by decide) mi_X7_trim_X7 RX7 mm_X7_trim_69 (fun x q => q) (v := .int ((m_up M 0 0 (nI 0)) 0 1)) rfl dX7_trim_8 ?_
  refine j_top (y := nI 0) (hM.1.1) ?_
  refine p_callSI X hA hZ (rest := []) [] (m_w cI cZ ad (m_up M 0 0 (nI 0))) (fun _ => (m_w cI cZ ad (m_up M 0 0 (nI 0)))) (List.Perm.refl _) (fun _ => nil_perm (m_w cI cZ ad (m_up M 0 0 (nI 0)))) [.int n, .int (nI 0), .int (nI 0)] (m_isIn n (nI 0) (nI 0)) 3 rfl gX7_trim_X7_isIn rfl ⟨rfl, rfl⟩ mh_X7_isIn_P ⟨Nat.le_of_ble_eq_true rfl, Nat.le_of_ble_eq_true rfl⟩ rfl (Nat.le_of_ble_eq_true rfl) ⟨by show 0 + 0 ≤ 0; omega, by show 0 + 0 ≤ 0; omega⟩ dX7_trim_11 (fun r9 u9 h9 => ?_)
  replace h9 := h9.symm
  subst h9
  refine j_if_ne X (tgt := 23) dX7_trim_14 (by decide) (fun c1 => ?_) (fun c1 => ?_)
  · have hq : n = 0 := Decidable.byContradiction fun q => c1 (in_n (fun g => q (eq_zero g.1 g.2)))
    refine j_aload_n X 0 dX7_trim_23 rfl rfl ?_
    refine j_iload_n X 1 dX7_trim_24 rfl rfl ?_
    refine j_put X 0 (C := RX7) (T := TX7) (N := 14) rfl rfl 2 (by decide) mi_X7_trim_X7 RX7 mm_X7_trim_69 (fun x q => q) tyX7_ok nmX7 rfl (ty := .int) (v := .int n) (by decide +kernel) rfl rfl (Nat.le_of_ble_eq_true rfl) dX7_trim_25 ?_
    refine j_weq (ws' := (m_w cI cZ ad (m_up (m_up M 0 0 (nI 0)) 0 1 n))) rfl ?_
    refine j_iload_n X 1 dX7_trim_28 rfl rfl ?_
    exact j_iret X (m_up (m_up M 0 0 (nI 0)) 0 1 n) rfl dX7_trim_29 ⟨hq, (by rw [if_pos hq]; rfl)⟩
  · refine j_aload_n X 0 dX7_trim_17 rfl rfl ?_
    refine j_iconst (v := nI 1) X (by decide) dX7_trim_18 ?_
    have hq : ¬ n = 0 := fun q => (by rw [q] at c1; exact absurd c1 (by decide))
    refine p_callVI X hA hZ (rest := []) (m_w cI cZ ad (m_up M 0 0 (nI 0))) [] (fun u => m_w cI cZ ad u) (nil_perm _).symm (fun _ => List.Perm.refl _) [.int (nI 1)] 0 rfl rfl (m_no (cI := cI) (cZ := cZ) (cT := cT) ad (m_up M 0 0 (nI 0)) (nI 1)) 1 rfl gX7_trim_X7_no rfl ⟨rfl, rfl⟩ mh_X7_no_V ⟨Nat.le_of_ble_eq_true rfl, Nat.le_of_ble_eq_true rfl⟩ rfl (Nat.le_of_ble_eq_true rfl) ⟨by show 0 + 0 ≤ 0; omega, by show 0 + 0 ≤ 0; omega⟩ dX7_trim_19 (fun r9 u9 h9 => ?_)
    obtain ⟨h9a, h9b⟩ := h9
    replace h9a := h9a.symm
    subst h9a
    replace h9b := h9b.symm
    subst h9b
    exact j_iret X (m_up (m_up M 0 0 (nI 0)) 0 0 (nI 1)) rfl dX7_trim_22 ⟨rfl, (by rw [if_neg hq]; rfl)⟩
theorem mm_X7_fault_69 : Cond.fieldLink RX7 69 RX7 (TX7 2).2.1 (TX7 2).2.2.1 ∈ wsX7_fault := by decide +kernel
theorem mi_X7_fault_X7 : ∀ w ∈ u_ws RX7 TX7 14, w ∈ wsX7_fault := by decide +kernel
set_option maxRecDepth 100000 in
set_option maxHeartbeats 4000000 in
theorem m_fault (ad : Nat → Nat) (M : mS) (hM : mfr M) : jI l G K (j_ty cI cZ cT cB) yX7_fault wsX7_fault { frames := 1, cells := 0, slots := 0, locals := 20 } (m_w cI cZ ad M) [.ref (ad 0)] 0 0 (fun r (u : mS) => r = nI 0 ∧ u = M) (fun u => m_w cI cZ ad u) := by
  refine j_ofI (cc := cX7_fault) (maxL := 3) (by decide) rfl (Nat.le_of_ble_eq_true rfl) ?_
  intro p e s m args below meth c X hnm hZ
  have hA : ∀ q, s.heap.size ≤ q → (va_A (m_w cI cZ ad M) s.heap.size) q := fun _ h => Or.inr h
  refine j_iconst (v := nI 0) X (by decide) dX7_fault_0 ?_
  refine j_istore_n (lo' := [(1, .int (nI 0)), (0, .ref (ad 0))]) X dX7_fault_1 rfl (by decide) rfl ?_
  refine j_iload_n X 0 dX7_fault_2 rfl rfl ?_
  refine j_aload_n X 1 dX7_fault_3 rfl rfl ?_
  refine j_get X 0 (C := RX7) (T := TX7) (N := 14) rfl rfl 2 (by decide) mi_X7_fault_X7 RX7 mm_X7_fault_69 (fun x q => q) (v := .int (M 0 1)) rfl dX7_fault_4 ?_
  refine j_top (y := nI 0) (hM.1.1) ?_
  refine j_ncmp_ge X 0 0 rfl rfl (by omega) (by omega) (tgt := 70) dX7_fault_7 (by decide) (fun c1 => ?_) (fun c1 => ?_)
  · refine j_aload_n X 1 dX7_fault_70 rfl rfl ?_
    refine j_get X 0 (C := RX7) (T := TX7) (N := 14) rfl rfl 2 (by decide) mi_X7_fault_X7 RX7 mm_X7_fault_69 (fun x q => q) (v := .int (M 0 1)) rfl dX7_fault_71 ?_
    refine j_top (y := nI 0) (hM.1.1) ?_
    refine j_sipush (v := nI 156) X (by decide) dX7_fault_74 ?_
    refine j_ncmp_ge X 0 156 rfl rfl (by omega) (by omega) (tgt := 87) dX7_fault_77 (by decide) (fun c2 => ?_) (fun c2 => ?_)
    · exact absurd c2 (by omega)
    · refine j_aload_n X 1 dX7_fault_80 rfl rfl ?_
      refine j_get X 0 (C := RX7) (T := TX7) (N := 14) rfl rfl 2 (by decide) mi_X7_fault_X7 RX7 mm_X7_fault_69 (fun x q => q) (v := .int (M 0 1)) rfl dX7_fault_81 ?_
      refine j_top (y := nI 0) (hM.1.1) ?_
      refine j_goto X (tgt := 88) dX7_fault_84 (by decide) ?_
      exact j_iret X M rfl dX7_fault_88 ⟨rfl, rfl⟩
  · exact absurd c1 (by omega)
theorem mm_X7_map_48 : Cond.fieldLink RX7 48 RX7 (TX7 0).2.1 (TX7 0).2.2.1 ∈ wsX7_map := by decide +kernel
theorem mi_X7_map_X7 : ∀ w ∈ u_ws RX7 TX7 14, w ∈ wsX7_map := by decide +kernel
theorem mh_X7_fault_V : yX7_fault.cls = RX7 ∧ yX7_fault.cls ≠ "java/lang/invoke/MethodHandle" ∧ yX7_fault.cls ≠ "java/lang/invoke/VarHandle" ∧ (parseMethodDescriptor yX7_fault.desc).map (fun d => d.parameters.length) = some 0 := by decide +kernel
theorem mm_X7_map_69 : Cond.fieldLink RX7 69 RX7 (TX7 2).2.1 (TX7 2).2.2.1 ∈ wsX7_map := by decide +kernel
set_option maxRecDepth 100000 in
set_option maxHeartbeats 4000000 in
theorem m_map (ad : Nat → Nat) (M : mS) (hM : mfr M) : jI l G K (j_ty cI cZ cT cB) yX7_map wsX7_map { frames := 2, cells := 0, slots := 0, locals := 42 } (m_w cI cZ ad M) [.ref (ad 0)] 0 0 (fun r (u : mS) => r = nI 0 ∧ u 0 0 = nI 0) (fun u => m_w cI cZ ad u) := by
  refine j_ofI (cc := cX7_map) (maxL := 3) (by decide) rfl (Nat.le_of_ble_eq_true rfl) ?_
  intro p e s m args below meth c X hnm hZ
  have hA : ∀ q, s.heap.size ≤ q → (va_A (m_w cI cZ ad M) s.heap.size) q := fun _ h => Or.inr h
  refine j_aload_n X 0 dX7_map_0 rfl rfl ?_
  refine j_iconst (v := nI 0) X (by decide) dX7_map_1 ?_
  refine j_put X 0 (C := RX7) (T := TX7) (N := 14) rfl rfl 0 (by decide) mi_X7_map_X7 RX7 mm_X7_map_48 (fun x q => q) tyX7_ok nmX7 rfl (ty := .int) (v := .int (nI 0)) (by decide +kernel) rfl rfl (Nat.le_of_ble_eq_true rfl) dX7_map_2 ?_
  refine j_weq (ws' := (m_w cI cZ ad (m_up M 0 0 (nI 0)))) rfl ?_
  refine j_aload_n X 0 dX7_map_5 rfl rfl ?_
  refine p_callVI X hA hZ (rest := []) (m_w cI cZ ad (m_up M 0 0 (nI 0))) [] (fun u => m_w cI cZ ad u) (nil_perm _).symm (fun _ => List.Perm.refl _) [] 0 rfl rfl (m_fault (cI := cI) (cZ := cZ) (cT := cT) ad (m_up M 0 0 (nI 0)) (by exact ⟨⟨hM.1.1, hM.1.2.1, hM.1.2.2⟩, hM.2.1, hM.2.2.1, hM.2.2.2⟩)) 0 rfl gX7_map_X7_fault rfl ⟨rfl, rfl⟩ mh_X7_fault_V ⟨Nat.le_of_ble_eq_true rfl, Nat.le_of_ble_eq_true rfl⟩ rfl (Nat.le_of_ble_eq_true rfl) ⟨by show 0 + 0 ≤ 0; omega, by show 0 + 0 ≤ 0; omega⟩ dX7_map_6 (fun r9 u9 h9 => ?_)
  obtain ⟨h9a, h9b⟩ := h9
  replace h9a := h9a.symm
  subst h9a
  replace h9b := h9b.symm
  subst h9b
  refine j_istore_n (lo' := [(1, .int (nI 0)), (0, .ref (ad 0))]) X dX7_map_9 rfl (by decide) rfl ?_
  refine j_iconst (v := nI 0) X (by decide) dX7_map_10 ?_
  refine j_istore_n (lo' := [(2, .int (nI 0)), (1, .int (nI 0)), (0, .ref (ad 0))]) X dX7_map_11 rfl (by decide) rfl ?_
  refine j_iload_n X 0 dX7_map_12 rfl rfl ?_
  refine j_sipush (v := nI 156) X (by decide) dX7_map_13 ?_
  refine j_ncmp_ge X 0 156 rfl rfl (by omega) (by omega) (tgt := 61) dX7_map_16 (by decide) (fun c1 => ?_) (fun c1 => ?_)
  · exact absurd c1 (by omega)
  · refine j_iload_n X 1 dX7_map_19 rfl rfl ?_
    refine j_iconst (v := -1) X (by decide) dX7_map_20 ?_
    refine j_icmp_ne X (tgt := 61) dX7_map_21 (by decide) (fun c2 => ?_) (fun c2 => ?_)
    · refine j_iload_n X 1 dX7_map_61 rfl rfl ?_
      refine j_iconst (v := -1) X (by decide) dX7_map_62 ?_
      refine j_icmp_ne X (tgt := 71) dX7_map_63 (by decide) (fun c3 => ?_) (fun c3 => ?_)
      · refine j_aload_n X 2 dX7_map_71 rfl rfl ?_
        refine j_iconst (v := nI 0) X (by decide) dX7_map_72 ?_
        refine j_put X 0 (C := RX7) (T := TX7) (N := 14) rfl rfl 2 (by decide) mi_X7_map_X7 RX7 mm_X7_map_69 (fun x q => q) tyX7_ok nmX7 rfl (ty := .int) (v := .int (nI 0)) (by decide +kernel) rfl rfl (Nat.le_of_ble_eq_true rfl) dX7_map_73 ?_
        refine j_weq (ws' := (m_w cI cZ ad (m_up (m_up M 0 0 (nI 0)) 0 1 (nI 0)))) rfl ?_
        refine j_iload_n X 1 dX7_map_76 rfl rfl ?_
        exact j_iret X (m_up (m_up M 0 0 (nI 0)) 0 1 (nI 0)) rfl dX7_map_77 ⟨rfl, rfl⟩
      · exact absurd c3 (by decide)
    · exact absurd c2 (by decide)
theorem mm_X7_byteAt_48 : Cond.fieldLink RX7 48 RX7 (TX7 0).2.1 (TX7 0).2.2.1 ∈ wsX7_byteAt := by decide +kernel
theorem mi_X7_byteAt_X7 : ∀ w ∈ u_ws RX7 TX7 14, w ∈ wsX7_byteAt := by decide +kernel
theorem mm_X7_byteAt_208 : Cond.fieldLink RX7 208 RX7 (TX7 4).2.1 (TX7 4).2.2.1 ∈ wsX7_byteAt := by decide +kernel
set_option maxRecDepth 100000 in
set_option maxHeartbeats 4000000 in
theorem m_byteAt (ad : Nat → Nat) (M : mS) (hM : mfr M) (x : Int32) : jI l G K (j_ty cI cZ cT cB) yX7_byteAt wsX7_byteAt { frames := 1, cells := 0, slots := 0, locals := 22 } (m_w cI cZ ad M) [.ref (ad 0), .int x] 0 0 (fun r (u : mS) => r = nI 0 ∧ u 0 0 = nI 1) (fun u => m_w cI cZ ad u) := by
  refine j_ofI (cc := cX7_byteAt) (maxL := 2) (by decide) rfl (Nat.le_of_ble_eq_true rfl) ?_
  intro p e s m args below meth c X hnm hZ
  have hA : ∀ q, s.heap.size ≤ q → (va_A (m_w cI cZ ad M) s.heap.size) q := fun _ h => Or.inr h
  refine j_aload_n X 0 dX7_byteAt_0 rfl rfl ?_
  refine j_iconst (v := nI 0) X (by decide) dX7_byteAt_1 ?_
  refine j_put X 0 (C := RX7) (T := TX7) (N := 14) rfl rfl 0 (by decide) mi_X7_byteAt_X7 RX7 mm_X7_byteAt_48 (fun x q => q) tyX7_ok nmX7 rfl (ty := .int) (v := .int (nI 0)) (by decide +kernel) rfl rfl (Nat.le_of_ble_eq_true rfl) dX7_byteAt_2 ?_
  refine j_weq (ws' := (m_w cI cZ ad (m_up M 0 0 (nI 0)))) rfl ?_
  refine j_iload_n X 1 dX7_byteAt_5 rfl rfl ?_
  refine j_iconst (v := nI 0) X (by decide) dX7_byteAt_6 ?_
  refine j_aload_n X 0 dX7_byteAt_7 rfl rfl ?_
  refine j_get X 0 (C := RX7) (T := TX7) (N := 14) rfl rfl 4 (by decide) mi_X7_byteAt_X7 RX7 mm_X7_byteAt_208 (fun x q => q) (v := .int ((m_up M 0 0 (nI 0)) 0 2)) rfl dX7_byteAt_8 ?_
  refine j_top (y := nI 0) (hM.1.2.1) ?_
  refine j_iconst (v := nI 1) X (by decide) dX7_byteAt_11 ?_
  refine j_isub X dX7_byteAt_12 ?_
  refine p_callSI X hA hZ (rest := []) [] (m_w cI cZ ad (m_up M 0 0 (nI 0))) (fun _ => (m_w cI cZ ad (m_up M 0 0 (nI 0)))) (List.Perm.refl _) (fun _ => nil_perm (m_w cI cZ ad (m_up M 0 0 (nI 0)))) [.int x, .int (nI 0), .int ((nI 0) - (nI 1))] (m_isIn x (nI 0) ((nI 0) - (nI 1))) 3 rfl gX7_byteAt_X7_isIn rfl ⟨rfl, rfl⟩ mh_X7_isIn_P ⟨Nat.le_of_ble_eq_true rfl, Nat.le_of_ble_eq_true rfl⟩ rfl (Nat.le_of_ble_eq_true rfl) ⟨by show 0 + 0 ≤ 0; omega, by show 0 + 0 ≤ 0; omega⟩ dX7_byteAt_13 (fun r9 u9 h9 => ?_)
  replace h9 := h9.symm
  subst h9
  refine j_top (y := nI 0) (in_n (fun q => q.2 (by rcases Decidable.em (nI 0 - nI 1 < x) with g | g; exact g; exact absurd (Int32.lt_of_le_of_lt (Int32.not_lt.1 g) (by decide)) q.1))) ?_
  refine j_if_eq X (tgt := 28) dX7_byteAt_16 (by decide) (fun c9 => ?_) (fun c9 => ?_)
  · refine j_aload_n X 0 dX7_byteAt_28 rfl rfl ?_
    refine j_iconst (v := nI 1) X (by decide) dX7_byteAt_29 ?_
    refine p_callVI X hA hZ (rest := []) (m_w cI cZ ad (m_up M 0 0 (nI 0))) [] (fun u => m_w cI cZ ad u) (nil_perm _).symm (fun _ => List.Perm.refl _) [.int (nI 1)] 0 rfl rfl (m_no (cI := cI) (cZ := cZ) (cT := cT) ad (m_up M 0 0 (nI 0)) (nI 1)) 1 rfl gX7_byteAt_X7_no rfl ⟨rfl, rfl⟩ mh_X7_no_V ⟨Nat.le_of_ble_eq_true rfl, Nat.le_of_ble_eq_true rfl⟩ rfl (Nat.le_of_ble_eq_true rfl) ⟨by show 0 + 0 ≤ 0; omega, by show 0 + 0 ≤ 0; omega⟩ dX7_byteAt_30 (fun r9 u9 h9 => ?_)
    obtain ⟨h9a, h9b⟩ := h9
    replace h9a := h9a.symm
    subst h9a
    replace h9b := h9b.symm
    subst h9b
    exact j_iret X (m_up (m_up M 0 0 (nI 0)) 0 0 (nI 1)) rfl dX7_byteAt_33 ⟨rfl, rfl⟩
  · exact absurd c9 (by decide)
theorem mm_X7_feed_48 : Cond.fieldLink RX7 48 RX7 (TX7 0).2.1 (TX7 0).2.2.1 ∈ wsX7_feed := by decide +kernel
theorem mi_X7_feed_X7 : ∀ w ∈ u_ws RX7 TX7 14, w ∈ wsX7_feed := by decide +kernel
theorem mm_X7_feed_69 : Cond.fieldLink RX7 69 RX7 (TX7 2).2.1 (TX7 2).2.2.1 ∈ wsX7_feed := by decide +kernel
theorem mm_X7_feed_arr : Cond.arrayClass .int ∈ wsX7_feed := by decide +kernel
theorem mm_X7_feed_9 : Cond.fieldLink RX7 9 RX7 (TX7 1).2.1 (TX7 1).2.2.1 ∈ wsX7_feed := by decide +kernel
set_option maxRecDepth 100000 in
set_option maxHeartbeats 4000000 in
theorem m_feed (ad : Nat → Nat) (M : mS) (hM : mfr M) (a b cc dd ee : Int32) : jI l G K (j_ty cI cZ cT cB) yX7_feed wsX7_feed { frames := 1, cells := 1, slots := 5, locals := 21 } (m_w cI cZ ad M) [.ref (ad 0), .int a, .int b, .int cc, .int dd, .int ee] 1 5 (fun r (u : mS) => r = nI 20 ∧ u 0 0 = nI 0) (fun u => m_w cI cZ ad u) := by
  refine j_ofI (cc := cX7_feed) (maxL := 8) (by decide) rfl (Nat.le_of_ble_eq_true rfl) ?_
  intro p e s m args below meth c X hnm hZ
  have hA : ∀ q, s.heap.size ≤ q → (va_A (m_w cI cZ ad M) s.heap.size) q := fun _ h => Or.inr h
  refine j_aload_n X 0 dX7_feed_0 rfl rfl ?_
  refine j_iconst (v := nI 0) X (by decide) dX7_feed_1 ?_
  refine j_put X 0 (C := RX7) (T := TX7) (N := 14) rfl rfl 0 (by decide) mi_X7_feed_X7 RX7 mm_X7_feed_48 (fun x q => q) tyX7_ok nmX7 rfl (ty := .int) (v := .int (nI 0)) (by decide +kernel) rfl rfl (Nat.le_of_ble_eq_true rfl) dX7_feed_2 ?_
  refine j_weq (ws' := (m_w cI cZ ad (m_up M 0 0 (nI 0)))) rfl ?_
  refine j_aload_n X 0 dX7_feed_5 rfl rfl ?_
  refine j_get X 0 (C := RX7) (T := TX7) (N := 14) rfl rfl 2 (by decide) mi_X7_feed_X7 RX7 mm_X7_feed_69 (fun x q => q) (v := .int ((m_up M 0 0 (nI 0)) 0 1)) rfl dX7_feed_6 ?_
  refine j_top (y := nI 0) (hM.1.1) ?_
  refine j_bipush (v := nI 20) X (by decide) dX7_feed_9 ?_
  refine j_iadd X dX7_feed_11 ?_
  refine j_top (y := nI (0 + 20)) (nI_add 0 20) ?_
  refine j_sipush (v := nI 200) X (by decide) dX7_feed_12 ?_
  refine j_ncmp_le X (0 + 20) 200 rfl rfl (by omega) (by omega) (tgt := 24) dX7_feed_15 (by decide) (fun c0 => ?_) (fun c0 => ?_)
  · refine j_iconst (v := nI 5) X (by decide) dX7_feed_24 ?_
    refine j_newI X hA 0 rfl mm_X7_feed_arr 5 (by decide) (by decide) (by decide) (Nat.le_of_ble_eq_true rfl) (Nat.le_of_ble_eq_true rfl) dX7_feed_25 (fun xa => ?_)
    refine j_weq (ws' := ((m_w cI cZ ad (m_up M 0 0 (nI 0))) ++ [q_ar xa cI 5 (fun _ => 0)])) rfl ?_
    refine j_dup X rfl dX7_feed_27 ?_
    refine j_iconst (v := nI 0) X (by decide) dX7_feed_28 ?_
    refine j_iload_n X 1 dX7_feed_29 rfl rfl ?_
    refine j_iast X 17 0 rfl rfl 0 rfl (by decide) (by decide) dX7_feed_30 ?_
    refine j_weq (ws' := ((m_w cI cZ ad (m_up M 0 0 (nI 0))) ++ [q_ar xa cI 5 (upd (fun _ => 0) 0 a)])) rfl ?_
    refine j_dup X rfl dX7_feed_31 ?_
    refine j_iconst (v := nI 1) X (by decide) dX7_feed_32 ?_
    refine j_iload_n X 2 dX7_feed_33 rfl rfl ?_
    refine j_iast X 17 0 rfl rfl 1 rfl (by decide) (by decide) dX7_feed_34 ?_
    refine j_weq (ws' := ((m_w cI cZ ad (m_up M 0 0 (nI 0))) ++ [q_ar xa cI 5 (upd (upd (fun _ => 0) 0 a) 1 b)])) rfl ?_
    refine j_dup X rfl dX7_feed_35 ?_
    refine j_iconst (v := nI 2) X (by decide) dX7_feed_36 ?_
    refine j_iload_n X 3 dX7_feed_37 rfl rfl ?_
    refine j_iast X 17 0 rfl rfl 2 rfl (by decide) (by decide) dX7_feed_38 ?_
    refine j_weq (ws' := ((m_w cI cZ ad (m_up M 0 0 (nI 0))) ++ [q_ar xa cI 5 (upd (upd (upd (fun _ => 0) 0 a) 1 b) 2 cc)])) rfl ?_
    refine j_dup X rfl dX7_feed_39 ?_
    refine j_iconst (v := nI 3) X (by decide) dX7_feed_40 ?_
    refine j_iload X 4 dX7_feed_41 rfl ?_
    refine j_iast X 17 0 rfl rfl 3 rfl (by decide) (by decide) dX7_feed_43 ?_
    refine j_weq (ws' := ((m_w cI cZ ad (m_up M 0 0 (nI 0))) ++ [q_ar xa cI 5 (upd (upd (upd (upd (fun _ => 0) 0 a) 1 b) 2 cc) 3 dd)])) rfl ?_
    refine j_dup X rfl dX7_feed_44 ?_
    refine j_iconst (v := nI 4) X (by decide) dX7_feed_45 ?_
    refine j_iload X 5 dX7_feed_46 rfl ?_
    refine j_iast X 17 0 rfl rfl 4 rfl (by decide) (by decide) dX7_feed_48 ?_
    refine j_weq (ws' := ((m_w cI cZ ad (m_up M 0 0 (nI 0))) ++ [q_ar xa cI 5 (upd (upd (upd (upd (upd (fun _ => 0) 0 a) 1 b) 2 cc) 3 dd) 4 ee)])) rfl ?_
    refine j_astore (lo' := [(6, .ref xa), (0, .ref (ad 0)), (1, .int a), (2, .int b), (3, .int cc), (4, .int dd), (5, .int ee)]) X dX7_feed_49 (by decide) rfl ?_
    refine j_iconst (v := nI 0) X (by decide) dX7_feed_51 ?_
    refine j_istore (lo' := [(7, .int (nI 0)), (6, .ref xa), (0, .ref (ad 0)), (1, .int a), (2, .int b), (3, .int cc), (4, .int dd), (5, .int ee)]) X dX7_feed_52 (by decide) rfl ?_
    have L54 : ∀ (d j : Nat), j + d = 20 → ∀ (M1 : mS) (fa : Nat → Int32), M1 0 1 = nI 0 → M1 0 0 = nI 0 → j_V p l e (headSpec wsX7_feed { frames := 1, cells := 1, slots := 5, locals := 21 }).room s m args below meth c (MQ below (va_Qi (fun r (u : mS) => r = nI 20 ∧ u 0 0 = nI 0) (j_B G (va_A (m_w cI cZ ad M) s.heap.size) (fun u => m_w cI cZ ad u)) (va_A (m_w cI cZ ad M) s.heap.size)) args s 1 5 (va_A (m_w cI cZ ad M) s.heap.size)) G 8 (va_A (m_w cI cZ ad M) s.heap.size) (0 + 1) (0 + 5) (m_w cI cZ ad M1 ++ [q_ar xa cI 5 fa]) 54 [(7, .int (nI j)), (6, .ref xa), (0, .ref (ad 0))] [] := by
      intro d
      induction d with
      | zero =>
        intro j hj M1 fa h1 h0
        refine j_iload X 0 dX7_feed_54 rfl ?_
        refine j_bipush (v := nI 20) X (by decide) dX7_feed_56 ?_
        refine j_ncmp_ge X j 20 rfl rfl (by omega) (by omega) (tgt := 101) dX7_feed_58 (by decide) (fun c1 => ?_) (fun c1 => ?_)
        · refine j_aload_n X 2 dX7_feed_101 rfl rfl ?_
          refine j_dup X rfl dX7_feed_102 ?_
          refine j_get X 0 (C := RX7) (T := TX7) (N := 14) rfl rfl 2 (by decide) mi_X7_feed_X7 RX7 mm_X7_feed_69 (fun x q => q) (v := .int (M1 0 1)) rfl dX7_feed_103 ?_
          refine j_top (y := nI 0) (h1) ?_
          refine j_bipush (v := nI 20) X (by decide) dX7_feed_106 ?_
          refine j_iadd X dX7_feed_108 ?_
          refine j_top (y := nI (0 + 20)) (nI_add 0 20) ?_
          refine j_put X 0 (C := RX7) (T := TX7) (N := 14) rfl rfl 2 (by decide) mi_X7_feed_X7 RX7 mm_X7_feed_69 (fun x q => q) tyX7_ok nmX7 rfl (ty := .int) (v := .int (nI (0 + 20))) (by decide +kernel) rfl rfl (Nat.le_of_ble_eq_true rfl) dX7_feed_109 ?_
          refine j_weq (ws' := ((m_w cI cZ ad (m_up M1 0 1 (nI (0 + 20)))) ++ [q_ar xa cI 5 fa])) rfl ?_
          refine j_aload_n X 2 dX7_feed_112 rfl rfl ?_
          refine j_get X 0 (C := RX7) (T := TX7) (N := 14) rfl rfl 2 (by decide) mi_X7_feed_X7 RX7 mm_X7_feed_69 (fun x q => q) (v := .int ((m_up M1 0 1 (nI (0 + 20))) 0 1)) rfl dX7_feed_113 ?_
          refine j_top (y := nI (0 + 20)) (rfl) ?_
          refine j_sublist (ws' := m_w cI cZ ad (m_up M1 0 1 (nI (0 + 20)))) (List.sublist_append_left _ _) ?_
          exact j_iret X (m_up M1 0 1 (nI (0 + 20))) rfl dX7_feed_116 ⟨rfl, h0⟩
        · exact absurd c1 (by omega)
      | succ d ih =>
        intro j hj M1 fa h1 h0
        refine j_iload X 0 dX7_feed_54 rfl ?_
        refine j_bipush (v := nI 20) X (by decide) dX7_feed_56 ?_
        refine j_ncmp_ge X j 20 rfl rfl (by omega) (by omega) (tgt := 101) dX7_feed_58 (by decide) (fun c1 => ?_) (fun c1 => ?_)
        · exact absurd c1 (by omega)
        · refine j_aload_n X 2 dX7_feed_61 rfl rfl ?_
          refine j_get X 0 (C := RX7) (T := TX7) (N := 14) rfl rfl 1 (by decide) mi_X7_feed_X7 RX7 mm_X7_feed_9 (fun x q => q) (v := .ref (ad 1)) rfl dX7_feed_62 ?_
          refine j_aload_n X 2 dX7_feed_65 rfl rfl ?_
          refine j_get X 0 (C := RX7) (T := TX7) (N := 14) rfl rfl 2 (by decide) mi_X7_feed_X7 RX7 mm_X7_feed_69 (fun x q => q) (v := .int (M1 0 1)) rfl dX7_feed_66 ?_
          refine j_top (y := nI 0) (h1) ?_
          refine j_iload X 0 dX7_feed_69 rfl ?_
          refine j_iadd X dX7_feed_71 ?_
          refine j_top (y := nI (0 + j)) (nI_add 0 j) ?_
          refine j_aload X 1 dX7_feed_72 rfl ?_
          refine j_iload X 0 dX7_feed_74 rfl ?_
          refine j_iconst (v := nI 4) X (by decide) dX7_feed_76 ?_
          refine j_idiv X (by decide) dX7_feed_77 ?_
          refine j_top (y := nI (j / 4)) (pk_div (a := j) (d := 4) (by omega) (by decide) (by decide)) ?_
          refine j_iald X 17 0 (n := 5) (f := fa) (cA := cI) rfl rfl (j / 4) rfl (by omega) (by decide) dX7_feed_78 ?_
          refine j_bipush (v := nI 24) X (by decide) dX7_feed_79 ?_
          refine j_bipush (v := nI 8) X (by decide) dX7_feed_81 ?_
          refine j_iload X 0 dX7_feed_83 rfl ?_
          refine j_iconst (v := nI 4) X (by decide) dX7_feed_85 ?_
          refine j_irem X (by decide) dX7_feed_86 ?_
          refine j_top (y := nI (j % 4)) (pk_rem (a := j) (d := 4) (by omega) (by decide) (by decide)) ?_
          refine j_imulN X 8 (j % 4) dX7_feed_87 ?_
          refine j_isubA X dX7_feed_88 (fun y88 => ?_)
          refine j_iushrA X dX7_feed_89 (fun y89 => ?_)
          refine j_sipush (v := nI 255) X (by decide) dX7_feed_90 ?_
          refine j_iandA X dX7_feed_93 (fun y93 => ?_)
          refine j_iast X 1 0 rfl rfl (0 + j) rfl (by omega) (by decide) dX7_feed_94 ?_
          refine j_weq (ws' := ((m_w cI cZ ad (m_up M1 1 (0 + j) y93)) ++ [q_ar xa cI 5 fa])) rfl ?_
          refine j_iinc (v := nI (j + 1)) (lo' := [(7, .int (nI (j + 1))), (6, .ref xa), (0, .ref (ad 0))]) X 0 dX7_feed_95 rfl ((congrArg (nI j + ·) (show Int32.ofInt 1 = nI 1 by decide)).trans (nI_add j 1)) (by decide) rfl ?_
          refine j_goto X (tgt := 54) dX7_feed_98 (by decide) ?_
          refine j_lo [0, 1, 2] (lo' := [(7, .int (nI (j + 1))), (6, .ref xa), (0, .ref (ad 0))]) rfl ?_
          exact ih (j + 1) (by omega) (m_up M1 1 (0 + j) y93) fa h1 h0
    refine j_lo [0, 1, 2] (lo' := [(7, .int (nI 0)), (6, .ref xa), (0, .ref (ad 0))]) rfl ?_
    exact L54 20 0 (by omega) (m_up M 0 0 (nI 0)) _ hM.1.1 rfl
  · exact absurd c0 (by omega)
theorem mm_X7_fight_56 : Cond.fieldLink RX7 56 RX7 (TX7 5).2.1 (TX7 5).2.2.1 ∈ wsX7_fight := by decide +kernel
theorem mi_X7_fight_X7 : ∀ w ∈ u_ws RX7 TX7 14, w ∈ wsX7_fight := by decide +kernel
set_option maxRecDepth 100000 in
set_option maxHeartbeats 4000000 in
theorem m_fight9 (ad : Nat → Nat) (M : mS) (h3 : M 0 3 = nI 0) : jU l G K (j_ty cI cZ cT cB) yX7_fight wsX7_fight { frames := 3, cells := 0, slots := 0, locals := 84 } (m_w cI cZ ad M) [.ref (ad 0), .ref (ad 9)] 0 0 (fun (u : mS) => u = M) (fun u => m_w cI cZ ad u) := by
  refine j_ofV (cc := cX7_fight) (maxL := 4) (by decide) rfl (Nat.le_of_ble_eq_true rfl) ?_
  intro p e s m args below meth c X hnm hZ
  have hA : ∀ q, s.heap.size ≤ q → (va_A (m_w cI cZ ad M) s.heap.size) q := fun _ h => Or.inr h
  refine j_iconst (v := nI 0) X (by decide) dX7_fight_0 ?_
  refine j_istore_n (lo' := [(2, .int (nI 0)), (0, .ref (ad 0)), (1, .ref (ad 9))]) X dX7_fight_1 rfl (by decide) rfl ?_
  refine j_iload_n X 0 dX7_fight_2 rfl rfl ?_
  refine j_aload_n X 1 dX7_fight_3 rfl rfl ?_
  refine j_get X 0 (C := RX7) (T := TX7) (N := 14) rfl rfl 5 (by decide) mi_X7_fight_X7 RX7 mm_X7_fight_56 (fun x q => q) (v := .int (M 0 3)) rfl dX7_fight_4 ?_
  refine j_top (y := nI 0) (h3) ?_
  refine j_ncmp_ge X 0 0 rfl rfl (by omega) (by omega) (tgt := 91) dX7_fight_7 (by decide) (fun c1 => ?_) (fun c1 => ?_)
  · refine j_iconst (v := nI 0) X (by decide) dX7_fight_91 ?_
    refine j_istore_n (lo' := [(2, .int (nI 0)), (0, .ref (ad 0)), (1, .ref (ad 9))]) X dX7_fight_92 rfl (by decide) rfl ?_
    refine j_iload_n X 0 dX7_fight_93 rfl rfl ?_
    refine j_aload_n X 1 dX7_fight_94 rfl rfl ?_
    refine j_get X 0 (C := RX7) (T := TX7) (N := 14) rfl rfl 5 (by decide) mi_X7_fight_X7 RX7 mm_X7_fight_56 (fun x q => q) (v := .int (M 0 3)) rfl dX7_fight_95 ?_
    refine j_top (y := nI 0) (h3) ?_
    refine j_ncmp_ge X 0 0 rfl rfl (by omega) (by omega) (tgt := 144) dX7_fight_98 (by decide) (fun c2 => ?_) (fun c2 => ?_)
    · exact j_vret X M rfl dX7_fight_144 rfl
    · exact absurd c2 (by omega)
  · exact absurd c1 (by omega)
theorem mh_X6_isTunnel_V : yX6_isTunnel.cls = RX6 ∧ yX6_isTunnel.cls ≠ "java/lang/invoke/MethodHandle" ∧ yX6_isTunnel.cls ≠ "java/lang/invoke/VarHandle" ∧ (parseMethodDescriptor yX6_isTunnel.desc).map (fun d => d.parameters.length) = some 1 := by decide +kernel
theorem mm_X7_drift_22 : Cond.fieldLink RX7 22 RX7 (TX7 8).2.1 (TX7 8).2.2.1 ∈ wsX7_drift := by decide +kernel
theorem mi_X7_drift_X7 : ∀ w ∈ u_ws RX7 TX7 14, w ∈ wsX7_drift := by decide +kernel
theorem mi_X7_drift_X6 : ∀ w ∈ u_ws RX6 TX6 5, w ∈ wsX7_drift := by decide +kernel
set_option maxRecDepth 100000 in
set_option maxHeartbeats 4000000 in
theorem m_drift9 (ad : Nat → Nat) (M : mS) (hc : ∀ j, j < 1152 → M 10 j = fz j) : jU l G K (j_ty cI cZ cT cB) yX7_drift wsX7_drift { frames := 3, cells := 0, slots := 0, locals := 66 } (m_w cI cZ ad M) [.ref (ad 0), .ref (ad 9)] 0 0 (fun (u : mS) => mk5 9 M u) (fun u => m_w cI cZ ad u) := by
  refine j_ofV (cc := cX7_drift) (maxL := 7) (by decide) rfl (Nat.le_of_ble_eq_true rfl) ?_
  intro p e s m args below meth c X hnm hZ
  have hA : ∀ q, s.heap.size ≤ q → (va_A (m_w cI cZ ad M) s.heap.size) q := fun _ h => Or.inr h
  refine j_iconst (v := nI 0) X (by decide) dX7_drift_0 ?_
  refine j_istore_n (lo' := [(2, .int (nI 0)), (0, .ref (ad 0)), (1, .ref (ad 9))]) X dX7_drift_1 rfl (by decide) rfl ?_
  have L34 : ∀ (d j : Nat), j + d = 144 → ∀ M1 : mS, mk5 9 M M1 → j_V p l e (headSpec wsX7_drift { frames := 3, cells := 0, slots := 0, locals := 66 }).room s m args below meth c (MQ below (va_Qv (fun (u : mS) => mk5 9 M u) (j_B G (va_A (m_w cI cZ ad M) s.heap.size) (fun u => m_w cI cZ ad u)) (va_A (m_w cI cZ ad M) s.heap.size)) args s 0 0 (va_A (m_w cI cZ ad M) s.heap.size)) G 7 (va_A (m_w cI cZ ad M) s.heap.size) 0 0 (m_w cI cZ ad M1) 34 [(2, .int (nI j)), (0, .ref (ad 0)), (1, .ref (ad 9))] [] := by
    intro d
    induction d with
    | zero =>
      intro j hj M1 h1
      have hc1 : ∀ i, i < 1152 → M1 10 i = fz i := fun i hi => (h1 _ _ (by decide) (by omega)).trans (hc i hi)
      refine j_iload_n X 0 dX7_drift_34 rfl rfl ?_
      refine j_sipush (v := nI 144) X (by decide) dX7_drift_35 ?_
      refine j_ncmp_ge X j 144 rfl rfl (by omega) (by omega) (tgt := 137) dX7_drift_38 (by decide) (fun c1 => ?_) (fun c1 => ?_)
      · exact j_vret X M1 rfl dX7_drift_137 h1
      · exact absurd c1 (by omega)
    | succ d ih =>
      intro j hj M1 h1
      have hc1 : ∀ i, i < 1152 → M1 10 i = fz i := fun i hi => (h1 _ _ (by decide) (by omega)).trans (hc i hi)
      refine j_iload_n X 0 dX7_drift_34 rfl rfl ?_
      refine j_sipush (v := nI 144) X (by decide) dX7_drift_35 ?_
      refine j_ncmp_ge X j 144 rfl rfl (by omega) (by omega) (tgt := 137) dX7_drift_38 (by decide) (fun c1 => ?_) (fun c1 => ?_)
      · exact absurd c1 (by omega)
      · refine j_aload_n X 2 dX7_drift_41 rfl rfl ?_
        refine j_iload_n X 0 dX7_drift_42 rfl rfl ?_
        refine p_callVI X hA hZ (rest := []) (m_w cI cZ ad M1) [] (fun u => m_w cI cZ ad u) (nil_perm _).symm (fun _ => List.Perm.refl _) [.int (nI j)] 9 rfl rfl (m_isT9 (cI := cI) (cZ := cZ) (cT := cT) ad M1 j (by omega) ((hc1 _ (by omega)).trans (fz_n j 2 (by decide) (by decide)))) 1 rfl gX7_drift_X6_isTunnel rfl ⟨rfl, rfl⟩ mh_X6_isTunnel_V ⟨Nat.le_of_ble_eq_true rfl, Nat.le_of_ble_eq_true rfl⟩ rfl (Nat.le_of_ble_eq_true rfl) ⟨by show 0 + 0 ≤ 0; omega, by show 0 + 0 ≤ 0; omega⟩ dX7_drift_43 (fun r9 u9 h9 => ?_)
        obtain ⟨h9a, h9b⟩ := h9
        replace h9a := h9a.symm
        subst h9a
        replace h9b := h9b.symm
        subst h9b
        refine j_if_ne X (tgt := 52) dX7_drift_46 (by decide) (fun c9 => ?_) (fun c9 => ?_)
        · exact absurd c9 (by decide)
        · refine j_goto X (tgt := 131) dX7_drift_49 (by decide) ?_
          refine j_iinc (v := nI (j + 1)) (lo' := [(2, .int (nI (j + 1))), (0, .ref (ad 0)), (1, .ref (ad 9))]) X 0 dX7_drift_131 rfl ((congrArg (nI j + ·) (show Int32.ofInt 1 = nI 1 by decide)).trans (nI_add j 1)) (by decide) rfl ?_
          refine j_goto X (tgt := 34) dX7_drift_134 (by decide) ?_
          refine j_lo [0, 1, 2] (lo' := [(2, .int (nI (j + 1))), (0, .ref (ad 0)), (1, .ref (ad 9))]) rfl ?_
          exact ih (j + 1) (by omega) M1 h1
  have L2 : ∀ (d j : Nat), j + d = 144 → ∀ M1 : mS, mk5 9 M M1 → j_V p l e (headSpec wsX7_drift { frames := 3, cells := 0, slots := 0, locals := 66 }).room s m args below meth c (MQ below (va_Qv (fun (u : mS) => mk5 9 M u) (j_B G (va_A (m_w cI cZ ad M) s.heap.size) (fun u => m_w cI cZ ad u)) (va_A (m_w cI cZ ad M) s.heap.size)) args s 0 0 (va_A (m_w cI cZ ad M) s.heap.size)) G 7 (va_A (m_w cI cZ ad M) s.heap.size) 0 0 (m_w cI cZ ad M1) 2 [(2, .int (nI j)), (0, .ref (ad 0)), (1, .ref (ad 9))] [] := by
    intro d
    induction d with
    | zero =>
      intro j hj M1 h1
      have hc1 : ∀ i, i < 1152 → M1 10 i = fz i := fun i hi => (h1 _ _ (by decide) (by omega)).trans (hc i hi)
      refine j_iload_n X 0 dX7_drift_2 rfl rfl ?_
      refine j_sipush (v := nI 144) X (by decide) dX7_drift_3 ?_
      refine j_ncmp_ge X j 144 rfl rfl (by omega) (by omega) (tgt := 32) dX7_drift_6 (by decide) (fun c1 => ?_) (fun c1 => ?_)
      · refine j_iconst (v := nI 0) X (by decide) dX7_drift_32 ?_
        refine j_istore_n (lo' := [(2, .int (nI 0)), (0, .ref (ad 0)), (1, .ref (ad 9))]) X dX7_drift_33 rfl (by decide) rfl ?_
        refine j_lo [0, 1, 2] (lo' := [(2, .int (nI 0)), (0, .ref (ad 0)), (1, .ref (ad 9))]) rfl ?_
        exact L34 144 0 (by omega) M1 h1
      · exact absurd c1 (by omega)
    | succ d ih =>
      intro j hj M1 h1
      have hc1 : ∀ i, i < 1152 → M1 10 i = fz i := fun i hi => (h1 _ _ (by decide) (by omega)).trans (hc i hi)
      refine j_iload_n X 0 dX7_drift_2 rfl rfl ?_
      refine j_sipush (v := nI 144) X (by decide) dX7_drift_3 ?_
      refine j_ncmp_ge X j 144 rfl rfl (by omega) (by omega) (tgt := 32) dX7_drift_6 (by decide) (fun c1 => ?_) (fun c1 => ?_)
      · exact absurd c1 (by omega)
      · refine j_aload_n X 1 dX7_drift_9 rfl rfl ?_
        refine j_get X 0 (C := RX7) (T := TX7) (N := 14) rfl rfl 8 (by decide) mi_X7_drift_X7 RX7 mm_X7_drift_22 (fun x q => q) (v := .ref (ad 5)) rfl dX7_drift_10 ?_
        refine j_iload_n X 0 dX7_drift_13 rfl rfl ?_
        refine j_aload_n X 2 dX7_drift_14 rfl rfl ?_
        refine j_getN X 9 rfl rfl 2 (by decide) mi_X7_drift_X6 (hZ.2.2.2.1.1 _ xn_2) (fun x q => q) (v := .ref (ad 10)) rfl dX7_drift_15 ?_
        refine j_bipush (v := nI 8) X (by decide) dX7_drift_18 ?_
        refine j_iload_n X 0 dX7_drift_20 rfl rfl ?_
        refine j_imulN X 8 j dX7_drift_21 ?_
        refine j_iconst (v := nI 5) X (by decide) dX7_drift_22 ?_
        refine j_iadd X dX7_drift_23 ?_
        refine j_top (y := nI ((8 * j) + 5)) (nI_add (8 * j) 5) ?_
        refine j_iald X 10 0 rfl rfl (8 * j + 5) rfl (by omega) (by decide) dX7_drift_24 ?_
        refine j_iast X 5 0 rfl rfl j rfl (by omega) (by decide) dX7_drift_25 ?_
        refine j_weq (ws' := (m_w cI cZ ad (m_up M1 5 j (M1 10 (8 * j + 5))))) rfl ?_
        refine j_iinc (v := nI (j + 1)) (lo' := [(2, .int (nI (j + 1))), (0, .ref (ad 0)), (1, .ref (ad 9))]) X 0 dX7_drift_26 rfl ((congrArg (nI j + ·) (show Int32.ofInt 1 = nI 1 by decide)).trans (nI_add j 1)) (by decide) rfl ?_
        refine j_goto X (tgt := 2) dX7_drift_29 (by decide) ?_
        refine j_lo [0, 1, 2] (lo' := [(2, .int (nI (j + 1))), (0, .ref (ad 0)), (1, .ref (ad 9))]) rfl ?_
        exact ih (j + 1) (by omega) (m_up M1 5 j (M1 10 (8 * j + 5))) (h1.was _ _)
  refine j_lo [0, 1, 2] (lo' := [(2, .int (nI 0)), (0, .ref (ad 0)), (1, .ref (ad 9))]) rfl ?_
  exact L2 144 0 (by omega) M mk5.rf
theorem mm_X7_hour_56 : Cond.fieldLink RX7 56 RX7 (TX7 5).2.1 (TX7 5).2.2.1 ∈ wsX7_hour := by decide +kernel
theorem mi_X7_hour_X7 : ∀ w ∈ u_ws RX7 TX7 14, w ∈ wsX7_hour := by decide +kernel
theorem mh_X7_fight_V : yX7_fight.cls = RX7 ∧ yX7_fight.cls ≠ "java/lang/invoke/MethodHandle" ∧ yX7_fight.cls ≠ "java/lang/invoke/VarHandle" ∧ (parseMethodDescriptor yX7_fight.desc).map (fun d => d.parameters.length) = some 1 := by decide +kernel
theorem mh_X7_drift_V : yX7_drift.cls = RX7 ∧ yX7_drift.cls ≠ "java/lang/invoke/MethodHandle" ∧ yX7_drift.cls ≠ "java/lang/invoke/VarHandle" ∧ (parseMethodDescriptor yX7_drift.desc).map (fun d => d.parameters.length) = some 1 := by decide +kernel
theorem mi_X7_hour_X6 : ∀ w ∈ u_ws RX6 TX6 5, w ∈ wsX7_hour := by decide +kernel
set_option maxRecDepth 100000 in
set_option maxHeartbeats 4000000 in
theorem m_hour9 (ad : Nat → Nat) (M : mS) (h3 : M 0 3 = nI 0) (hc : ∀ j, j < 1152 → M 10 j = fz j) : jI l G K (j_ty cI cZ cT cB) yX7_hour wsX7_hour { frames := 6, cells := 0, slots := 0, locals := 140 } (m_w cI cZ ad M) [.ref (ad 0), .ref (ad 9)] 0 0 (fun r (u : mS) => r = nI 0 ∧ mk5 9 M u) (fun u => m_w cI cZ ad u) := by
  refine j_ofI (cc := cX7_hour) (maxL := 4) (by decide) rfl (Nat.le_of_ble_eq_true rfl) ?_
  intro p e s m args below meth c X hnm hZ
  have hA : ∀ q, s.heap.size ≤ q → (va_A (m_w cI cZ ad M) s.heap.size) q := fun _ h => Or.inr h
  refine j_iconst (v := nI 0) X (by decide) dX7_hour_0 ?_
  refine j_istore_n (lo' := [(2, .int (nI 0)), (0, .ref (ad 0)), (1, .ref (ad 9))]) X dX7_hour_1 rfl (by decide) rfl ?_
  refine j_iload_n X 0 dX7_hour_2 rfl rfl ?_
  refine j_aload_n X 1 dX7_hour_3 rfl rfl ?_
  refine j_get X 0 (C := RX7) (T := TX7) (N := 14) rfl rfl 5 (by decide) mi_X7_hour_X7 RX7 mm_X7_hour_56 (fun x q => q) (v := .int (M 0 3)) rfl dX7_hour_4 ?_
  refine j_top (y := nI 0) (h3) ?_
  refine j_ncmp_ge X 0 0 rfl rfl (by omega) (by omega) (tgt := 22) dX7_hour_7 (by decide) (fun c1 => ?_) (fun c1 => ?_)
  · refine j_aload_n X 1 dX7_hour_22 rfl rfl ?_
    refine j_aload_n X 2 dX7_hour_23 rfl rfl ?_
    refine p_callVU X hA hZ (rest := []) (m_w cI cZ ad M) [] (fun u => m_w cI cZ ad u) (nil_perm _).symm (fun _ => List.Perm.refl _) [.ref (ad 9)] 0 rfl rfl (m_fight9 (cI := cI) (cZ := cZ) (cT := cT) ad M h3) 1 rfl gX7_hour_X7_fight rfl ⟨rfl, rfl⟩ mh_X7_fight_V ⟨Nat.le_of_ble_eq_true rfl, Nat.le_of_ble_eq_true rfl⟩ rfl (Nat.le_of_ble_eq_true rfl) ⟨by show 0 + 0 ≤ 0; omega, by show 0 + 0 ≤ 0; omega⟩ dX7_hour_24 (fun u9 h9 => ?_)
    replace h9 := h9.symm
    subst h9
    refine j_iconst (v := nI 0) X (by decide) dX7_hour_27 ?_
    refine j_istore_n (lo' := [(2, .int (nI 0)), (0, .ref (ad 0)), (1, .ref (ad 9))]) X dX7_hour_28 rfl (by decide) rfl ?_
    refine j_iload_n X 0 dX7_hour_29 rfl rfl ?_
    refine j_aload_n X 1 dX7_hour_30 rfl rfl ?_
    refine j_get X 0 (C := RX7) (T := TX7) (N := 14) rfl rfl 5 (by decide) mi_X7_hour_X7 RX7 mm_X7_hour_56 (fun x q => q) (v := .int (M 0 3)) rfl dX7_hour_31 ?_
    refine j_top (y := nI 0) (h3) ?_
    refine j_ncmp_ge X 0 0 rfl rfl (by omega) (by omega) (tgt := 84) dX7_hour_34 (by decide) (fun c2 => ?_) (fun c2 => ?_)
    · refine j_aload_n X 1 dX7_hour_84 rfl rfl ?_
      refine j_aload_n X 2 dX7_hour_85 rfl rfl ?_
      refine p_callVU X hA hZ (rest := []) (m_w cI cZ ad M) [] (fun u => m_w cI cZ ad u) (nil_perm _).symm (fun _ => List.Perm.refl _) [.ref (ad 9)] 0 rfl rfl (m_drift9 (cI := cI) (cZ := cZ) (cT := cT) ad M hc) 1 rfl gX7_hour_X7_drift rfl ⟨rfl, rfl⟩ mh_X7_drift_V ⟨Nat.le_of_ble_eq_true rfl, Nat.le_of_ble_eq_true rfl⟩ rfl (Nat.le_of_ble_eq_true rfl) ⟨by show 0 + 0 ≤ 0; omega, by show 0 + 0 ≤ 0; omega⟩ dX7_hour_86 (fun M1 h1 => ?_)
      have hc1 : ∀ i, i < 1152 → M1 10 i = fz i := fun i hi => (h1 _ _ (by decide) (by omega)).trans (hc i hi)
      refine j_iconst (v := nI 0) X (by decide) dX7_hour_89 ?_
      refine j_istore_n (lo' := [(2, .int (nI 0)), (0, .ref (ad 0)), (1, .ref (ad 9))]) X dX7_hour_90 rfl (by decide) rfl ?_
      refine j_iconst (v := nI 0) X (by decide) dX7_hour_91 ?_
      refine j_istore_n (lo' := [(3, .int (nI 0)), (2, .int (nI 0)), (0, .ref (ad 0)), (1, .ref (ad 9))]) X dX7_hour_92 rfl (by decide) rfl ?_
      have L93 : ∀ (d j : Nat), j + d = 144 → j_V p l e (headSpec wsX7_hour { frames := 6, cells := 0, slots := 0, locals := 140 }).room s m args below meth c (MQ below (va_Qi (fun r (u : mS) => r = nI 0 ∧ mk5 9 M u) (j_B G (va_A (m_w cI cZ ad M) s.heap.size) (fun u => m_w cI cZ ad u)) (va_A (m_w cI cZ ad M) s.heap.size)) args s 0 0 (va_A (m_w cI cZ ad M) s.heap.size)) G 4 (va_A (m_w cI cZ ad M) s.heap.size) 0 0 (m_w cI cZ ad M1) 93 [(3, .int (nI j)), (2, .int (nI 0)), (0, .ref (ad 0)), (1, .ref (ad 9))] [] := by
        intro d
        induction d with
        | zero =>
          intro j hj
          refine j_iload_n X 0 dX7_hour_93 rfl rfl ?_
          refine j_sipush (v := nI 144) X (by decide) dX7_hour_94 ?_
          refine j_ncmp_ge X j 144 rfl rfl (by omega) (by omega) (tgt := 131) dX7_hour_97 (by decide) (fun c5 => ?_) (fun c5 => ?_)
          · refine j_aload_n X 3 dX7_hour_131 rfl rfl ?_
            refine j_dup X rfl dX7_hour_132 ?_
            refine j_getN X 9 rfl rfl 0 (by decide) mi_X7_hour_X6 (hZ.2.2.2.1.1 _ xn_0) (fun x q => q) (v := .int (M1 9 0)) rfl dX7_hour_133 ?_
            refine j_iconst (v := nI 1) X (by decide) dX7_hour_136 ?_
            refine j_iadd X dX7_hour_137 ?_
            refine j_putN X 9 rfl rfl 0 (by decide) mi_X7_hour_X6 (hZ.2.2.2.1.1 _ xn_0) (fun x q => q) tyX6_ok nmX6 rfl (ty := .int) (v := .int ((M1 9 0) + (nI 1))) (by decide +kernel) rfl rfl (Nat.le_of_ble_eq_true rfl) dX7_hour_138 ?_
            refine j_weq (ws' := (m_w cI cZ ad (m_up M1 9 0 ((M1 9 0) + (nI 1))))) rfl ?_
            refine j_iload_n X 1 dX7_hour_141 rfl rfl ?_
            exact j_iret X (m_up M1 9 0 ((M1 9 0) + (nI 1))) rfl dX7_hour_142 ⟨rfl, h1.hour _⟩
          · exact absurd c5 (by omega)
        | succ d ih =>
          intro j hj
          refine j_iload_n X 0 dX7_hour_93 rfl rfl ?_
          refine j_sipush (v := nI 144) X (by decide) dX7_hour_94 ?_
          refine j_ncmp_ge X j 144 rfl rfl (by omega) (by omega) (tgt := 131) dX7_hour_97 (by decide) (fun c5 => ?_) (fun c5 => ?_)
          · exact absurd c5 (by omega)
          · refine j_aload_n X 3 dX7_hour_100 rfl rfl ?_
            refine j_iload_n X 0 dX7_hour_101 rfl rfl ?_
            refine p_callVI X hA hZ (rest := []) (m_w cI cZ ad M1) [] (fun u => m_w cI cZ ad u) (nil_perm _).symm (fun _ => List.Perm.refl _) [.int (nI j)] 9 rfl rfl (m_isT9 (cI := cI) (cZ := cZ) (cT := cT) ad M1 j (by omega) ((hc1 _ (by omega)).trans (fz_n j 2 (by decide) (by decide)))) 1 rfl gX7_hour_X6_isTunnel rfl ⟨rfl, rfl⟩ mh_X6_isTunnel_V ⟨Nat.le_of_ble_eq_true rfl, Nat.le_of_ble_eq_true rfl⟩ rfl (Nat.le_of_ble_eq_true rfl) ⟨by show 0 + 0 ≤ 0; omega, by show 0 + 0 ≤ 0; omega⟩ dX7_hour_102 (fun r9 u9 h9 => ?_)
            obtain ⟨h9a, h9b⟩ := h9
            replace h9a := h9a.symm
            subst h9a
            replace h9b := h9b.symm
            subst h9b
            refine j_if_eq X (tgt := 125) dX7_hour_105 (by decide) (fun c9 => ?_) (fun c9 => ?_)
            · refine j_iinc (v := nI (j + 1)) (lo' := [(3, .int (nI (j + 1))), (2, .int (nI 0)), (0, .ref (ad 0)), (1, .ref (ad 9))]) X 0 dX7_hour_125 rfl ((congrArg (nI j + ·) (show Int32.ofInt 1 = nI 1 by decide)).trans (nI_add j 1)) (by decide) rfl ?_
              refine j_goto X (tgt := 93) dX7_hour_128 (by decide) ?_
              refine j_lo [0, 1, 2, 3] (lo' := [(3, .int (nI (j + 1))), (2, .int (nI 0)), (0, .ref (ad 0)), (1, .ref (ad 9))]) rfl ?_
              exact ih (j + 1) (by omega)
            · exact absurd c9 (by decide)
      refine j_lo [0, 1, 2, 3] (lo' := [(3, .int (nI 0)), (2, .int (nI 0)), (0, .ref (ad 0)), (1, .ref (ad 9))]) rfl ?_
      exact L93 144 0 (by omega)
    · exact absurd c2 (by omega)
  · exact absurd c1 (by omega)
theorem mh_X7_hour_V : yX7_hour.cls = RX7 ∧ yX7_hour.cls ≠ "java/lang/invoke/MethodHandle" ∧ yX7_hour.cls ≠ "java/lang/invoke/VarHandle" ∧ (parseMethodDescriptor yX7_hour.desc).map (fun d => d.parameters.length) = some 1 := by decide +kernel
set_option maxRecDepth 100000 in
set_option maxHeartbeats 4000000 in
theorem m_hours9 (ad : Nat → Nat) (M : mS) (n : Nat) (hn : n < 1000) (h3 : M 0 3 = nI 0) (hc : ∀ j, j < 1152 → M 10 j = fz j) : jI l G K (j_ty cI cZ cT cB) yX7_hours wsX7_hours { frames := 7, cells := 0, slots := 0, locals := 163 } (m_w cI cZ ad M) [.ref (ad 0), .ref (ad 9), .int (nI n)] 0 0 (fun r (u : mS) => r = nI 0 ∧ mk5 9 M u) (fun u => m_w cI cZ ad u) := by
  refine j_ofI (cc := cX7_hours) (maxL := 5) (by decide) rfl (Nat.le_of_ble_eq_true rfl) ?_
  intro p e s m args below meth c X hnm hZ
  have hA : ∀ q, s.heap.size ≤ q → (va_A (m_w cI cZ ad M) s.heap.size) q := fun _ h => Or.inr h
  refine j_iconst (v := nI 0) X (by decide) dX7_hours_0 ?_
  refine j_istore_n (lo' := [(3, .int (nI 0)), (0, .ref (ad 0)), (1, .ref (ad 9)), (2, .int (nI n))]) X dX7_hours_1 rfl (by decide) rfl ?_
  refine j_iconst (v := nI 0) X (by decide) dX7_hours_2 ?_
  refine j_istore (lo' := [(4, .int (nI 0)), (3, .int (nI 0)), (0, .ref (ad 0)), (1, .ref (ad 9)), (2, .int (nI n))]) X dX7_hours_3 (by decide) rfl ?_
  have L5 : ∀ (d j : Nat), j + d = n → ∀ M1 : mS, mk5 9 M M1 → j_V p l e (headSpec wsX7_hours { frames := 7, cells := 0, slots := 0, locals := 163 }).room s m args below meth c (MQ below (va_Qi (fun r (u : mS) => r = nI 0 ∧ mk5 9 M u) (j_B G (va_A (m_w cI cZ ad M) s.heap.size) (fun u => m_w cI cZ ad u)) (va_A (m_w cI cZ ad M) s.heap.size)) args s 0 0 (va_A (m_w cI cZ ad M) s.heap.size)) G 5 (va_A (m_w cI cZ ad M) s.heap.size) 0 0 (m_w cI cZ ad M1) 5 [(4, .int (nI j)), (3, .int (nI 0)), (0, .ref (ad 0)), (1, .ref (ad 9)), (2, .int (nI n))] [] := by
    intro d
    induction d with
    | zero =>
      intro j hj M1 h1
      refine j_iload X 0 dX7_hours_5 rfl ?_
      refine j_iload_n X 4 dX7_hours_7 rfl rfl ?_
      refine j_ncmp_ge X j n rfl rfl (by omega) (by omega) (tgt := 25) dX7_hours_8 (by decide) (fun c1 => ?_) (fun c1 => ?_)
      · refine j_iload_n X 1 dX7_hours_25 rfl rfl ?_
        exact j_iret X M1 rfl dX7_hours_26 ⟨rfl, h1⟩
      · exact absurd c1 (by omega)
    | succ d ih =>
      intro j hj M1 h1
      refine j_iload X 0 dX7_hours_5 rfl ?_
      refine j_iload_n X 4 dX7_hours_7 rfl rfl ?_
      refine j_ncmp_ge X j n rfl rfl (by omega) (by omega) (tgt := 25) dX7_hours_8 (by decide) (fun c1 => ?_) (fun c1 => ?_)
      · exact absurd c1 (by omega)
      · refine j_iload_n X 1 dX7_hours_11 rfl rfl ?_
        refine j_aload_n X 2 dX7_hours_12 rfl rfl ?_
        refine j_aload_n X 3 dX7_hours_13 rfl rfl ?_
        refine p_callVI X hA hZ (rest := [.int (nI 0)]) (m_w cI cZ ad M1) [] (fun u => m_w cI cZ ad u) (nil_perm _).symm (fun _ => List.Perm.refl _) [.ref (ad 9)] 0 rfl rfl (m_hour9 (cI := cI) (cZ := cZ) (cT := cT) ad M1 ((h1 _ _ (by decide) (by omega)).trans h3) (fun i hi => (h1 _ _ (by decide) (by omega)).trans (hc i hi))) 1 rfl gX7_hours_X7_hour rfl ⟨rfl, rfl⟩ mh_X7_hour_V ⟨Nat.le_of_ble_eq_true rfl, Nat.le_of_ble_eq_true rfl⟩ rfl (Nat.le_of_ble_eq_true rfl) ⟨by show 0 + 0 ≤ 0; omega, by show 0 + 0 ≤ 0; omega⟩ dX7_hours_14 (fun r9 u9 h9 => ?_)
        obtain ⟨h9a, h9b⟩ := h9
        replace h9a := h9a.symm
        subst h9a
        refine j_iadd X dX7_hours_17 ?_
        refine j_top (y := nI (0 + 0)) (nI_add 0 0) ?_
        refine j_istore_n (lo' := [(3, .int (nI (0 + 0))), (4, .int (nI j)), (0, .ref (ad 0)), (1, .ref (ad 9)), (2, .int (nI n))]) X dX7_hours_18 rfl (by decide) rfl ?_
        refine j_iinc (v := nI (j + 1)) (lo' := [(4, .int (nI (j + 1))), (3, .int (nI (0 + 0))), (0, .ref (ad 0)), (1, .ref (ad 9)), (2, .int (nI n))]) X 1 dX7_hours_19 rfl ((congrArg (nI j + ·) (show Int32.ofInt 1 = nI 1 by decide)).trans (nI_add j 1)) (by decide) rfl ?_
        refine j_goto X (tgt := 5) dX7_hours_22 (by decide) ?_
        refine j_lo [0, 1, 2, 3, 4] (lo' := [(4, .int (nI (j + 1))), (3, .int (nI 0)), (0, .ref (ad 0)), (1, .ref (ad 9)), (2, .int (nI n))]) rfl ?_
        exact ih (j + 1) (by omega) u9 (h1.tr h9b)
  refine j_lo [0, 1, 2, 3, 4] (lo' := [(4, .int (nI 0)), (3, .int (nI 0)), (0, .ref (ad 0)), (1, .ref (ad 9)), (2, .int (nI n))]) rfl ?_
  exact L5 n 0 (by omega) M mk5.rf
theorem mm_X7_standing_56 : Cond.fieldLink RX7 56 RX7 (TX7 5).2.1 (TX7 5).2.2.1 ∈ wsX7_standing := by decide +kernel
theorem mi_X7_standing_X7 : ∀ w ∈ u_ws RX7 TX7 14, w ∈ wsX7_standing := by decide +kernel
set_option maxRecDepth 100000 in
set_option maxHeartbeats 4000000 in
theorem m_standing9 (ad : Nat → Nat) (M : mS) (h3 : M 0 3 = nI 0) (x : Int32) : jI l G K (j_ty cI cZ cT cB) yX7_standing wsX7_standing { frames := 1, cells := 0, slots := 0, locals := 21 } (m_w cI cZ ad M) [.ref (ad 0), .ref (ad 9), .int x] 0 0 (fun r (u : mS) => r = nI 0 ∧ u = M) (fun u => m_w cI cZ ad u) := by
  refine j_ofI (cc := cX7_standing) (maxL := 5) (by decide) rfl (Nat.le_of_ble_eq_true rfl) ?_
  intro p e s m args below meth c X hnm hZ
  have hA : ∀ q, s.heap.size ≤ q → (va_A (m_w cI cZ ad M) s.heap.size) q := fun _ h => Or.inr h
  refine j_iconst (v := nI 0) X (by decide) dX7_standing_0 ?_
  refine j_istore_n (lo' := [(3, .int (nI 0)), (0, .ref (ad 0)), (1, .ref (ad 9)), (2, .int x)]) X dX7_standing_1 rfl (by decide) rfl ?_
  refine j_iconst (v := nI 0) X (by decide) dX7_standing_2 ?_
  refine j_istore (lo' := [(4, .int (nI 0)), (3, .int (nI 0)), (0, .ref (ad 0)), (1, .ref (ad 9)), (2, .int x)]) X dX7_standing_3 (by decide) rfl ?_
  refine j_iload X 0 dX7_standing_5 rfl ?_
  refine j_aload_n X 2 dX7_standing_7 rfl rfl ?_
  refine j_get X 0 (C := RX7) (T := TX7) (N := 14) rfl rfl 5 (by decide) mi_X7_standing_X7 RX7 mm_X7_standing_56 (fun x q => q) (v := .int (M 0 3)) rfl dX7_standing_8 ?_
  refine j_top (y := nI 0) (h3) ?_
  refine j_ncmp_ge X 0 0 rfl rfl (by omega) (by omega) (tgt := 51) dX7_standing_11 (by decide) (fun c1 => ?_) (fun c1 => ?_)
  · refine j_iload_n X 1 dX7_standing_51 rfl rfl ?_
    exact j_iret X M rfl dX7_standing_52 ⟨rfl, rfl⟩
  · exact absurd c1 (by omega)
end ZMN
