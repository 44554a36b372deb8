section ZMN
variable {l : Launch} {G : va_G} {K : Nat × Nat × (Nat → Int32)} {cI cZ cT cB : ClassId}
set_option maxRecDepth 100000 in
set_option maxHeartbeats 4000000 in
theorem m_fight13 (ad : Nat → Nat) (M : mS) (h3 : M 0 3 = nI 0) : jU l G K (j_ty cI cZ cT cB) yX7_fight wsX7_fight { frames := 3, cells := 0, slots := 0, locals := 84 } (m_w cI cZ ad M) [.ref (ad 0), .ref (ad 13)] 0 0 (fun (u : mS) => u = M) (fun u => m_w cI cZ ad u) := by
  refine j_ofV (cc := cX7_fight) (maxL := 4) (by decide) rfl (Nat.le_of_ble_eq_true rfl) ?_
  intro p e s m args below meth c X hnm hZ
  have hA : ∀ q, s.heap.size ≤ q → (va_A (m_w cI cZ ad M) s.heap.size) q := fun _ h => Or.inr h
  refine j_iconst (v := nI 0) X (by decide) dX7_fight_0 ?_
  refine j_istore_n (lo' := [(2, .int (nI 0)), (0, .ref (ad 0)), (1, .ref (ad 13))]) X dX7_fight_1 rfl (by decide) rfl ?_
  refine j_iload_n X 0 dX7_fight_2 rfl rfl ?_
  refine j_aload_n X 1 dX7_fight_3 rfl rfl ?_
  refine j_get X 0 (C := RX7) (T := TX7) (N := 14) rfl rfl 5 (by decide) mi_X7_fight_X7 RX7 mm_X7_fight_56 (fun x q => q) (v := .int (M 0 3)) rfl dX7_fight_4 ?_
  refine j_top (y := nI 0) (h3) ?_
  refine j_ncmp_ge X 0 0 rfl rfl (by omega) (by omega) (tgt := 91) dX7_fight_7 (by decide) (fun c1 => ?_) (fun c1 => ?_)
  · refine j_iconst (v := nI 0) X (by decide) dX7_fight_91 ?_
    refine j_istore_n (lo' := [(2, .int (nI 0)), (0, .ref (ad 0)), (1, .ref (ad 13))]) X dX7_fight_92 rfl (by decide) rfl ?_
    refine j_iload_n X 0 dX7_fight_93 rfl rfl ?_
    refine j_aload_n X 1 dX7_fight_94 rfl rfl ?_
    refine j_get X 0 (C := RX7) (T := TX7) (N := 14) rfl rfl 5 (by decide) mi_X7_fight_X7 RX7 mm_X7_fight_56 (fun x q => q) (v := .int (M 0 3)) rfl dX7_fight_95 ?_
    refine j_top (y := nI 0) (h3) ?_
    refine j_ncmp_ge X 0 0 rfl rfl (by omega) (by omega) (tgt := 144) dX7_fight_98 (by decide) (fun c2 => ?_) (fun c2 => ?_)
    · exact j_vret X M rfl dX7_fight_144 rfl
    · exact absurd c2 (by omega)
  · exact absurd c1 (by omega)
set_option maxRecDepth 100000 in
set_option maxHeartbeats 4000000 in
theorem m_drift13 (ad : Nat → Nat) (M : mS) (hc : ∀ j, j < 1152 → M 14 j = fz j) : jU l G K (j_ty cI cZ cT cB) yX7_drift wsX7_drift { frames := 3, cells := 0, slots := 0, locals := 66 } (m_w cI cZ ad M) [.ref (ad 0), .ref (ad 13)] 0 0 (fun (u : mS) => mk5 13 M u) (fun u => m_w cI cZ ad u) := by
  refine j_ofV (cc := cX7_drift) (maxL := 7) (by decide) rfl (Nat.le_of_ble_eq_true rfl) ?_
  intro p e s m args below meth c X hnm hZ
  have hA : ∀ q, s.heap.size ≤ q → (va_A (m_w cI cZ ad M) s.heap.size) q := fun _ h => Or.inr h
  refine j_iconst (v := nI 0) X (by decide) dX7_drift_0 ?_
  refine j_istore_n (lo' := [(2, .int (nI 0)), (0, .ref (ad 0)), (1, .ref (ad 13))]) X dX7_drift_1 rfl (by decide) rfl ?_
  have L34 : ∀ (d j : Nat), j + d = 144 → ∀ M1 : mS, mk5 13 M M1 → j_V p l e (headSpec wsX7_drift { frames := 3, cells := 0, slots := 0, locals := 66 }).room s m args below meth c (MQ below (va_Qv (fun (u : mS) => mk5 13 M u) (j_B G (va_A (m_w cI cZ ad M) s.heap.size) (fun u => m_w cI cZ ad u)) (va_A (m_w cI cZ ad M) s.heap.size)) args s 0 0 (va_A (m_w cI cZ ad M) s.heap.size)) G 7 (va_A (m_w cI cZ ad M) s.heap.size) 0 0 (m_w cI cZ ad M1) 34 [(2, .int (nI j)), (0, .ref (ad 0)), (1, .ref (ad 13))] [] := by
    intro d
    induction d with
    | zero =>
      intro j hj M1 h1
      have hc1 : ∀ i, i < 1152 → M1 14 i = fz i := fun i hi => (h1 _ _ (by decide) (by omega)).trans (hc i hi)
      refine j_iload_n X 0 dX7_drift_34 rfl rfl ?_
      refine j_sipush (v := nI 144) X (by decide) dX7_drift_35 ?_
      refine j_ncmp_ge X j 144 rfl rfl (by omega) (by omega) (tgt := 137) dX7_drift_38 (by decide) (fun c1 => ?_) (fun c1 => ?_)
      · exact j_vret X M1 rfl dX7_drift_137 h1
      · exact absurd c1 (by omega)
    | succ d ih =>
      intro j hj M1 h1
      have hc1 : ∀ i, i < 1152 → M1 14 i = fz i := fun i hi => (h1 _ _ (by decide) (by omega)).trans (hc i hi)
      refine j_iload_n X 0 dX7_drift_34 rfl rfl ?_
      refine j_sipush (v := nI 144) X (by decide) dX7_drift_35 ?_
      refine j_ncmp_ge X j 144 rfl rfl (by omega) (by omega) (tgt := 137) dX7_drift_38 (by decide) (fun c1 => ?_) (fun c1 => ?_)
      · exact absurd c1 (by omega)
      · refine j_aload_n X 2 dX7_drift_41 rfl rfl ?_
        refine j_iload_n X 0 dX7_drift_42 rfl rfl ?_
        refine p_callVI X hA hZ (rest := []) (m_w cI cZ ad M1) [] (fun u => m_w cI cZ ad u) (nil_perm _).symm (fun _ => List.Perm.refl _) [.int (nI j)] 13 rfl rfl (m_isT13 (cI := cI) (cZ := cZ) (cT := cT) ad M1 j (by omega) ((hc1 _ (by omega)).trans (fz_n j 2 (by decide) (by decide)))) 1 rfl gX7_drift_X6_isTunnel rfl ⟨rfl, rfl⟩ mh_X6_isTunnel_V ⟨Nat.le_of_ble_eq_true rfl, Nat.le_of_ble_eq_true rfl⟩ rfl (Nat.le_of_ble_eq_true rfl) ⟨by show 0 + 0 ≤ 0; omega, by show 0 + 0 ≤ 0; omega⟩ dX7_drift_43 (fun r9 u9 h9 => ?_)
        obtain ⟨h9a, h9b⟩ := h9
        replace h9a := h9a.symm
        subst h9a
        replace h9b := h9b.symm
        subst h9b
        refine j_if_ne X (tgt := 52) dX7_drift_46 (by decide) (fun c9 => ?_) (fun c9 => ?_)
        · exact absurd c9 (by decide)
        · refine j_goto X (tgt := 131) dX7_drift_49 (by decide) ?_
          refine j_iinc (v := nI (j + 1)) (lo' := [(2, .int (nI (j + 1))), (0, .ref (ad 0)), (1, .ref (ad 13))]) X 0 dX7_drift_131 rfl ((congrArg (nI j + ·) (show Int32.ofInt 1 = nI 1 by decide)).trans (nI_add j 1)) (by decide) rfl ?_
          refine j_goto X (tgt := 34) dX7_drift_134 (by decide) ?_
          refine j_lo [0, 1, 2] (lo' := [(2, .int (nI (j + 1))), (0, .ref (ad 0)), (1, .ref (ad 13))]) rfl ?_
          exact ih (j + 1) (by omega) M1 h1
  have L2 : ∀ (d j : Nat), j + d = 144 → ∀ M1 : mS, mk5 13 M M1 → j_V p l e (headSpec wsX7_drift { frames := 3, cells := 0, slots := 0, locals := 66 }).room s m args below meth c (MQ below (va_Qv (fun (u : mS) => mk5 13 M u) (j_B G (va_A (m_w cI cZ ad M) s.heap.size) (fun u => m_w cI cZ ad u)) (va_A (m_w cI cZ ad M) s.heap.size)) args s 0 0 (va_A (m_w cI cZ ad M) s.heap.size)) G 7 (va_A (m_w cI cZ ad M) s.heap.size) 0 0 (m_w cI cZ ad M1) 2 [(2, .int (nI j)), (0, .ref (ad 0)), (1, .ref (ad 13))] [] := by
    intro d
    induction d with
    | zero =>
      intro j hj M1 h1
      have hc1 : ∀ i, i < 1152 → M1 14 i = fz i := fun i hi => (h1 _ _ (by decide) (by omega)).trans (hc i hi)
      refine j_iload_n X 0 dX7_drift_2 rfl rfl ?_
      refine j_sipush (v := nI 144) X (by decide) dX7_drift_3 ?_
      refine j_ncmp_ge X j 144 rfl rfl (by omega) (by omega) (tgt := 32) dX7_drift_6 (by decide) (fun c1 => ?_) (fun c1 => ?_)
      · refine j_iconst (v := nI 0) X (by decide) dX7_drift_32 ?_
        refine j_istore_n (lo' := [(2, .int (nI 0)), (0, .ref (ad 0)), (1, .ref (ad 13))]) X dX7_drift_33 rfl (by decide) rfl ?_
        refine j_lo [0, 1, 2] (lo' := [(2, .int (nI 0)), (0, .ref (ad 0)), (1, .ref (ad 13))]) rfl ?_
        exact L34 144 0 (by omega) M1 h1
      · exact absurd c1 (by omega)
    | succ d ih =>
      intro j hj M1 h1
      have hc1 : ∀ i, i < 1152 → M1 14 i = fz i := fun i hi => (h1 _ _ (by decide) (by omega)).trans (hc i hi)
      refine j_iload_n X 0 dX7_drift_2 rfl rfl ?_
      refine j_sipush (v := nI 144) X (by decide) dX7_drift_3 ?_
      refine j_ncmp_ge X j 144 rfl rfl (by omega) (by omega) (tgt := 32) dX7_drift_6 (by decide) (fun c1 => ?_) (fun c1 => ?_)
      · exact absurd c1 (by omega)
      · refine j_aload_n X 1 dX7_drift_9 rfl rfl ?_
        refine j_get X 0 (C := RX7) (T := TX7) (N := 14) rfl rfl 8 (by decide) mi_X7_drift_X7 RX7 mm_X7_drift_22 (fun x q => q) (v := .ref (ad 5)) rfl dX7_drift_10 ?_
        refine j_iload_n X 0 dX7_drift_13 rfl rfl ?_
        refine j_aload_n X 2 dX7_drift_14 rfl rfl ?_
        refine j_getN X 13 rfl rfl 2 (by decide) mi_X7_drift_X6 (hZ.2.2.2.1.1 _ xn_2) (fun x q => q) (v := .ref (ad 14)) rfl dX7_drift_15 ?_
        refine j_bipush (v := nI 8) X (by decide) dX7_drift_18 ?_
        refine j_iload_n X 0 dX7_drift_20 rfl rfl ?_
        refine j_imulN X 8 j dX7_drift_21 ?_
        refine j_iconst (v := nI 5) X (by decide) dX7_drift_22 ?_
        refine j_iadd X dX7_drift_23 ?_
        refine j_top (y := nI ((8 * j) + 5)) (nI_add (8 * j) 5) ?_
        refine j_iald X 14 0 rfl rfl (8 * j + 5) rfl (by omega) (by decide) dX7_drift_24 ?_
        refine j_iast X 5 0 rfl rfl j rfl (by omega) (by decide) dX7_drift_25 ?_
        refine j_weq (ws' := (m_w cI cZ ad (m_up M1 5 j (M1 14 (8 * j + 5))))) rfl ?_
        refine j_iinc (v := nI (j + 1)) (lo' := [(2, .int (nI (j + 1))), (0, .ref (ad 0)), (1, .ref (ad 13))]) X 0 dX7_drift_26 rfl ((congrArg (nI j + ·) (show Int32.ofInt 1 = nI 1 by decide)).trans (nI_add j 1)) (by decide) rfl ?_
        refine j_goto X (tgt := 2) dX7_drift_29 (by decide) ?_
        refine j_lo [0, 1, 2] (lo' := [(2, .int (nI (j + 1))), (0, .ref (ad 0)), (1, .ref (ad 13))]) rfl ?_
        exact ih (j + 1) (by omega) (m_up M1 5 j (M1 14 (8 * j + 5))) (h1.was _ _)
  refine j_lo [0, 1, 2] (lo' := [(2, .int (nI 0)), (0, .ref (ad 0)), (1, .ref (ad 13))]) rfl ?_
  exact L2 144 0 (by omega) M mk5.rf
set_option maxRecDepth 100000 in
set_option maxHeartbeats 4000000 in
theorem m_hour13 (ad : Nat → Nat) (M : mS) (h3 : M 0 3 = nI 0) (hc : ∀ j, j < 1152 → M 14 j = fz j) : jI l G K (j_ty cI cZ cT cB) yX7_hour wsX7_hour { frames := 6, cells := 0, slots := 0, locals := 140 } (m_w cI cZ ad M) [.ref (ad 0), .ref (ad 13)] 0 0 (fun r (u : mS) => r = nI 0 ∧ mk5 13 M u) (fun u => m_w cI cZ ad u) := by
  refine j_ofI (cc := cX7_hour) (maxL := 4) (by decide) rfl (Nat.le_of_ble_eq_true rfl) ?_
  intro p e s m args below meth c X hnm hZ
  have hA : ∀ q, s.heap.size ≤ q → (va_A (m_w cI cZ ad M) s.heap.size) q := fun _ h => Or.inr h
  refine j_iconst (v := nI 0) X (by decide) dX7_hour_0 ?_
  refine j_istore_n (lo' := [(2, .int (nI 0)), (0, .ref (ad 0)), (1, .ref (ad 13))]) X dX7_hour_1 rfl (by decide) rfl ?_
  refine j_iload_n X 0 dX7_hour_2 rfl rfl ?_
  refine j_aload_n X 1 dX7_hour_3 rfl rfl ?_
  refine j_get X 0 (C := RX7) (T := TX7) (N := 14) rfl rfl 5 (by decide) mi_X7_hour_X7 RX7 mm_X7_hour_56 (fun x q => q) (v := .int (M 0 3)) rfl dX7_hour_4 ?_
  refine j_top (y := nI 0) (h3) ?_
  refine j_ncmp_ge X 0 0 rfl rfl (by omega) (by omega) (tgt := 22) dX7_hour_7 (by decide) (fun c1 => ?_) (fun c1 => ?_)
  · refine j_aload_n X 1 dX7_hour_22 rfl rfl ?_
    refine j_aload_n X 2 dX7_hour_23 rfl rfl ?_
    refine p_callVU X hA hZ (rest := []) (m_w cI cZ ad M) [] (fun u => m_w cI cZ ad u) (nil_perm _).symm (fun _ => List.Perm.refl _) [.ref (ad 13)] 0 rfl rfl (m_fight13 (cI := cI) (cZ := cZ) (cT := cT) ad M h3) 1 rfl gX7_hour_X7_fight rfl ⟨rfl, rfl⟩ mh_X7_fight_V ⟨Nat.le_of_ble_eq_true rfl, Nat.le_of_ble_eq_true rfl⟩ rfl (Nat.le_of_ble_eq_true rfl) ⟨by show 0 + 0 ≤ 0; omega, by show 0 + 0 ≤ 0; omega⟩ dX7_hour_24 (fun u9 h9 => ?_)
    replace h9 := h9.symm
    subst h9
    refine j_iconst (v := nI 0) X (by decide) dX7_hour_27 ?_
    refine j_istore_n (lo' := [(2, .int (nI 0)), (0, .ref (ad 0)), (1, .ref (ad 13))]) X dX7_hour_28 rfl (by decide) rfl ?_
    refine j_iload_n X 0 dX7_hour_29 rfl rfl ?_
    refine j_aload_n X 1 dX7_hour_30 rfl rfl ?_
    refine j_get X 0 (C := RX7) (T := TX7) (N := 14) rfl rfl 5 (by decide) mi_X7_hour_X7 RX7 mm_X7_hour_56 (fun x q => q) (v := .int (M 0 3)) rfl dX7_hour_31 ?_
    refine j_top (y := nI 0) (h3) ?_
    refine j_ncmp_ge X 0 0 rfl rfl (by omega) (by omega) (tgt := 84) dX7_hour_34 (by decide) (fun c2 => ?_) (fun c2 => ?_)
    · refine j_aload_n X 1 dX7_hour_84 rfl rfl ?_
      refine j_aload_n X 2 dX7_hour_85 rfl rfl ?_
      refine p_callVU X hA hZ (rest := []) (m_w cI cZ ad M) [] (fun u => m_w cI cZ ad u) (nil_perm _).symm (fun _ => List.Perm.refl _) [.ref (ad 13)] 0 rfl rfl (m_drift13 (cI := cI) (cZ := cZ) (cT := cT) ad M hc) 1 rfl gX7_hour_X7_drift rfl ⟨rfl, rfl⟩ mh_X7_drift_V ⟨Nat.le_of_ble_eq_true rfl, Nat.le_of_ble_eq_true rfl⟩ rfl (Nat.le_of_ble_eq_true rfl) ⟨by show 0 + 0 ≤ 0; omega, by show 0 + 0 ≤ 0; omega⟩ dX7_hour_86 (fun M1 h1 => ?_)
      have hc1 : ∀ i, i < 1152 → M1 14 i = fz i := fun i hi => (h1 _ _ (by decide) (by omega)).trans (hc i hi)
      refine j_iconst (v := nI 0) X (by decide) dX7_hour_89 ?_
      refine j_istore_n (lo' := [(2, .int (nI 0)), (0, .ref (ad 0)), (1, .ref (ad 13))]) X dX7_hour_90 rfl (by decide) rfl ?_
      refine j_iconst (v := nI 0) X (by decide) dX7_hour_91 ?_
      refine j_istore_n (lo' := [(3, .int (nI 0)), (2, .int (nI 0)), (0, .ref (ad 0)), (1, .ref (ad 13))]) X dX7_hour_92 rfl (by decide) rfl ?_
      have L93 : ∀ (d j : Nat), j + d = 144 → j_V p l e (headSpec wsX7_hour { frames := 6, cells := 0, slots := 0, locals := 140 }).room s m args below meth c (MQ below (va_Qi (fun r (u : mS) => r = nI 0 ∧ mk5 13 M u) (j_B G (va_A (m_w cI cZ ad M) s.heap.size) (fun u => m_w cI cZ ad u)) (va_A (m_w cI cZ ad M) s.heap.size)) args s 0 0 (va_A (m_w cI cZ ad M) s.heap.size)) G 4 (va_A (m_w cI cZ ad M) s.heap.size) 0 0 (m_w cI cZ ad M1) 93 [(3, .int (nI j)), (2, .int (nI 0)), (0, .ref (ad 0)), (1, .ref (ad 13))] [] := by
        intro d
        induction d with
        | zero =>
          intro j hj
          refine j_iload_n X 0 dX7_hour_93 rfl rfl ?_
          refine j_sipush (v := nI 144) X (by decide) dX7_hour_94 ?_
          refine j_ncmp_ge X j 144 rfl rfl (by omega) (by omega) (tgt := 131) dX7_hour_97 (by decide) (fun c5 => ?_) (fun c5 => ?_)
          · refine j_aload_n X 3 dX7_hour_131 rfl rfl ?_
            refine j_dup X rfl dX7_hour_132 ?_
            refine j_getN X 13 rfl rfl 0 (by decide) mi_X7_hour_X6 (hZ.2.2.2.1.1 _ xn_0) (fun x q => q) (v := .int (M1 13 0)) rfl dX7_hour_133 ?_
            refine j_iconst (v := nI 1) X (by decide) dX7_hour_136 ?_
            refine j_iadd X dX7_hour_137 ?_
            refine j_putN X 13 rfl rfl 0 (by decide) mi_X7_hour_X6 (hZ.2.2.2.1.1 _ xn_0) (fun x q => q) tyX6_ok nmX6 rfl (ty := .int) (v := .int ((M1 13 0) + (nI 1))) (by decide +kernel) rfl rfl (Nat.le_of_ble_eq_true rfl) dX7_hour_138 ?_
            refine j_weq (ws' := (m_w cI cZ ad (m_up M1 13 0 ((M1 13 0) + (nI 1))))) rfl ?_
            refine j_iload_n X 1 dX7_hour_141 rfl rfl ?_
            exact j_iret X (m_up M1 13 0 ((M1 13 0) + (nI 1))) rfl dX7_hour_142 ⟨rfl, h1.hour _⟩
          · exact absurd c5 (by omega)
        | succ d ih =>
          intro j hj
          refine j_iload_n X 0 dX7_hour_93 rfl rfl ?_
          refine j_sipush (v := nI 144) X (by decide) dX7_hour_94 ?_
          refine j_ncmp_ge X j 144 rfl rfl (by omega) (by omega) (tgt := 131) dX7_hour_97 (by decide) (fun c5 => ?_) (fun c5 => ?_)
          · exact absurd c5 (by omega)
          · refine j_aload_n X 3 dX7_hour_100 rfl rfl ?_
            refine j_iload_n X 0 dX7_hour_101 rfl rfl ?_
            refine p_callVI X hA hZ (rest := []) (m_w cI cZ ad M1) [] (fun u => m_w cI cZ ad u) (nil_perm _).symm (fun _ => List.Perm.refl _) [.int (nI j)] 13 rfl rfl (m_isT13 (cI := cI) (cZ := cZ) (cT := cT) ad M1 j (by omega) ((hc1 _ (by omega)).trans (fz_n j 2 (by decide) (by decide)))) 1 rfl gX7_hour_X6_isTunnel rfl ⟨rfl, rfl⟩ mh_X6_isTunnel_V ⟨Nat.le_of_ble_eq_true rfl, Nat.le_of_ble_eq_true rfl⟩ rfl (Nat.le_of_ble_eq_true rfl) ⟨by show 0 + 0 ≤ 0; omega, by show 0 + 0 ≤ 0; omega⟩ dX7_hour_102 (fun r9 u9 h9 => ?_)
            obtain ⟨h9a, h9b⟩ := h9
            replace h9a := h9a.symm
            subst h9a
            replace h9b := h9b.symm
            subst h9b
            refine j_if_eq X (tgt := 125) dX7_hour_105 (by decide) (fun c9 => ?_) (fun c9 => ?_)
            · refine j_iinc (v := nI (j + 1)) (lo' := [(3, .int (nI (j + 1))), (2, .int (nI 0)), (0, .ref (ad 0)), (1, .ref (ad 13))]) X 0 dX7_hour_125 rfl ((congrArg (nI j + ·) (show Int32.ofInt 1 = nI 1 by decide)).trans (nI_add j 1)) (by decide) rfl ?_
              refine j_goto X (tgt := 93) dX7_hour_128 (by decide) ?_
              refine j_lo [0, 1, 2, 3] (lo' := [(3, .int (nI (j + 1))), (2, .int (nI 0)), (0, .ref (ad 0)), (1, .ref (ad 13))]) rfl ?_
              exact ih (j + 1) (by omega)
            · exact absurd c9 (by decide)
      refine j_lo [0, 1, 2, 3] (lo' := [(3, .int (nI 0)), (2, .int (nI 0)), (0, .ref (ad 0)), (1, .ref (ad 13))]) rfl ?_
      exact L93 144 0 (by omega)
    · exact absurd c2 (by omega)
  · exact absurd c1 (by omega)
set_option maxRecDepth 100000 in
set_option maxHeartbeats 4000000 in
theorem m_hours13 (ad : Nat → Nat) (M : mS) (n : Nat) (hn : n < 1000) (h3 : M 0 3 = nI 0) (hc : ∀ j, j < 1152 → M 14 j = fz j) : jI l G K (j_ty cI cZ cT cB) yX7_hours wsX7_hours { frames := 7, cells := 0, slots := 0, locals := 163 } (m_w cI cZ ad M) [.ref (ad 0), .ref (ad 13), .int (nI n)] 0 0 (fun r (u : mS) => r = nI 0 ∧ mk5 13 M u) (fun u => m_w cI cZ ad u) := by
  refine j_ofI (cc := cX7_hours) (maxL := 5) (by decide) rfl (Nat.le_of_ble_eq_true rfl) ?_
  intro p e s m args below meth c X hnm hZ
  have hA : ∀ q, s.heap.size ≤ q → (va_A (m_w cI cZ ad M) s.heap.size) q := fun _ h => Or.inr h
  refine j_iconst (v := nI 0) X (by decide) dX7_hours_0 ?_
  refine j_istore_n (lo' := [(3, .int (nI 0)), (0, .ref (ad 0)), (1, .ref (ad 13)), (2, .int (nI n))]) X dX7_hours_1 rfl (by decide) rfl ?_
  refine j_iconst (v := nI 0) X (by decide) dX7_hours_2 ?_
  refine j_istore (lo' := [(4, .int (nI 0)), (3, .int (nI 0)), (0, .ref (ad 0)), (1, .ref (ad 13)), (2, .int (nI n))]) X dX7_hours_3 (by decide) rfl ?_
  have L5 : ∀ (d j : Nat), j + d = n → ∀ M1 : mS, mk5 13 M M1 → j_V p l e (headSpec wsX7_hours { frames := 7, cells := 0, slots := 0, locals := 163 }).room s m args below meth c (MQ below (va_Qi (fun r (u : mS) => r = nI 0 ∧ mk5 13 M u) (j_B G (va_A (m_w cI cZ ad M) s.heap.size) (fun u => m_w cI cZ ad u)) (va_A (m_w cI cZ ad M) s.heap.size)) args s 0 0 (va_A (m_w cI cZ ad M) s.heap.size)) G 5 (va_A (m_w cI cZ ad M) s.heap.size) 0 0 (m_w cI cZ ad M1) 5 [(4, .int (nI j)), (3, .int (nI 0)), (0, .ref (ad 0)), (1, .ref (ad 13)), (2, .int (nI n))] [] := by
    intro d
    induction d with
    | zero =>
      intro j hj M1 h1
      refine j_iload X 0 dX7_hours_5 rfl ?_
      refine j_iload_n X 4 dX7_hours_7 rfl rfl ?_
      refine j_ncmp_ge X j n rfl rfl (by omega) (by omega) (tgt := 25) dX7_hours_8 (by decide) (fun c1 => ?_) (fun c1 => ?_)
      · refine j_iload_n X 1 dX7_hours_25 rfl rfl ?_
        exact j_iret X M1 rfl dX7_hours_26 ⟨rfl, h1⟩
      · exact absurd c1 (by omega)
    | succ d ih =>
      intro j hj M1 h1
      refine j_iload X 0 dX7_hours_5 rfl ?_
      refine j_iload_n X 4 dX7_hours_7 rfl rfl ?_
      refine j_ncmp_ge X j n rfl rfl (by omega) (by omega) (tgt := 25) dX7_hours_8 (by decide) (fun c1 => ?_) (fun c1 => ?_)
      · exact absurd c1 (by omega)
      · refine j_iload_n X 1 dX7_hours_11 rfl rfl ?_
        refine j_aload_n X 2 dX7_hours_12 rfl rfl ?_
        refine j_aload_n X 3 dX7_hours_13 rfl rfl ?_
        refine p_callVI X hA hZ (rest := [.int (nI 0)]) (m_w cI cZ ad M1) [] (fun u => m_w cI cZ ad u) (nil_perm _).symm (fun _ => List.Perm.refl _) [.ref (ad 13)] 0 rfl rfl (m_hour13 (cI := cI) (cZ := cZ) (cT := cT) ad M1 ((h1 _ _ (by decide) (by omega)).trans h3) (fun i hi => (h1 _ _ (by decide) (by omega)).trans (hc i hi))) 1 rfl gX7_hours_X7_hour rfl ⟨rfl, rfl⟩ mh_X7_hour_V ⟨Nat.le_of_ble_eq_true rfl, Nat.le_of_ble_eq_true rfl⟩ rfl (Nat.le_of_ble_eq_true rfl) ⟨by show 0 + 0 ≤ 0; omega, by show 0 + 0 ≤ 0; omega⟩ dX7_hours_14 (fun r9 u9 h9 => ?_)
        obtain ⟨h9a, h9b⟩ := h9
        replace h9a := h9a.symm
        subst h9a
        refine j_iadd X dX7_hours_17 ?_
        refine j_top (y := nI (0 + 0)) (nI_add 0 0) ?_
        refine j_istore_n (lo' := [(3, .int (nI (0 + 0))), (4, .int (nI j)), (0, .ref (ad 0)), (1, .ref (ad 13)), (2, .int (nI n))]) X dX7_hours_18 rfl (by decide) rfl ?_
        refine j_iinc (v := nI (j + 1)) (lo' := [(4, .int (nI (j + 1))), (3, .int (nI (0 + 0))), (0, .ref (ad 0)), (1, .ref (ad 13)), (2, .int (nI n))]) X 1 dX7_hours_19 rfl ((congrArg (nI j + ·) (show Int32.ofInt 1 = nI 1 by decide)).trans (nI_add j 1)) (by decide) rfl ?_
        refine j_goto X (tgt := 5) dX7_hours_22 (by decide) ?_
        refine j_lo [0, 1, 2, 3, 4] (lo' := [(4, .int (nI (j + 1))), (3, .int (nI 0)), (0, .ref (ad 0)), (1, .ref (ad 13)), (2, .int (nI n))]) rfl ?_
        exact ih (j + 1) (by omega) u9 (h1.tr h9b)
  refine j_lo [0, 1, 2, 3, 4] (lo' := [(4, .int (nI 0)), (3, .int (nI 0)), (0, .ref (ad 0)), (1, .ref (ad 13)), (2, .int (nI n))]) rfl ?_
  exact L5 n 0 (by omega) M mk5.rf
set_option maxRecDepth 100000 in
set_option maxHeartbeats 4000000 in
theorem m_standing13 (ad : Nat → Nat) (M : mS) (h3 : M 0 3 = nI 0) (x : Int32) : jI l G K (j_ty cI cZ cT cB) yX7_standing wsX7_standing { frames := 1, cells := 0, slots := 0, locals := 21 } (m_w cI cZ ad M) [.ref (ad 0), .ref (ad 13), .int x] 0 0 (fun r (u : mS) => r = nI 0 ∧ u = M) (fun u => m_w cI cZ ad u) := by
  refine j_ofI (cc := cX7_standing) (maxL := 5) (by decide) rfl (Nat.le_of_ble_eq_true rfl) ?_
  intro p e s m args below meth c X hnm hZ
  have hA : ∀ q, s.heap.size ≤ q → (va_A (m_w cI cZ ad M) s.heap.size) q := fun _ h => Or.inr h
  refine j_iconst (v := nI 0) X (by decide) dX7_standing_0 ?_
  refine j_istore_n (lo' := [(3, .int (nI 0)), (0, .ref (ad 0)), (1, .ref (ad 13)), (2, .int x)]) X dX7_standing_1 rfl (by decide) rfl ?_
  refine j_iconst (v := nI 0) X (by decide) dX7_standing_2 ?_
  refine j_istore (lo' := [(4, .int (nI 0)), (3, .int (nI 0)), (0, .ref (ad 0)), (1, .ref (ad 13)), (2, .int x)]) X dX7_standing_3 (by decide) rfl ?_
  refine j_iload X 0 dX7_standing_5 rfl ?_
  refine j_aload_n X 2 dX7_standing_7 rfl rfl ?_
  refine j_get X 0 (C := RX7) (T := TX7) (N := 14) rfl rfl 5 (by decide) mi_X7_standing_X7 RX7 mm_X7_standing_56 (fun x q => q) (v := .int (M 0 3)) rfl dX7_standing_8 ?_
  refine j_top (y := nI 0) (h3) ?_
  refine j_ncmp_ge X 0 0 rfl rfl (by omega) (by omega) (tgt := 51) dX7_standing_11 (by decide) (fun c1 => ?_) (fun c1 => ?_)
  · refine j_iload_n X 1 dX7_standing_51 rfl rfl ?_
    exact j_iret X M rfl dX7_standing_52 ⟨rfl, rfl⟩
  · exact absurd c1 (by omega)
theorem mm_X7_pass_48 : Cond.fieldLink RX7 48 RX7 (TX7 0).2.1 (TX7 0).2.2.1 ∈ wsX7_pass := by decide +kernel
theorem mi_X7_pass_X7 : ∀ w ∈ u_ws RX7 TX7 14, w ∈ wsX7_pass := by decide +kernel
theorem mm_X7_pass_38 : Cond.fieldLink RX7 38 RX7 (TX7 12).2.1 (TX7 12).2.2.1 ∈ wsX7_pass := by decide +kernel
theorem mh_X7_hours_V : yX7_hours.cls = RX7 ∧ yX7_hours.cls ≠ "java/lang/invoke/MethodHandle" ∧ yX7_hours.cls ≠ "java/lang/invoke/VarHandle" ∧ (parseMethodDescriptor yX7_hours.desc).map (fun d => d.parameters.length) = some 2 := by decide +kernel
set_option maxRecDepth 100000 in
set_option maxHeartbeats 4000000 in
theorem m_pass (ad : Nat → Nat) (M : mS) (hM : mfr M) (h : Int32) : jI l G K (j_ty cI cZ cT cB) yX7_pass wsX7_pass { frames := 8, cells := 0, slots := 0, locals := 187 } (m_w cI cZ ad M) [.ref (ad 0), .int h] 0 0 (fun r (u : mS) => r = nI 0 ∧ u 0 0 = if ¬ h < 1 ∧ ¬ 200 < h then nI 0 else nI 1) (fun u => m_w cI cZ ad u) := by
  refine j_ofI (cc := cX7_pass) (maxL := 2) (by decide) rfl (Nat.le_of_ble_eq_true rfl) ?_
  intro p e s m args below meth c X hnm hZ
  have hA : ∀ q, s.heap.size ≤ q → (va_A (m_w cI cZ ad M) s.heap.size) q := fun _ h => Or.inr h
  refine j_aload_n X 0 dX7_pass_0 rfl rfl ?_
  refine j_iconst (v := nI 0) X (by decide) dX7_pass_1 ?_
  refine j_put X 0 (C := RX7) (T := TX7) (N := 14) rfl rfl 0 (by decide) mi_X7_pass_X7 RX7 mm_X7_pass_48 (fun x q => q) tyX7_ok nmX7 rfl (ty := .int) (v := .int (nI 0)) (by decide +kernel) rfl rfl (Nat.le_of_ble_eq_true rfl) dX7_pass_2 ?_
  refine j_weq (ws' := (m_w cI cZ ad (m_up M 0 0 (nI 0)))) rfl ?_
  refine j_iload_n X 1 dX7_pass_5 rfl rfl ?_
  refine j_iconst (v := nI 1) X (by decide) dX7_pass_6 ?_
  refine j_sipush (v := nI 200) X (by decide) dX7_pass_7 ?_
  refine p_callSI X hA hZ (rest := []) [] (m_w cI cZ ad (m_up M 0 0 (nI 0))) (fun _ => (m_w cI cZ ad (m_up M 0 0 (nI 0)))) (List.Perm.refl _) (fun _ => nil_perm (m_w cI cZ ad (m_up M 0 0 (nI 0)))) [.int h, .int (nI 1), .int (nI 200)] (m_isIn h (nI 1) (nI 200)) 3 rfl gX7_pass_X7_isIn rfl ⟨rfl, rfl⟩ mh_X7_isIn_P ⟨Nat.le_of_ble_eq_true rfl, Nat.le_of_ble_eq_true rfl⟩ rfl (Nat.le_of_ble_eq_true rfl) ⟨by show 0 + 0 ≤ 0; omega, by show 0 + 0 ≤ 0; omega⟩ dX7_pass_10 (fun r9 u9 h9 => ?_)
  replace h9 := h9.symm
  subst h9
  refine j_if_eq X (tgt := 28) dX7_pass_13 (by decide) (fun c1 => ?_) (fun c1 => ?_)
  · refine j_aload_n X 0 dX7_pass_28 rfl rfl ?_
    refine j_iconst (v := nI 1) X (by decide) dX7_pass_29 ?_
    have hq : ¬ (¬ h < 1 ∧ ¬ 200 < h) := fun q => absurd (c1.symm.trans (in_1 q.1 q.2)) (by decide)
    refine p_callVI X hA hZ (rest := []) (m_w cI cZ ad (m_up M 0 0 (nI 0))) [] (fun u => m_w cI cZ ad u) (nil_perm _).symm (fun _ => List.Perm.refl _) [.int (nI 1)] 0 rfl rfl (m_no (cI := cI) (cZ := cZ) (cT := cT) ad (m_up M 0 0 (nI 0)) (nI 1)) 1 rfl gX7_pass_X7_no rfl ⟨rfl, rfl⟩ mh_X7_no_V ⟨Nat.le_of_ble_eq_true rfl, Nat.le_of_ble_eq_true rfl⟩ rfl (Nat.le_of_ble_eq_true rfl) ⟨by show 0 + 0 ≤ 0; omega, by show 0 + 0 ≤ 0; omega⟩ dX7_pass_30 (fun r9 u9 h9 => ?_)
    obtain ⟨h9a, h9b⟩ := h9
    replace h9a := h9a.symm
    subst h9a
    replace h9b := h9b.symm
    subst h9b
    exact j_iret X (m_up (m_up M 0 0 (nI 0)) 0 0 (nI 1)) rfl dX7_pass_33 ⟨rfl, (by rw [if_neg hq]; rfl)⟩
  · have hq : ¬ h < 1 ∧ ¬ 200 < h := Decidable.byContradiction fun q => c1 (in_n q)
    obtain ⟨n, hn, en⟩ := nI_of2 (M := nI 200) (n := 200) (nI_toInt (by decide)) (fun g => hq.1 (Int32.lt_trans g (by decide))) (Int32.not_lt.1 hq.2)
    subst en
    refine j_aload_n X 0 dX7_pass_16 rfl rfl ?_
    refine j_aload_n X 0 dX7_pass_17 rfl rfl ?_
    refine j_get X 0 (C := RX7) (T := TX7) (N := 14) rfl rfl 12 (by decide) mi_X7_pass_X7 RX7 mm_X7_pass_38 (fun x q => q) (v := .ref (ad 9)) rfl dX7_pass_18 ?_
    refine j_iload_n X 1 dX7_pass_21 rfl rfl ?_
    refine p_callVI X hA hZ (rest := []) (m_w cI cZ ad (m_up M 0 0 (nI 0))) [] (fun u => m_w cI cZ ad u) (nil_perm _).symm (fun _ => List.Perm.refl _) [.ref (ad 9), .int (nI n)] 0 rfl rfl (m_hours9 (cI := cI) (cZ := cZ) (cT := cT) ad (m_up M 0 0 (nI 0)) n (by omega) (by exact hM.1.2.2) (by exact hM.2.1)) 2 rfl gX7_pass_X7_hours rfl ⟨rfl, rfl⟩ mh_X7_hours_V ⟨Nat.le_of_ble_eq_true rfl, Nat.le_of_ble_eq_true rfl⟩ rfl (Nat.le_of_ble_eq_true rfl) ⟨by show 0 + 0 ≤ 0; omega, by show 0 + 0 ≤ 0; omega⟩ dX7_pass_22 (fun r9 u9 h9 => ?_)
    obtain ⟨h9a, h9b⟩ := h9
    replace h9a := h9a.symm
    subst h9a
    refine j_goto X (tgt := 33) dX7_pass_25 (by decide) ?_
    exact j_iret X u9 rfl dX7_pass_33 ⟨rfl, by rw [if_pos hq]; exact h9b 0 0 (by decide) (by omega)⟩
theorem mi_X7_tunnels_X6 : ∀ w ∈ u_ws RX6 TX6 5, w ∈ wsX7_tunnels := by decide +kernel
set_option maxRecDepth 100000 in
set_option maxHeartbeats 4000000 in
theorem m_tunnels (ad : Nat → Nat) (M : mS) (hM : mfr M) : jI l G K (j_ty cI cZ cT cB) yX7_tunnels wsX7_tunnels { frames := 0, cells := 0, slots := 0, locals := 0 } (m_w cI cZ ad M) [.ref (ad 9)] 0 0 (fun r (u : mS) => r = nI 0 ∧ u = M) (fun u => m_w cI cZ ad u) := by
  refine j_ofI (cc := cX7_tunnels) (maxL := 3) (by decide) rfl (Nat.le_of_ble_eq_true rfl) ?_
  intro p e s m args below meth c X hnm hZ
  have hA : ∀ q, s.heap.size ≤ q → (va_A (m_w cI cZ ad M) s.heap.size) q := fun _ h => Or.inr h
  refine j_iconst (v := nI 0) X (by decide) dX7_tunnels_0 ?_
  refine j_istore_n (lo' := [(1, .int (nI 0)), (0, .ref (ad 9))]) X dX7_tunnels_1 rfl (by decide) rfl ?_
  refine j_iconst (v := nI 0) X (by decide) dX7_tunnels_2 ?_
  refine j_istore_n (lo' := [(2, .int (nI 0)), (1, .int (nI 0)), (0, .ref (ad 9))]) X dX7_tunnels_3 rfl (by decide) rfl ?_
  have L4 : ∀ (d j : Nat), j + d = 144 → j_V p l e (headSpec wsX7_tunnels { frames := 0, cells := 0, slots := 0, locals := 0 }).room s m args below meth c (MQ below (va_Qi (fun r (u : mS) => r = nI 0 ∧ u = M) (j_B G (va_A (m_w cI cZ ad M) s.heap.size) (fun u => m_w cI cZ ad u)) (va_A (m_w cI cZ ad M) s.heap.size)) args s 0 0 (va_A (m_w cI cZ ad M) s.heap.size)) G 3 (va_A (m_w cI cZ ad M) s.heap.size) 0 0 (m_w cI cZ ad M) 4 [(2, .int (nI j)), (1, .int (nI 0)), (0, .ref (ad 9))] [] := by
    intro d
    induction d with
    | zero =>
      intro j hj
      refine j_iload_n X 0 dX7_tunnels_4 rfl rfl ?_
      refine j_sipush (v := nI 144) X (by decide) dX7_tunnels_5 ?_
      refine j_ncmp_ge X j 144 rfl rfl (by omega) (by omega) (tgt := 31) dX7_tunnels_8 (by decide) (fun c1 => ?_) (fun c1 => ?_)
      · refine j_iload_n X 1 dX7_tunnels_31 rfl rfl ?_
        exact j_iret X M rfl dX7_tunnels_32 ⟨rfl, rfl⟩
      · exact absurd c1 (by omega)
    | succ d ih =>
      intro j hj
      refine j_iload_n X 0 dX7_tunnels_4 rfl rfl ?_
      refine j_sipush (v := nI 144) X (by decide) dX7_tunnels_5 ?_
      refine j_ncmp_ge X j 144 rfl rfl (by omega) (by omega) (tgt := 31) dX7_tunnels_8 (by decide) (fun c1 => ?_) (fun c1 => ?_)
      · exact absurd c1 (by omega)
      · refine j_iload_n X 1 dX7_tunnels_11 rfl rfl ?_
        refine j_aload_n X 2 dX7_tunnels_12 rfl rfl ?_
        refine j_getN X 9 rfl rfl 2 (by decide) mi_X7_tunnels_X6 (hZ.2.2.2.1.1 _ xn_2) (fun x q => q) (v := .ref (ad 10)) rfl dX7_tunnels_13 ?_
        refine j_bipush (v := nI 8) X (by decide) dX7_tunnels_16 ?_
        refine j_iload_n X 0 dX7_tunnels_18 rfl rfl ?_
        refine j_imulN X 8 j dX7_tunnels_19 ?_
        refine j_iconst (v := nI 2) X (by decide) dX7_tunnels_20 ?_
        refine j_iadd X dX7_tunnels_21 ?_
        refine j_top (y := nI ((8 * j) + 2)) (nI_add (8 * j) 2) ?_
        refine j_iald X 10 0 rfl rfl (8 * j + 2) rfl (by omega) (by decide) dX7_tunnels_22 ?_
        refine j_top (y := nI 0) ((hM.2.1 _ (by omega)).trans (fz_n j 2 (by decide) (by decide))) ?_
        refine j_iadd X dX7_tunnels_23 ?_
        refine j_top (y := nI (0 + 0)) (nI_add 0 0) ?_
        refine j_istore_n (lo' := [(1, .int (nI (0 + 0))), (2, .int (nI j)), (0, .ref (ad 9))]) X dX7_tunnels_24 rfl (by decide) rfl ?_
        refine j_iinc (v := nI (j + 1)) (lo' := [(2, .int (nI (j + 1))), (1, .int (nI (0 + 0))), (0, .ref (ad 9))]) X 1 dX7_tunnels_25 rfl ((congrArg (nI j + ·) (show Int32.ofInt 1 = nI 1 by decide)).trans (nI_add j 1)) (by decide) rfl ?_
        refine j_goto X (tgt := 4) dX7_tunnels_28 (by decide) ?_
        refine j_lo [0, 1, 2] (lo' := [(2, .int (nI (j + 1))), (1, .int (nI 0)), (0, .ref (ad 9))]) rfl ?_
        exact ih (j + 1) (by omega)
  refine j_lo [0, 1, 2] (lo' := [(2, .int (nI 0)), (1, .int (nI 0)), (0, .ref (ad 9))]) rfl ?_
  exact L4 144 0 (by omega)
theorem mm_X7_counted_56 : Cond.fieldLink RX7 56 RX7 (TX7 5).2.1 (TX7 5).2.2.1 ∈ wsX7_counted := by decide +kernel
theorem mi_X7_counted_X7 : ∀ w ∈ u_ws RX7 TX7 14, w ∈ wsX7_counted := by decide +kernel
theorem mm_X7_counted_arr : Cond.arrayClass .int ∈ wsX7_counted := by decide +kernel
theorem mm_X7_counted_38 : Cond.fieldLink RX7 38 RX7 (TX7 12).2.1 (TX7 12).2.2.1 ∈ wsX7_counted := by decide +kernel
theorem mi_X7_counted_X6 : ∀ w ∈ u_ws RX6 TX6 5, w ∈ wsX7_counted := by decide +kernel
theorem mh_X7_standing_V : yX7_standing.cls = RX7 ∧ yX7_standing.cls ≠ "java/lang/invoke/MethodHandle" ∧ yX7_standing.cls ≠ "java/lang/invoke/VarHandle" ∧ (parseMethodDescriptor yX7_standing.desc).map (fun d => d.parameters.length) = some 2 := by decide +kernel
theorem mh_X7_tunnels_S : yX7_tunnels.cls ≠ "java/lang/invoke/MethodHandle" ∧ yX7_tunnels.cls ≠ "java/lang/invoke/VarHandle" ∧ (parseMethodDescriptor yX7_tunnels.desc).map (fun d => d.parameters.length) = some 1 := by decide +kernel
theorem mm_X7_counted_69 : Cond.fieldLink RX7 69 RX7 (TX7 2).2.1 (TX7 2).2.2.1 ∈ wsX7_counted := by decide +kernel
theorem mm_X7_counted_208 : Cond.fieldLink RX7 208 RX7 (TX7 4).2.1 (TX7 4).2.2.1 ∈ wsX7_counted := by decide +kernel
set_option maxRecDepth 100000 in
set_option maxHeartbeats 4000000 in
theorem m_counted (ad : Nat → Nat) (M : mS) (hM : mfr M) (cc : Nat) (hcc : cc < 12) : jI l G K (j_ty cI cZ cT cB) yX7_counted wsX7_counted { frames := 2, cells := 1, slots := 12, locals := 45 } (m_w cI cZ ad M) [.ref (ad 0), .int (nI cc)] 1 12 (fun r (u : mS) => r = 0 ∧ u = M) (fun u => m_w cI cZ ad u) := by
  refine j_ofI (cc := cX7_counted) (maxL := 7) (by decide) rfl (Nat.le_of_ble_eq_true rfl) ?_
  intro p e s m args below meth c X hnm hZ
  have hA : ∀ q, s.heap.size ≤ q → (va_A (m_w cI cZ ad M) s.heap.size) q := fun _ h => Or.inr h
  refine j_iconst (v := nI 0) X (by decide) dX7_counted_0 ?_
  refine j_istore_n (lo' := [(2, .int (nI 0)), (0, .ref (ad 0)), (1, .int (nI cc))]) X dX7_counted_1 rfl (by decide) rfl ?_
  refine j_iconst (v := nI 0) X (by decide) dX7_counted_2 ?_
  refine j_istore_n (lo' := [(3, .int (nI 0)), (2, .int (nI 0)), (0, .ref (ad 0)), (1, .int (nI cc))]) X dX7_counted_3 rfl (by decide) rfl ?_
  refine j_iconst (v := nI 0) X (by decide) dX7_counted_4 ?_
  refine j_istore (lo' := [(4, .int (nI 0)), (3, .int (nI 0)), (2, .int (nI 0)), (0, .ref (ad 0)), (1, .int (nI cc))]) X dX7_counted_5 (by decide) rfl ?_
  refine j_iconst (v := nI 0) X (by decide) dX7_counted_7 ?_
  refine j_istore (lo' := [(5, .int (nI 0)), (4, .int (nI 0)), (3, .int (nI 0)), (2, .int (nI 0)), (0, .ref (ad 0)), (1, .int (nI cc))]) X dX7_counted_8 (by decide) rfl ?_
  refine j_iconst (v := nI 0) X (by decide) dX7_counted_10 ?_
  refine j_istore (lo' := [(6, .int (nI 0)), (5, .int (nI 0)), (4, .int (nI 0)), (3, .int (nI 0)), (2, .int (nI 0)), (0, .ref (ad 0)), (1, .int (nI cc))]) X dX7_counted_11 (by decide) rfl ?_
  have L13 : ∀ (d j : Nat), j + d = 144 → j_V p l e (headSpec wsX7_counted { frames := 2, cells := 1, slots := 12, locals := 45 }).room s m args below meth c (MQ below (va_Qi (fun r (u : mS) => r = 0 ∧ u = M) (j_B G (va_A (m_w cI cZ ad M) s.heap.size) (fun u => m_w cI cZ ad u)) (va_A (m_w cI cZ ad M) s.heap.size)) args s 1 12 (va_A (m_w cI cZ ad M) s.heap.size)) G 7 (va_A (m_w cI cZ ad M) s.heap.size) 0 0 (m_w cI cZ ad M) 13 [(6, .int (nI j)), (5, .int (nI 0)), (4, .int (nI 0)), (3, .int (nI 0)), (2, .int (nI 0)), (0, .ref (ad 0)), (1, .int (nI cc))] [] := by
    intro d
    induction d with
    | zero =>
      intro j hj
      refine j_iload X 0 dX7_counted_13 rfl ?_
      refine j_sipush (v := nI 144) X (by decide) dX7_counted_15 ?_
      refine j_ncmp_ge X j 144 rfl rfl (by omega) (by omega) (tgt := 99) dX7_counted_18 (by decide) (fun c1 => ?_) (fun c1 => ?_)
      · refine j_iconst (v := nI 0) X (by decide) dX7_counted_99 ?_
        refine j_istore (lo' := [(6, .int (nI 0)), (5, .int (nI 0)), (4, .int (nI 0)), (3, .int (nI 0)), (2, .int (nI 0)), (0, .ref (ad 0)), (1, .int (nI cc))]) X dX7_counted_100 (by decide) rfl ?_
        refine j_iload X 0 dX7_counted_102 rfl ?_
        refine j_aload_n X 5 dX7_counted_104 rfl rfl ?_
        refine j_get X 0 (C := RX7) (T := TX7) (N := 14) rfl rfl 5 (by decide) mi_X7_counted_X7 RX7 mm_X7_counted_56 (fun x q => q) (v := .int (M 0 3)) rfl dX7_counted_105 ?_
        refine j_top (y := nI 0) (hM.1.2.2) ?_
        refine j_ncmp_ge X 0 0 rfl rfl (by omega) (by omega) (tgt := 137) dX7_counted_108 (by decide) (fun c2 => ?_) (fun c2 => ?_)
        · refine j_bipush (v := nI 12) X (by decide) dX7_counted_137 ?_
          refine j_newI X hA 0 rfl mm_X7_counted_arr 12 (by decide) (by decide) (by decide) (Nat.le_of_ble_eq_true rfl) (Nat.le_of_ble_eq_true rfl) dX7_counted_139 (fun xa => ?_)
          refine j_weq (ws' := ((m_w cI cZ ad M) ++ [q_ar xa cI 12 (fun _ => 0)])) rfl ?_
          have hf0 : ∀ i : Nat, (fun _ => 0 : Nat → Int32) i = 0 := fun _ => rfl
          refine j_dup X rfl dX7_counted_141 ?_
          refine j_iconst (v := nI 0) X (by decide) dX7_counted_142 ?_
          refine j_aload_n X 5 dX7_counted_143 rfl rfl ?_
          refine j_get X 0 (C := RX7) (T := TX7) (N := 14) rfl rfl 12 (by decide) mi_X7_counted_X7 RX7 mm_X7_counted_38 (fun x q => q) (v := .ref (ad 9)) rfl dX7_counted_144 ?_
          refine j_getN X 9 rfl rfl 0 (by decide) mi_X7_counted_X6 (hZ.2.2.2.1.1 _ xn_0) (fun x q => q) (v := .int (M 9 0)) rfl dX7_counted_147 ?_
          refine j_top (y := nI 0) (hM.2.2.1) ?_
          refine j_iast0 X 17 0 rfl rfl hf0 0 rfl (by decide) (by decide) rfl dX7_counted_150 (fun f0 hg0 => ?_)
          refine j_weq (ws' := ((m_w cI cZ ad M) ++ [q_ar xa cI 12 f0])) rfl ?_
          refine j_dup X rfl dX7_counted_151 ?_
          refine j_iconst (v := nI 1) X (by decide) dX7_counted_152 ?_
          refine j_aload_n X 5 dX7_counted_153 rfl rfl ?_
          refine j_get X 0 (C := RX7) (T := TX7) (N := 14) rfl rfl 5 (by decide) mi_X7_counted_X7 RX7 mm_X7_counted_56 (fun x q => q) (v := .int (M 0 3)) rfl dX7_counted_154 ?_
          refine j_top (y := nI 0) (hM.1.2.2) ?_
          refine j_iast0 X 17 0 rfl rfl hg0 1 rfl (by decide) (by decide) rfl dX7_counted_157 (fun f1 hg1 => ?_)
          refine j_weq (ws' := ((m_w cI cZ ad M) ++ [q_ar xa cI 12 f1])) rfl ?_
          refine j_dup X rfl dX7_counted_158 ?_
          refine j_iconst (v := nI 2) X (by decide) dX7_counted_159 ?_
          refine j_aload_n X 5 dX7_counted_160 rfl rfl ?_
          refine j_aload_n X 5 dX7_counted_161 rfl rfl ?_
          refine j_get X 0 (C := RX7) (T := TX7) (N := 14) rfl rfl 12 (by decide) mi_X7_counted_X7 RX7 mm_X7_counted_38 (fun x q => q) (v := .ref (ad 9)) rfl dX7_counted_162 ?_
          refine j_iconst (v := nI 0) X (by decide) dX7_counted_165 ?_
          refine p_callVI X hA hZ (rest := [.int (nI 2), .ref xa, .ref xa]) (m_w cI cZ ad M) [q_ar xa cI 12 f1] (fun u => m_w cI cZ ad u ++ [q_ar xa cI 12 f1]) (List.Perm.refl _) (fun _ => List.perm_append_comm) [.ref (ad 9), .int (nI 0)] 0 rfl rfl (m_standing9 (cI := cI) (cZ := cZ) (cT := cT) ad M (by exact hM.1.2.2) (nI 0)) 2 rfl gX7_counted_X7_standing rfl ⟨rfl, rfl⟩ mh_X7_standing_V ⟨Nat.le_of_ble_eq_true rfl, Nat.le_of_ble_eq_true rfl⟩ rfl (Nat.le_of_ble_eq_true rfl) ⟨by show 0 + 1 + 0 ≤ 1; omega, by show 0 + 12 + 0 ≤ 12; omega⟩ dX7_counted_166 (fun r9 u9 h9 => ?_)
          obtain ⟨h9a, h9b⟩ := h9
          replace h9a := h9a.symm
          subst h9a
          replace h9b := h9b.symm
          subst h9b
          refine j_iast0 X 17 0 rfl rfl hg1 2 rfl (by decide) (by decide) rfl dX7_counted_169 (fun f2 hg2 => ?_)
          refine j_weq (ws' := ((m_w cI cZ ad M) ++ [q_ar xa cI 12 f2])) rfl ?_
          refine j_dup X rfl dX7_counted_170 ?_
          refine j_iconst (v := nI 3) X (by decide) dX7_counted_171 ?_
          refine j_aload_n X 5 dX7_counted_172 rfl rfl ?_
          refine j_aload_n X 5 dX7_counted_173 rfl rfl ?_
          refine j_get X 0 (C := RX7) (T := TX7) (N := 14) rfl rfl 12 (by decide) mi_X7_counted_X7 RX7 mm_X7_counted_38 (fun x q => q) (v := .ref (ad 9)) rfl dX7_counted_174 ?_
          refine j_iconst (v := nI 1) X (by decide) dX7_counted_177 ?_
          refine p_callVI X hA hZ (rest := [.int (nI 3), .ref xa, .ref xa]) (m_w cI cZ ad M) [q_ar xa cI 12 f2] (fun u => m_w cI cZ ad u ++ [q_ar xa cI 12 f2]) (List.Perm.refl _) (fun _ => List.perm_append_comm) [.ref (ad 9), .int (nI 1)] 0 rfl rfl (m_standing9 (cI := cI) (cZ := cZ) (cT := cT) ad M (by exact hM.1.2.2) (nI 1)) 2 rfl gX7_counted_X7_standing rfl ⟨rfl, rfl⟩ mh_X7_standing_V ⟨Nat.le_of_ble_eq_true rfl, Nat.le_of_ble_eq_true rfl⟩ rfl (Nat.le_of_ble_eq_true rfl) ⟨by show 0 + 1 + 0 ≤ 1; omega, by show 0 + 12 + 0 ≤ 12; omega⟩ dX7_counted_178 (fun r9 u9 h9 => ?_)
          obtain ⟨h9a, h9b⟩ := h9
          replace h9a := h9a.symm
          subst h9a
          replace h9b := h9b.symm
          subst h9b
          refine j_iast0 X 17 0 rfl rfl hg2 3 rfl (by decide) (by decide) rfl dX7_counted_181 (fun f3 hg3 => ?_)
          refine j_weq (ws' := ((m_w cI cZ ad M) ++ [q_ar xa cI 12 f3])) rfl ?_
          refine j_dup X rfl dX7_counted_182 ?_
          refine j_iconst (v := nI 4) X (by decide) dX7_counted_183 ?_
          refine j_aload_n X 5 dX7_counted_184 rfl rfl ?_
          refine j_get X 0 (C := RX7) (T := TX7) (N := 14) rfl rfl 12 (by decide) mi_X7_counted_X7 RX7 mm_X7_counted_38 (fun x q => q) (v := .ref (ad 9)) rfl dX7_counted_185 ?_
          refine p_callSI X hA hZ (rest := [.int (nI 4), .ref xa, .ref xa]) (m_w cI cZ ad M) [q_ar xa cI 12 f3] (fun u => m_w cI cZ ad u ++ [q_ar xa cI 12 f3]) (List.Perm.refl _) (fun _ => List.perm_append_comm) [.ref (ad 9)] (m_tunnels (cI := cI) (cZ := cZ) (cT := cT) ad M hM) 1 rfl gX7_counted_X7_tunnels rfl ⟨rfl, rfl⟩ mh_X7_tunnels_S ⟨Nat.le_of_ble_eq_true rfl, Nat.le_of_ble_eq_true rfl⟩ rfl (Nat.le_of_ble_eq_true rfl) ⟨by show 0 + 1 + 0 ≤ 1; omega, by show 0 + 12 + 0 ≤ 12; omega⟩ dX7_counted_188 (fun r9 u9 h9 => ?_)
          obtain ⟨h9a, h9b⟩ := h9
          replace h9a := h9a.symm
          subst h9a
          replace h9b := h9b.symm
          subst h9b
          refine j_iast0 X 17 0 rfl rfl hg3 4 rfl (by decide) (by decide) rfl dX7_counted_191 (fun f4 hg4 => ?_)
          refine j_weq (ws' := ((m_w cI cZ ad M) ++ [q_ar xa cI 12 f4])) rfl ?_
          refine j_dup X rfl dX7_counted_192 ?_
          refine j_iconst (v := nI 5) X (by decide) dX7_counted_193 ?_
          refine j_iload_n X 4 dX7_counted_194 rfl rfl ?_
          refine j_iast0 X 17 0 rfl rfl hg4 5 rfl (by decide) (by decide) rfl dX7_counted_195 (fun f5 hg5 => ?_)
          refine j_weq (ws' := ((m_w cI cZ ad M) ++ [q_ar xa cI 12 f5])) rfl ?_
          refine j_dup X rfl dX7_counted_196 ?_
          refine j_bipush (v := nI 6) X (by decide) dX7_counted_197 ?_
          refine j_iload_n X 3 dX7_counted_199 rfl rfl ?_
          refine j_iast0 X 17 0 rfl rfl hg5 6 rfl (by decide) (by decide) rfl dX7_counted_200 (fun f6 hg6 => ?_)
          refine j_weq (ws' := ((m_w cI cZ ad M) ++ [q_ar xa cI 12 f6])) rfl ?_
          refine j_dup X rfl dX7_counted_201 ?_
          refine j_bipush (v := nI 7) X (by decide) dX7_counted_202 ?_
          refine j_iload X 2 dX7_counted_204 rfl ?_
          refine j_iast0 X 17 0 rfl rfl hg6 7 rfl (by decide) (by decide) rfl dX7_counted_206 (fun f7 hg7 => ?_)
          refine j_weq (ws' := ((m_w cI cZ ad M) ++ [q_ar xa cI 12 f7])) rfl ?_
          refine j_dup X rfl dX7_counted_207 ?_
          refine j_bipush (v := nI 8) X (by decide) dX7_counted_208 ?_
          refine j_aload_n X 5 dX7_counted_210 rfl rfl ?_
          refine j_get X 0 (C := RX7) (T := TX7) (N := 14) rfl rfl 12 (by decide) mi_X7_counted_X7 RX7 mm_X7_counted_38 (fun x q => q) (v := .ref (ad 9)) rfl dX7_counted_211 ?_
          refine j_getN X 9 rfl rfl 1 (by decide) mi_X7_counted_X6 (hZ.2.2.2.1.1 _ xn_1) (fun x q => q) (v := .int (M 9 1)) rfl dX7_counted_214 ?_
          refine j_top (y := nI 0) (hM.2.2.2) ?_
          refine j_iast0 X 17 0 rfl rfl hg7 8 rfl (by decide) (by decide) rfl dX7_counted_217 (fun f8 hg8 => ?_)
          refine j_weq (ws' := ((m_w cI cZ ad M) ++ [q_ar xa cI 12 f8])) rfl ?_
          refine j_dup X rfl dX7_counted_218 ?_
          refine j_bipush (v := nI 9) X (by decide) dX7_counted_219 ?_
          refine j_iload X 1 dX7_counted_221 rfl ?_
          refine j_iast0 X 17 0 rfl rfl hg8 9 rfl (by decide) (by decide) rfl dX7_counted_223 (fun f9 hg9 => ?_)
          refine j_weq (ws' := ((m_w cI cZ ad M) ++ [q_ar xa cI 12 f9])) rfl ?_
          refine j_dup X rfl dX7_counted_224 ?_
          refine j_bipush (v := nI 10) X (by decide) dX7_counted_225 ?_
          refine j_aload_n X 5 dX7_counted_227 rfl rfl ?_
          refine j_get X 0 (C := RX7) (T := TX7) (N := 14) rfl rfl 2 (by decide) mi_X7_counted_X7 RX7 mm_X7_counted_69 (fun x q => q) (v := .int (M 0 1)) rfl dX7_counted_228 ?_
          refine j_top (y := nI 0) (hM.1.1) ?_
          refine j_iast0 X 17 0 rfl rfl hg9 10 rfl (by decide) (by decide) rfl dX7_counted_231 (fun f10 hg10 => ?_)
          refine j_weq (ws' := ((m_w cI cZ ad M) ++ [q_ar xa cI 12 f10])) rfl ?_
          refine j_dup X rfl dX7_counted_232 ?_
          refine j_bipush (v := nI 11) X (by decide) dX7_counted_233 ?_
          refine j_aload_n X 5 dX7_counted_235 rfl rfl ?_
          refine j_get X 0 (C := RX7) (T := TX7) (N := 14) rfl rfl 4 (by decide) mi_X7_counted_X7 RX7 mm_X7_counted_208 (fun x q => q) (v := .int (M 0 2)) rfl dX7_counted_236 ?_
          refine j_top (y := nI 0) (hM.1.2.1) ?_
          refine j_iast0 X 17 0 rfl rfl hg10 11 rfl (by decide) (by decide) rfl dX7_counted_239 (fun f11 hg11 => ?_)
          refine j_weq (ws' := ((m_w cI cZ ad M) ++ [q_ar xa cI 12 f11])) rfl ?_
          refine j_astore (lo' := [(6, .ref xa), (5, .int (nI 0)), (4, .int (nI 0)), (3, .int (nI 0)), (2, .int (nI 0)), (0, .ref (ad 0)), (1, .int (nI cc))]) X dX7_counted_240 (by decide) rfl ?_
          refine j_aload X 0 dX7_counted_242 rfl ?_
          refine j_iload_n X 6 dX7_counted_244 rfl rfl ?_
          refine j_iald X 17 0 (n := 12) (f := f11) (cA := cI) rfl rfl cc rfl hcc (by decide) dX7_counted_245 ?_
          refine j_sublist (ws' := m_w cI cZ ad M) (List.sublist_append_left _ _) ?_
          exact j_iret X M rfl dX7_counted_246 ⟨hg11 cc, rfl⟩
        · exact absurd c2 (by omega)
      · exact absurd c1 (by omega)
    | succ d ih =>
      intro j hj
      refine j_iload X 0 dX7_counted_13 rfl ?_
      refine j_sipush (v := nI 144) X (by decide) dX7_counted_15 ?_
      refine j_ncmp_ge X j 144 rfl rfl (by omega) (by omega) (tgt := 99) dX7_counted_18 (by decide) (fun c1 => ?_) (fun c1 => ?_)
      · exact absurd c1 (by omega)
      · refine j_iload_n X 4 dX7_counted_21 rfl rfl ?_
        refine j_aload_n X 5 dX7_counted_22 rfl rfl ?_
        refine j_get X 0 (C := RX7) (T := TX7) (N := 14) rfl rfl 12 (by decide) mi_X7_counted_X7 RX7 mm_X7_counted_38 (fun x q => q) (v := .ref (ad 9)) rfl dX7_counted_23 ?_
        refine j_getN X 9 rfl rfl 2 (by decide) mi_X7_counted_X6 (hZ.2.2.2.1.1 _ xn_2) (fun x q => q) (v := .ref (ad 10)) rfl dX7_counted_26 ?_
        refine j_bipush (v := nI 8) X (by decide) dX7_counted_29 ?_
        refine j_iload X 0 dX7_counted_31 rfl ?_
        refine j_imulN X 8 j dX7_counted_33 ?_
        refine j_iconst (v := nI 1) X (by decide) dX7_counted_34 ?_
        refine j_iadd X dX7_counted_35 ?_
        refine j_top (y := nI ((8 * j) + 1)) (nI_add (8 * j) 1) ?_
        refine j_iald X 10 0 rfl rfl (8 * j + 1) rfl (by omega) (by decide) dX7_counted_36 ?_
        refine j_top (y := -1) ((hM.2.1 _ (by omega)).trans (fz_1 j)) ?_
        refine j_if_le X (tgt := 44) dX7_counted_37 (by decide) (fun c9 => ?_) (fun c9 => ?_)
        · refine j_iconst (v := nI 0) X (by decide) dX7_counted_44 ?_
          refine j_iadd X dX7_counted_45 ?_
          refine j_top (y := nI (0 + 0)) (nI_add 0 0) ?_
          refine j_istore_n (lo' := [(2, .int (nI (0 + 0))), (6, .int (nI j)), (5, .int (nI 0)), (4, .int (nI 0)), (3, .int (nI 0)), (0, .ref (ad 0)), (1, .int (nI cc))]) X dX7_counted_46 rfl (by decide) rfl ?_
          refine j_iload_n X 4 dX7_counted_47 rfl rfl ?_
          refine j_aload_n X 5 dX7_counted_48 rfl rfl ?_
          refine j_get X 0 (C := RX7) (T := TX7) (N := 14) rfl rfl 12 (by decide) mi_X7_counted_X7 RX7 mm_X7_counted_38 (fun x q => q) (v := .ref (ad 9)) rfl dX7_counted_49 ?_
          refine j_getN X 9 rfl rfl 2 (by decide) mi_X7_counted_X6 (hZ.2.2.2.1.1 _ xn_2) (fun x q => q) (v := .ref (ad 10)) rfl dX7_counted_52 ?_
          refine j_bipush (v := nI 8) X (by decide) dX7_counted_55 ?_
          refine j_iload X 1 dX7_counted_57 rfl ?_
          refine j_imulN X 8 j dX7_counted_59 ?_
          refine j_iconst (v := nI 1) X (by decide) dX7_counted_60 ?_
          refine j_iadd X dX7_counted_61 ?_
          refine j_top (y := nI ((8 * j) + 1)) (nI_add (8 * j) 1) ?_
          refine j_iald X 10 0 rfl rfl (8 * j + 1) rfl (by omega) (by decide) dX7_counted_62 ?_
          refine j_top (y := -1) ((hM.2.1 _ (by omega)).trans (fz_1 j)) ?_
          refine j_if_ne X (tgt := 70) dX7_counted_63 (by decide) (fun c9 => ?_) (fun c9 => ?_)
          · refine j_iconst (v := nI 0) X (by decide) dX7_counted_70 ?_
            refine j_iadd X dX7_counted_71 ?_
            refine j_top (y := nI (0 + 0)) (nI_add 0 0) ?_
            refine j_istore_n (lo' := [(3, .int (nI (0 + 0))), (2, .int (nI (0 + 0))), (6, .int (nI j)), (5, .int (nI 0)), (4, .int (nI 0)), (0, .ref (ad 0)), (1, .int (nI cc))]) X dX7_counted_72 rfl (by decide) rfl ?_
            refine j_iload X 4 dX7_counted_73 rfl ?_
            refine j_aload_n X 5 dX7_counted_75 rfl rfl ?_
            refine j_get X 0 (C := RX7) (T := TX7) (N := 14) rfl rfl 12 (by decide) mi_X7_counted_X7 RX7 mm_X7_counted_38 (fun x q => q) (v := .ref (ad 9)) rfl dX7_counted_76 ?_
            refine j_getN X 9 rfl rfl 2 (by decide) mi_X7_counted_X6 (hZ.2.2.2.1.1 _ xn_2) (fun x q => q) (v := .ref (ad 10)) rfl dX7_counted_79 ?_
            refine j_bipush (v := nI 8) X (by decide) dX7_counted_82 ?_
            refine j_iload X 2 dX7_counted_84 rfl ?_
            refine j_imulN X 8 j dX7_counted_86 ?_
            refine j_iconst (v := nI 5) X (by decide) dX7_counted_87 ?_
            refine j_iadd X dX7_counted_88 ?_
            refine j_top (y := nI ((8 * j) + 5)) (nI_add (8 * j) 5) ?_
            refine j_iald X 10 0 rfl rfl (8 * j + 5) rfl (by omega) (by decide) dX7_counted_89 ?_
            refine j_top (y := nI 0) ((hM.2.1 _ (by omega)).trans (fz_n j 5 (by decide) (by decide))) ?_
            refine j_iadd X dX7_counted_90 ?_
            refine j_top (y := nI (0 + 0)) (nI_add 0 0) ?_
            refine j_istore (lo' := [(4, .int (nI (0 + 0))), (3, .int (nI (0 + 0))), (2, .int (nI (0 + 0))), (6, .int (nI j)), (5, .int (nI 0)), (0, .ref (ad 0)), (1, .int (nI cc))]) X dX7_counted_91 (by decide) rfl ?_
            refine j_iinc (v := nI (j + 1)) (lo' := [(6, .int (nI (j + 1))), (4, .int (nI (0 + 0))), (3, .int (nI (0 + 0))), (2, .int (nI (0 + 0))), (5, .int (nI 0)), (0, .ref (ad 0)), (1, .int (nI cc))]) X 3 dX7_counted_93 rfl ((congrArg (nI j + ·) (show Int32.ofInt 1 = nI 1 by decide)).trans (nI_add j 1)) (by decide) rfl ?_
            refine j_goto X (tgt := 13) dX7_counted_96 (by decide) ?_
            refine j_lo [0, 4, 1, 2, 3, 5, 6] (lo' := [(6, .int (nI (j + 1))), (5, .int (nI 0)), (4, .int (nI 0)), (3, .int (nI 0)), (2, .int (nI 0)), (0, .ref (ad 0)), (1, .int (nI cc))]) rfl ?_
            exact ih (j + 1) (by omega)
          · exact absurd c9 (by decide)
        · exact absurd c9 (by decide)
  refine j_lo [0, 1, 2, 3, 4, 5, 6] (lo' := [(6, .int (nI 0)), (5, .int (nI 0)), (4, .int (nI 0)), (3, .int (nI 0)), (2, .int (nI 0)), (0, .ref (ad 0)), (1, .int (nI cc))]) rfl ?_
  exact L13 144 0 (by omega)
theorem mm_X7_count_48 : Cond.fieldLink RX7 48 RX7 (TX7 0).2.1 (TX7 0).2.2.1 ∈ wsX7_count := by decide +kernel
theorem mi_X7_count_X7 : ∀ w ∈ u_ws RX7 TX7 14, w ∈ wsX7_count := by decide +kernel
theorem mh_X7_counted_V : yX7_counted.cls = RX7 ∧ yX7_counted.cls ≠ "java/lang/invoke/MethodHandle" ∧ yX7_counted.cls ≠ "java/lang/invoke/VarHandle" ∧ (parseMethodDescriptor yX7_counted.desc).map (fun d => d.parameters.length) = some 1 := by decide +kernel
set_option maxRecDepth 100000 in
set_option maxHeartbeats 4000000 in
theorem m_count (ad : Nat → Nat) (M : mS) (hM : mfr M) (x : Int32) : jI l G K (j_ty cI cZ cT cB) yX7_count wsX7_count { frames := 3, cells := 1, slots := 12, locals := 71 } (m_w cI cZ ad M) [.ref (ad 0), .int x] 1 12 (fun r (u : mS) => r = 0 ∧ u 0 0 = if ¬ x < 0 ∧ x < 12 then nI 0 else nI 1) (fun u => m_w cI cZ ad u) := by
  refine j_ofI (cc := cX7_count) (maxL := 2) (by decide) rfl (Nat.le_of_ble_eq_true rfl) ?_
  intro p e s m args below meth c X hnm hZ
  have hA : ∀ q, s.heap.size ≤ q → (va_A (m_w cI cZ ad M) s.heap.size) q := fun _ h => Or.inr h
  refine j_aload_n X 0 dX7_count_0 rfl rfl ?_
  refine j_iconst (v := nI 0) X (by decide) dX7_count_1 ?_
  refine j_put X 0 (C := RX7) (T := TX7) (N := 14) rfl rfl 0 (by decide) mi_X7_count_X7 RX7 mm_X7_count_48 (fun x q => q) tyX7_ok nmX7 rfl (ty := .int) (v := .int (nI 0)) (by decide +kernel) rfl rfl (Nat.le_of_ble_eq_true rfl) dX7_count_2 ?_
  refine j_weq (ws' := (m_w cI cZ ad (m_up M 0 0 (nI 0)))) rfl ?_
  refine j_iload_n X 1 dX7_count_5 rfl rfl ?_
  refine j_iconst (v := nI 0) X (by decide) dX7_count_6 ?_
  refine j_bipush (v := nI 11) X (by decide) dX7_count_7 ?_
  refine p_callSI X hA hZ (rest := []) [] (m_w cI cZ ad (m_up M 0 0 (nI 0))) (fun _ => (m_w cI cZ ad (m_up M 0 0 (nI 0)))) (List.Perm.refl _) (fun _ => nil_perm (m_w cI cZ ad (m_up M 0 0 (nI 0)))) [.int x, .int (nI 0), .int (nI 11)] (m_isIn x (nI 0) (nI 11)) 3 rfl gX7_count_X7_isIn rfl ⟨rfl, rfl⟩ mh_X7_isIn_P ⟨Nat.le_of_ble_eq_true rfl, Nat.le_of_ble_eq_true rfl⟩ rfl (Nat.le_of_ble_eq_true rfl) ⟨by show 0 + 0 ≤ 1; omega, by show 0 + 0 ≤ 12; omega⟩ dX7_count_9 (fun r9 u9 h9 => ?_)
  replace h9 := h9.symm
  subst h9
  refine j_if_eq X (tgt := 23) dX7_count_12 (by decide) (fun c1 => ?_) (fun c1 => ?_)
  · refine j_aload_n X 0 dX7_count_23 rfl rfl ?_
    refine j_iconst (v := nI 1) X (by decide) dX7_count_24 ?_
    have hq : ¬ (¬ x < 0 ∧ x < 12) := fun q => absurd (c1.symm.trans (in_1 q.1 ((up_to (k := 11) (by decide) q.1).1 q.2))) (by decide)
    refine j_wid (k1 := 0 + 1) (q1 := 0 + 12) (by decide) (by decide) ?_
    refine p_callVI X hA hZ (rest := []) (m_w cI cZ ad (m_up M 0 0 (nI 0))) [] (fun u => m_w cI cZ ad u) (nil_perm _).symm (fun _ => List.Perm.refl _) [.int (nI 1)] 0 rfl rfl (m_no (cI := cI) (cZ := cZ) (cT := cT) ad (m_up M 0 0 (nI 0)) (nI 1)) 1 rfl gX7_count_X7_no rfl ⟨rfl, rfl⟩ mh_X7_no_V ⟨Nat.le_of_ble_eq_true rfl, Nat.le_of_ble_eq_true rfl⟩ rfl (Nat.le_of_ble_eq_true rfl) ⟨by show 0 + 1 + 0 ≤ 1; omega, by show 0 + 12 + 0 ≤ 12; omega⟩ dX7_count_25 (fun r9 u9 h9 => ?_)
    obtain ⟨h9a, h9b⟩ := h9
    replace h9a := h9a.symm
    subst h9a
    replace h9b := h9b.symm
    subst h9b
    exact j_iret X (m_up (m_up M 0 0 (nI 0)) 0 0 (nI 1)) rfl dX7_count_28 ⟨rfl, (by rw [if_neg hq]; rfl)⟩
  · have hq0 : ¬ x < 0 ∧ ¬ 11 < x := Decidable.byContradiction fun q => c1 (in_n q)
    have hq : ¬ x < 0 ∧ x < 12 := ⟨hq0.1, (up_to (k := 11) (by decide) hq0.1).2 hq0.2⟩
    obtain ⟨n, hn, en⟩ := nI_of2 (M := nI 11) (n := 11) (nI_toInt (by decide)) hq0.1 (Int32.not_lt.1 hq0.2)
    subst en
    refine j_aload_n X 0 dX7_count_15 rfl rfl ?_
    refine j_iload_n X 1 dX7_count_16 rfl rfl ?_
    refine p_callVI X hA hZ (rest := []) (m_w cI cZ ad (m_up M 0 0 (nI 0))) [] (fun u => m_w cI cZ ad u) (nil_perm _).symm (fun _ => List.Perm.refl _) [.int (nI n)] 0 rfl rfl (m_counted (cI := cI) (cZ := cZ) (cT := cT) ad (m_up M 0 0 (nI 0)) (by exact ⟨⟨hM.1.1, hM.1.2.1, hM.1.2.2⟩, hM.2.1, hM.2.2.1, hM.2.2.2⟩) n (by omega)) 1 rfl gX7_count_X7_counted rfl ⟨rfl, rfl⟩ mh_X7_counted_V ⟨Nat.le_of_ble_eq_true rfl, Nat.le_of_ble_eq_true rfl⟩ rfl (Nat.le_of_ble_eq_true rfl) ⟨by show 0 + 1 ≤ 1; omega, by show 0 + 12 ≤ 12; omega⟩ dX7_count_17 (fun r9 u9 h9 => ?_)
    obtain ⟨h9a, h9b⟩ := h9
    replace h9a := h9a.symm
    subst h9a
    replace h9b := h9b.symm
    subst h9b
    refine j_goto X (tgt := 28) dX7_count_20 (by decide) ?_
    exact j_iret X (m_up M 0 0 (nI 0)) rfl dX7_count_28 ⟨rfl, by rw [if_pos hq]; rfl⟩
end ZMN
