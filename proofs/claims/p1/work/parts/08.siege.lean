section ZM4
theorem hi_X1_hasTeam_X1 : ∀ w ∈ wsX10, w ∈ wsX1_hasTeam := by decide +kernel
theorem hl_X1_hasTeam_24 : Cond.fieldLink RX1 24 RX1 (TX1 2).2.1 (TX1 2).2.2.1 ∈ wsX1_hasTeam := by decide +kernel
set_option maxRecDepth 100000 in
set_option maxHeartbeats 4000000 in
/-- X1_hasTeam -/
theorem c_X1_hasTeam (l : Launch) (G : va_G) (cI cZ cT : ClassId) (o : Nat) (S : zS) (w : Nat) (x : Int32) (hw : w < 2) : zI l G cI cZ cT o yX1_hasTeam wsX1_hasTeam { frames := 0, cells := 0, slots := 0, locals := 0 } [.ref (o + pS w), .int x] S (fun r u => r = s_hasTeam S w x ∧ u = S) := by
  refine z_ofZb (cc := cX1_hasTeam) (maxL := 2) (by decide) rfl (by simp [lg_sl, Value.category]) ?_
  intro p9 e9 s9 m9 a9 b9 h9 c9 X
  refine v_lo [0, 1] (lo' := [(0, .ref (o + pS w)), (1, .int x)]) rfl ?_
  refine v_iload_n X 1 dX1_hasTeam_0 rfl rfl ?_
  refine v_if_lt X (tgt := 16) dX1_hasTeam_1 (by decide) (fun c_1 => ?_) (fun c_1 => ?_)
  ·
    refine v_iconst (v := 0) X (by decide) dX1_hasTeam_16 ?_
    exact v_zret X rfl dX1_hasTeam_17 (by simp [s_hasTeam, c_1])
  ·
    refine v_iload_n X 1 dX1_hasTeam_4 rfl rfl ?_
    refine v_aload_n X 0 dX1_hasTeam_5 rfl rfl ?_
    refine v_getS X (by omega) 2 (by decide) hi_X1_hasTeam_X1 hl_X1_hasTeam_24 rfl (v := .int (S w 12 0)) rfl dX1_hasTeam_6 ?_
    refine v_icmp_ge X (tgt := 16) dX1_hasTeam_9 (by decide) (fun c_9 => ?_) (fun c_9 => ?_)
    ·
      refine v_iconst (v := 0) X (by decide) dX1_hasTeam_16 ?_
      exact v_zret X rfl dX1_hasTeam_17 (by simp [s_hasTeam, c_1, c_9])
    ·
      refine v_iconst (v := 1) X (by decide) dX1_hasTeam_12 ?_
      refine v_goto (tgt := 17) X dX1_hasTeam_13 (by decide) ?_
      exact v_zret X rfl dX1_hasTeam_17 (by simp [s_hasTeam, c_1, c_9])
theorem hi_X1_teamsLeft_X1 : ∀ w ∈ wsX10, w ∈ wsX1_teamsLeft := by decide +kernel
theorem hl_X1_teamsLeft_24 : Cond.fieldLink RX1 24 RX1 (TX1 2).2.1 (TX1 2).2.2.1 ∈ wsX1_teamsLeft := by decide +kernel
theorem hl_X1_teamsLeft_20 : Cond.fieldLink RX1 20 RX1 (TX1 1).2.1 (TX1 1).2.2.1 ∈ wsX1_teamsLeft := by decide +kernel
theorem hi_X1_teamsLeft_X3 : ∀ w ∈ wsX30, w ∈ wsX1_teamsLeft := by decide +kernel
theorem hl_X1_teamsLeft_39 : Cond.fieldLink RX1 39 RX3 (TX3 0).2.1 (TX3 0).2.2.1 ∈ wsX1_teamsLeft := by decide +kernel
theorem hy_X3_isGone_V : yX3_isGone.cls = RX3 ∧ yX3_isGone.cls ≠ "java/lang/invoke/MethodHandle" ∧ yX3_isGone.cls ≠ "java/lang/invoke/VarHandle" ∧ (parseMethodDescriptor yX3_isGone.desc).map (fun d => d.parameters.length) = some 0 := by decide +kernel
set_option maxRecDepth 100000 in
set_option maxHeartbeats 4000000 in
/-- X1_teamsLeft -/
theorem c_X1_teamsLeft (l : Launch) (G : va_G) (cI cZ cT : ClassId) (o : Nat) (S : zS) (w n : Nat) (x : Int32) (hw : w < 2) (hok : z_ok S w n) : zI l G cI cZ cT o yX1_teamsLeft wsX1_teamsLeft { frames := 1, cells := 0, slots := 0, locals := 20 } [.ref (o + pS w), .int x] S (fun r u => r = s_left S w x n ∧ u = S) := by
  refine z_ofI (cc := cX1_teamsLeft) (maxL := 4) (by decide) rfl (by simp [lg_sl, Value.category]) ?_
  intro p9 e9 s9 m9 a9 b9 h9 c9 X
  refine v_lo [0, 1] (lo' := [(0, .ref (o + pS w)), (1, .int x)]) rfl ?_
  have hn8 := hok.2.1
  refine v_iconst (v := 0) X (by decide) dX1_teamsLeft_0 ?_
  refine v_istore_n (lo' := [(2, .int 0), (0, .ref (o + pS w)), (1, .int x)]) X dX1_teamsLeft_1 rfl (by decide) rfl ?_
  refine v_iconst (v := 0) X (by decide) dX1_teamsLeft_2 ?_
  refine v_istore_n (lo' := [(3, .int 0), (2, .int 0), (0, .ref (o + pS w)), (1, .int x)]) X dX1_teamsLeft_3 rfl (by decide) rfl ?_
  have L_4 : ∀ (d i : Nat), i + d = n → z_V p9 l e9 (headSpec wsX1_teamsLeft { frames := 1, cells := 0, slots := 0, locals := 20 }).room s9 m9 a9 b9 h9 c9 (MQ b9 (va_Qi (fun r u => r = s_left S w x n ∧ u = S) (z_B G cI cZ cT o) (z_A o s9.heap.size)) a9 s9 0 0 (z_A o s9.heap.size)) G cI cZ cT o 4 (S) 4 [(0, .ref (o + pS w)), (1, .int x), (2, .int (s_left S w x i)), (3, .int (nI i))] [] := by
    intro d
    induction d with
    | zero =>
      intro i hi_4
      have he_4 : i = n := by omega
      rw [he_4]
      refine v_iload_n X 3 dX1_teamsLeft_4 rfl rfl ?_
      refine v_aload_n X 0 dX1_teamsLeft_5 rfl rfl ?_
      refine v_getS X (by omega) 2 (by decide) hi_X1_teamsLeft_X1 hl_X1_teamsLeft_24 rfl (v := .int (S w 12 0)) rfl dX1_teamsLeft_6 ?_
      refine v_top (y := nI n) ((hok).1) ?_
      refine v_ncmp_ge X n n rfl rfl (by omega) (by omega) (tgt := 46) dX1_teamsLeft_9 (by decide) (fun c_9 => ?_) (fun c_9 => ?_)
      ·
        refine v_iload_n X 2 dX1_teamsLeft_46 rfl rfl ?_
        exact v_iret X dX1_teamsLeft_47 (by exact ⟨rfl, rfl⟩)
      ·
        exact absurd c_9 (by omega)
    | succ d ih_4 =>
      intro i hi_4
      refine v_iload_n X 3 dX1_teamsLeft_4 rfl rfl ?_
      refine v_aload_n X 0 dX1_teamsLeft_5 rfl rfl ?_
      refine v_getS X (by omega) 2 (by decide) hi_X1_teamsLeft_X1 hl_X1_teamsLeft_24 rfl (v := .int (S w 12 0)) rfl dX1_teamsLeft_6 ?_
      refine v_top (y := nI n) ((hok).1) ?_
      refine v_ncmp_ge X i n rfl rfl (by omega) (by omega) (tgt := 46) dX1_teamsLeft_9 (by decide) (fun c_9 => ?_) (fun c_9 => ?_)
      ·
        exact absurd c_9 (by omega)
      ·
        refine v_aload_n X 0 dX1_teamsLeft_12 rfl rfl ?_
        refine v_getS X (by omega) 1 (by decide) hi_X1_teamsLeft_X1 hl_X1_teamsLeft_20 rfl (v := .ref (o + pL w)) rfl dX1_teamsLeft_13 ?_
        refine v_iload_n X 3 dX1_teamsLeft_16 rfl rfl ?_
        refine v_aald X (w := w) (by omega) i rfl (by omega) dX1_teamsLeft_17 ?_
        refine v_getT X (by omega) (by omega) 0 (by decide) hi_X1_teamsLeft_X3 hl_X1_teamsLeft_39 rfl (v := .int (S w 14 i)) rfl dX1_teamsLeft_18 ?_
        refine v_iload_n X 1 dX1_teamsLeft_21 rfl rfl ?_
        refine v_icmp_ne X (tgt := 40) dX1_teamsLeft_22 (by decide) (fun c_22 => ?_) (fun c_22 => ?_)
        ·
          refine v_iinc (v := nI (i + 1)) (lo' := [(3, .int (nI (i + 1))), (0, .ref (o + pS w)), (1, .int x), (2, .int (s_left S w x i))]) X 3 dX1_teamsLeft_40 rfl (nI_1 i) (by decide) rfl ?_
          refine v_goto (tgt := 4) X dX1_teamsLeft_43 (by decide) ?_
          refine v_lo [1, 2, 3, 0] (lo' := [(0, .ref (o + pS w)), (1, .int x), (2, .int (s_left S w x i)), (3, .int (nI (i + 1)))]) rfl ?_
          refine v_eq (S' := S) (lo' := [(0, .ref (o + pS w)), (1, .int x), (2, .int (s_left S w x (i + 1))), (3, .int (nI (i + 1)))]) (by rfl) (by simp [s_left, c_9, c_22]) ?_
          exact ih_4 (i + 1) (by omega)
        ·
          refine v_aload_n X 0 dX1_teamsLeft_25 rfl rfl ?_
          refine v_getS X (by omega) 1 (by decide) hi_X1_teamsLeft_X1 hl_X1_teamsLeft_20 rfl (v := .ref (o + pL w)) rfl dX1_teamsLeft_26 ?_
          refine v_iload_n X 3 dX1_teamsLeft_29 rfl rfl ?_
          refine v_aald X (w := w) (by omega) i rfl (by omega) dX1_teamsLeft_30 ?_
          refine v_callVIf X [] (pT w i) (pT_lt (by omega) (by omega)) (c_X3_isGone l G cI cZ cT o S w i (by omega) (by omega)) (zc_T cI cZ cT o _ (by omega) (by omega)) (C := RX3) (T := TX3) (N := 16) rfl 0 rfl gX1_teamsLeft_X3_isGone rfl ⟨rfl, rfl⟩ hy_X3_isGone_V ⟨Nat.le_of_ble_eq_true rfl, Nat.le_of_ble_eq_true rfl⟩ rfl (Nat.le_of_ble_eq_true rfl) dX1_teamsLeft_31 ?_
          refine v_if_ne X (tgt := 40) dX1_teamsLeft_34 (by decide) (fun c_34 => ?_) (fun c_34 => ?_)
          ·
            refine v_iinc (v := nI (i + 1)) (lo' := [(3, .int (nI (i + 1))), (0, .ref (o + pS w)), (1, .int x), (2, .int (s_left S w x i))]) X 3 dX1_teamsLeft_40 rfl (nI_1 i) (by decide) rfl ?_
            refine v_goto (tgt := 4) X dX1_teamsLeft_43 (by decide) ?_
            refine v_lo [1, 2, 3, 0] (lo' := [(0, .ref (o + pS w)), (1, .int x), (2, .int (s_left S w x i)), (3, .int (nI (i + 1)))]) rfl ?_
            refine v_eq (S' := S) (lo' := [(0, .ref (o + pS w)), (1, .int x), (2, .int (s_left S w x (i + 1))), (3, .int (nI (i + 1)))]) (by rfl) (by simp [s_left, c_9, c_22, c_34]) ?_
            exact ih_4 (i + 1) (by omega)
          ·
            refine v_iinc (v := s_left S w x i + 1) (lo' := [(2, .int (s_left S w x i + 1)), (0, .ref (o + pS w)), (1, .int x), (3, .int (nI i))]) X 2 dX1_teamsLeft_37 rfl rfl (by decide) rfl ?_
            refine v_iinc (v := nI (i + 1)) (lo' := [(3, .int (nI (i + 1))), (2, .int (s_left S w x i + 1)), (0, .ref (o + pS w)), (1, .int x)]) X 3 dX1_teamsLeft_40 rfl (nI_1 i) (by decide) rfl ?_
            refine v_goto (tgt := 4) X dX1_teamsLeft_43 (by decide) ?_
            refine v_lo [2, 3, 1, 0] (lo' := [(0, .ref (o + pS w)), (1, .int x), (2, .int (s_left S w x i + 1)), (3, .int (nI (i + 1)))]) rfl ?_
            refine v_eq (S' := S) (lo' := [(0, .ref (o + pS w)), (1, .int x), (2, .int (s_left S w x (i + 1))), (3, .int (nI (i + 1)))]) (by rfl) (by simp [s_left, c_9, c_22, c_34]) ?_
            exact ih_4 (i + 1) (by omega)
  refine v_lo [2, 3, 1, 0] (lo' := [(0, .ref (o + pS w)), (1, .int x), (2, .int 0), (3, .int 0)]) rfl ?_
  refine v_eq (S' := S) (lo' := [(0, .ref (o + pS w)), (1, .int x), (2, .int (s_left S w x 0)), (3, .int (nI 0))]) (by rfl) (by rfl) ?_
  exact L_4 (n) 0 (by omega)
theorem hi_X1_missedOrders_X1 : ∀ w ∈ wsX10, w ∈ wsX1_missedOrders := by decide +kernel
theorem hl_X1_missedOrders_24 : Cond.fieldLink RX1 24 RX1 (TX1 2).2.1 (TX1 2).2.2.1 ∈ wsX1_missedOrders := by decide +kernel
theorem hl_X1_missedOrders_20 : Cond.fieldLink RX1 20 RX1 (TX1 1).2.1 (TX1 1).2.2.1 ∈ wsX1_missedOrders := by decide +kernel
theorem hi_X1_missedOrders_X3 : ∀ w ∈ wsX30, w ∈ wsX1_missedOrders := by decide +kernel
theorem hl_X1_missedOrders_46 : Cond.fieldLink RX1 46 RX3 (TX3 4).2.1 (TX3 4).2.2.1 ∈ wsX1_missedOrders := by decide +kernel
set_option maxRecDepth 100000 in
set_option maxHeartbeats 4000000 in
/-- X1_missedOrders -/
theorem c_X1_missedOrders (l : Launch) (G : va_G) (cI cZ cT : ClassId) (o : Nat) (S : zS) (w n : Nat) (hw : w < 2) (hok : z_ok S w n) : zI l G cI cZ cT o yX1_missedOrders wsX1_missedOrders { frames := 0, cells := 0, slots := 0, locals := 0 } [.ref (o + pS w)] S (fun r u => r = z_sum (S w 18) n ∧ u = S) := by
  refine z_ofI (cc := cX1_missedOrders) (maxL := 3) (by decide) rfl (by simp [lg_sl, Value.category]) ?_
  intro p9 e9 s9 m9 a9 b9 h9 c9 X
  refine v_lo [0] (lo' := [(0, .ref (o + pS w))]) rfl ?_
  have hn8 := hok.2.1
  refine v_iconst (v := 0) X (by decide) dX1_missedOrders_0 ?_
  refine v_istore_n (lo' := [(1, .int 0), (0, .ref (o + pS w))]) X dX1_missedOrders_1 rfl (by decide) rfl ?_
  refine v_iconst (v := 0) X (by decide) dX1_missedOrders_2 ?_
  refine v_istore_n (lo' := [(2, .int 0), (1, .int 0), (0, .ref (o + pS w))]) X dX1_missedOrders_3 rfl (by decide) rfl ?_
  have L_4 : ∀ (d i : Nat), i + d = n → z_V p9 l e9 (headSpec wsX1_missedOrders { frames := 0, cells := 0, slots := 0, locals := 0 }).room s9 m9 a9 b9 h9 c9 (MQ b9 (va_Qi (fun r u => r = z_sum (S w 18) n ∧ u = S) (z_B G cI cZ cT o) (z_A o s9.heap.size)) a9 s9 0 0 (z_A o s9.heap.size)) G cI cZ cT o 3 (S) 4 [(0, .ref (o + pS w)), (1, .int (z_sum (S w 18) i)), (2, .int (nI i))] [] := by
    intro d
    induction d with
    | zero =>
      intro i hi_4
      have he_4 : i = n := by omega
      rw [he_4]
      refine v_iload_n X 2 dX1_missedOrders_4 rfl rfl ?_
      refine v_aload_n X 0 dX1_missedOrders_5 rfl rfl ?_
      refine v_getS X (by omega) 2 (by decide) hi_X1_missedOrders_X1 hl_X1_missedOrders_24 rfl (v := .int (S w 12 0)) rfl dX1_missedOrders_6 ?_
      refine v_top (y := nI n) ((hok).1) ?_
      refine v_ncmp_ge X n n rfl rfl (by omega) (by omega) (tgt := 30) dX1_missedOrders_9 (by decide) (fun c_9 => ?_) (fun c_9 => ?_)
      ·
        refine v_iload_n X 1 dX1_missedOrders_30 rfl rfl ?_
        exact v_iret X dX1_missedOrders_31 (by exact ⟨rfl, rfl⟩)
      ·
        exact absurd c_9 (by omega)
    | succ d ih_4 =>
      intro i hi_4
      refine v_iload_n X 2 dX1_missedOrders_4 rfl rfl ?_
      refine v_aload_n X 0 dX1_missedOrders_5 rfl rfl ?_
      refine v_getS X (by omega) 2 (by decide) hi_X1_missedOrders_X1 hl_X1_missedOrders_24 rfl (v := .int (S w 12 0)) rfl dX1_missedOrders_6 ?_
      refine v_top (y := nI n) ((hok).1) ?_
      refine v_ncmp_ge X i n rfl rfl (by omega) (by omega) (tgt := 30) dX1_missedOrders_9 (by decide) (fun c_9 => ?_) (fun c_9 => ?_)
      ·
        exact absurd c_9 (by omega)
      ·
        refine v_iload_n X 1 dX1_missedOrders_12 rfl rfl ?_
        refine v_aload_n X 0 dX1_missedOrders_13 rfl rfl ?_
        refine v_getS X (by omega) 1 (by decide) hi_X1_missedOrders_X1 hl_X1_missedOrders_20 rfl (v := .ref (o + pL w)) rfl dX1_missedOrders_14 ?_
        refine v_iload_n X 2 dX1_missedOrders_17 rfl rfl ?_
        refine v_aald X (w := w) (by omega) i rfl (by omega) dX1_missedOrders_18 ?_
        refine v_getT X (by omega) (by omega) 4 (by decide) hi_X1_missedOrders_X3 hl_X1_missedOrders_46 rfl (v := .int (S w 18 i)) rfl dX1_missedOrders_19 ?_
        refine v_iadd X dX1_missedOrders_22 ?_
        refine v_istore_n (lo' := [(1, .int ((z_sum (S w 18) i) + (S w 18 i))), (0, .ref (o + pS w)), (2, .int (nI i))]) X dX1_missedOrders_23 rfl (by decide) rfl ?_
        refine v_iinc (v := nI (i + 1)) (lo' := [(2, .int (nI (i + 1))), (1, .int ((z_sum (S w 18) i) + (S w 18 i))), (0, .ref (o + pS w))]) X 2 dX1_missedOrders_24 rfl (nI_1 i) (by decide) rfl ?_
        refine v_goto (tgt := 4) X dX1_missedOrders_27 (by decide) ?_
        refine v_lo [2, 1, 0] (lo' := [(0, .ref (o + pS w)), (1, .int ((z_sum (S w 18) i) + (S w 18 i))), (2, .int (nI (i + 1)))]) rfl ?_
        refine v_eq (S' := S) (lo' := [(0, .ref (o + pS w)), (1, .int (z_sum (S w 18) (i + 1))), (2, .int (nI (i + 1)))]) (by rfl) (by rfl) ?_
        exact ih_4 (i + 1) (by omega)
  refine v_lo [2, 1, 0] (lo' := [(0, .ref (o + pS w)), (1, .int 0), (2, .int 0)]) rfl ?_
  refine v_eq (S' := S) (lo' := [(0, .ref (o + pS w)), (1, .int (z_sum (S w 18) 0)), (2, .int (nI 0))]) (by rfl) (by rfl) ?_
  exact L_4 (n) 0 (by omega)
theorem hi_X1_seesEnemy_X1 : ∀ w ∈ wsX10, w ∈ wsX1_seesEnemy := by decide +kernel
theorem hl_X1_seesEnemy_24 : Cond.fieldLink RX1 24 RX1 (TX1 2).2.1 (TX1 2).2.2.1 ∈ wsX1_seesEnemy := by decide +kernel
theorem hl_X1_seesEnemy_20 : Cond.fieldLink RX1 20 RX1 (TX1 1).2.1 (TX1 1).2.2.1 ∈ wsX1_seesEnemy := by decide +kernel
theorem hi_X1_seesEnemy_X3 : ∀ w ∈ wsX30, w ∈ wsX1_seesEnemy := by decide +kernel
theorem hl_X1_seesEnemy_39 : Cond.fieldLink RX1 39 RX3 (TX3 0).2.1 (TX3 0).2.2.1 ∈ wsX1_seesEnemy := by decide +kernel
theorem hl_X1_seesEnemy_49 : Cond.fieldLink RX1 49 RX3 (TX3 1).2.1 (TX3 1).2.2.1 ∈ wsX1_seesEnemy := by decide +kernel
theorem hy_X3_isNear_V : yX3_isNear.cls = RX3 ∧ yX3_isNear.cls ≠ "java/lang/invoke/MethodHandle" ∧ yX3_isNear.cls ≠ "java/lang/invoke/VarHandle" ∧ (parseMethodDescriptor yX3_isNear.desc).map (fun d => d.parameters.length) = some 1 := by decide +kernel
set_option maxRecDepth 100000 in
set_option maxHeartbeats 4000000 in
/-- X1_seesEnemy -/
theorem c_X1_seesEnemy (l : Launch) (G : va_G) (cI cZ cT : ClassId) (o : Nat) (S : zS) (w n a : Nat) (hw : w < 2) (ha : a < 8) (hok : z_ok S w n) : zI l G cI cZ cT o yX1_seesEnemy wsX1_seesEnemy { frames := 3, cells := 0, slots := 0, locals := 63 } [.ref (o + pS w), .ref (o + pT w a)] S (fun r u => r = s_sees S w a n ∧ u = S) := by
  refine z_ofZb (cc := cX1_seesEnemy) (maxL := 4) (by decide) rfl (by simp [lg_sl, Value.category]) ?_
  intro p9 e9 s9 m9 a9 b9 h9 c9 X
  refine v_lo [0, 1] (lo' := [(0, .ref (o + pS w)), (1, .ref (o + pT w a))]) rfl ?_
  have hn8 := hok.2.1
  have hca := ((hok).2.2 a (by omega)).1.2
  refine v_iconst (v := 0) X (by decide) dX1_seesEnemy_0 ?_
  refine v_istore_n (lo' := [(2, .int 0), (0, .ref (o + pS w)), (1, .ref (o + pT w a))]) X dX1_seesEnemy_1 rfl (by decide) rfl ?_
  have L_2 : ∀ (d i : Nat), i + d = n → s_seeN S w a i = false → z_V p9 l e9 (headSpec wsX1_seesEnemy { frames := 3, cells := 0, slots := 0, locals := 63 }).room s9 m9 a9 b9 h9 c9 (MQ b9 (va_Qi (fun r u => r = s_sees S w a n ∧ u = S) (z_B G cI cZ cT o) (z_A o s9.heap.size)) a9 s9 0 0 (z_A o s9.heap.size)) G cI cZ cT o 4 (S) 2 [(0, .ref (o + pS w)), (1, .ref (o + pT w a)), (2, .int (nI i))] [] := by
    intro d
    induction d with
    | zero =>
      intro i hi_2 hp_2
      have he_2 : i = n := by omega
      rw [he_2] at hp_2 ⊢
      refine v_iload_n X 2 dX1_seesEnemy_2 rfl rfl ?_
      refine v_aload_n X 0 dX1_seesEnemy_3 rfl rfl ?_
      refine v_getS X (by omega) 2 (by decide) hi_X1_seesEnemy_X1 hl_X1_seesEnemy_24 rfl (v := .int (S w 12 0)) rfl dX1_seesEnemy_4 ?_
      refine v_top (y := nI n) ((hok).1) ?_
      refine v_ncmp_ge X n n rfl rfl (by omega) (by omega) (tgt := 54) dX1_seesEnemy_7 (by decide) (fun c_7 => ?_) (fun c_7 => ?_)
      ·
        refine v_iconst (v := 0) X (by decide) dX1_seesEnemy_54 ?_
        exact v_zret X rfl dX1_seesEnemy_55 (by exact ⟨by rw [s_sees, hp_2]; rfl, rfl⟩)
      ·
        exact absurd c_7 (by omega)
    | succ d ih_2 =>
      intro i hi_2 hp_2
      have hci := ((hok).2.2 i (by omega)).1.2
      refine v_iload_n X 2 dX1_seesEnemy_2 rfl rfl ?_
      refine v_aload_n X 0 dX1_seesEnemy_3 rfl rfl ?_
      refine v_getS X (by omega) 2 (by decide) hi_X1_seesEnemy_X1 hl_X1_seesEnemy_24 rfl (v := .int (S w 12 0)) rfl dX1_seesEnemy_4 ?_
      refine v_top (y := nI n) ((hok).1) ?_
      refine v_ncmp_ge X i n rfl rfl (by omega) (by omega) (tgt := 54) dX1_seesEnemy_7 (by decide) (fun c_7 => ?_) (fun c_7 => ?_)
      ·
        exact absurd c_7 (by omega)
      ·
        refine v_aload_n X 0 dX1_seesEnemy_10 rfl rfl ?_
        refine v_getS X (by omega) 1 (by decide) hi_X1_seesEnemy_X1 hl_X1_seesEnemy_20 rfl (v := .ref (o + pL w)) rfl dX1_seesEnemy_11 ?_
        refine v_iload_n X 2 dX1_seesEnemy_14 rfl rfl ?_
        refine v_aald X (w := w) (by omega) i rfl (by omega) dX1_seesEnemy_15 ?_
        refine v_astore_n (lo' := [(3, .ref (o + pT w i)), (0, .ref (o + pS w)), (1, .ref (o + pT w a)), (2, .int (nI i))]) X dX1_seesEnemy_16 rfl (by decide) rfl ?_
        refine v_aload_n X 0 dX1_seesEnemy_17 rfl rfl ?_
        refine v_getT X (by omega) (by omega) 0 (by decide) hi_X1_seesEnemy_X3 hl_X1_seesEnemy_39 rfl (v := .int (S w 14 i)) rfl dX1_seesEnemy_18 ?_
        refine v_aload_n X 2 dX1_seesEnemy_21 rfl rfl ?_
        refine v_getT X (by omega) (by omega) 0 (by decide) hi_X1_seesEnemy_X3 hl_X1_seesEnemy_39 rfl (v := .int (S w 14 a)) rfl dX1_seesEnemy_22 ?_
        refine v_icmp_eq X (tgt := 48) dX1_seesEnemy_25 (by decide) (fun c_25 => ?_) (fun c_25 => ?_)
        ·
          refine v_iinc (v := nI (i + 1)) (lo' := [(2, .int (nI (i + 1))), (3, .ref (o + pT w i)), (0, .ref (o + pS w)), (1, .ref (o + pT w a))]) X 3 dX1_seesEnemy_48 rfl (nI_1 i) (by decide) rfl ?_
          refine v_goto (tgt := 2) X dX1_seesEnemy_51 (by decide) ?_
          refine v_lo [2, 3, 0] (lo' := [(0, .ref (o + pS w)), (1, .ref (o + pT w a)), (2, .int (nI (i + 1)))]) rfl ?_
          refine v_eq (S' := S) (lo' := [(0, .ref (o + pS w)), (1, .ref (o + pT w a)), (2, .int (nI (i + 1)))]) (by rfl) (by rfl) ?_
          exact ih_2 (i + 1) (by omega) (by simp [s_seeN, s_see1, hp_2, c_7, c_25])
        ·
          refine v_aload_n X 0 dX1_seesEnemy_28 rfl rfl ?_
          refine v_callVIf X [] (pT w i) (pT_lt (by omega) (by omega)) (c_X3_isGone l G cI cZ cT o S w i (by omega) (by omega)) (zc_T cI cZ cT o _ (by omega) (by omega)) (C := RX3) (T := TX3) (N := 16) rfl 0 rfl gX1_seesEnemy_X3_isGone rfl ⟨rfl, rfl⟩ hy_X3_isGone_V ⟨Nat.le_of_ble_eq_true rfl, Nat.le_of_ble_eq_true rfl⟩ rfl (Nat.le_of_ble_eq_true rfl) dX1_seesEnemy_29 ?_
          refine v_if_ne X (tgt := 48) dX1_seesEnemy_32 (by decide) (fun c_32 => ?_) (fun c_32 => ?_)
          ·
            refine v_iinc (v := nI (i + 1)) (lo' := [(2, .int (nI (i + 1))), (3, .ref (o + pT w i)), (0, .ref (o + pS w)), (1, .ref (o + pT w a))]) X 3 dX1_seesEnemy_48 rfl (nI_1 i) (by decide) rfl ?_
            refine v_goto (tgt := 2) X dX1_seesEnemy_51 (by decide) ?_
            refine v_lo [2, 3, 0] (lo' := [(0, .ref (o + pS w)), (1, .ref (o + pT w a)), (2, .int (nI (i + 1)))]) rfl ?_
            refine v_eq (S' := S) (lo' := [(0, .ref (o + pS w)), (1, .ref (o + pT w a)), (2, .int (nI (i + 1)))]) (by rfl) (by rfl) ?_
            exact ih_2 (i + 1) (by omega) (by simp [s_seeN, s_see1, hp_2, c_7, c_25, c_32])
          ·
            refine v_aload_n X 2 dX1_seesEnemy_35 rfl rfl ?_
            refine v_aload_n X 0 dX1_seesEnemy_36 rfl rfl ?_
            refine v_getT X (by omega) (by omega) 1 (by decide) hi_X1_seesEnemy_X3 hl_X1_seesEnemy_49 rfl (v := .int (S w 15 i)) rfl dX1_seesEnemy_37 ?_
            refine v_top (y := nI (cl (S w 15 i))) (((hok).2.2 i (by omega)).1.1) ?_
            refine v_callVIf X [.int (nI (cl (S w 15 i)))] (pT w a) (pT_lt (by omega) (by omega)) (c_X3_isNear l G cI cZ cT o S w a (cl (S w 15 a)) (cl (S w 15 i)) (by omega) (by omega) (by omega) (by omega) (((hok).2.2 a (by omega)).1.1)) (zc_T cI cZ cT o _ (by omega) (by omega)) (C := RX3) (T := TX3) (N := 16) rfl 1 rfl gX1_seesEnemy_X3_isNear rfl ⟨rfl, rfl⟩ hy_X3_isNear_V ⟨Nat.le_of_ble_eq_true rfl, Nat.le_of_ble_eq_true rfl⟩ rfl (Nat.le_of_ble_eq_true rfl) dX1_seesEnemy_40 ?_
            refine v_if_eq X (tgt := 48) dX1_seesEnemy_43 (by decide) (fun c_43 => ?_) (fun c_43 => ?_)
            ·
              refine v_iinc (v := nI (i + 1)) (lo' := [(2, .int (nI (i + 1))), (3, .ref (o + pT w i)), (0, .ref (o + pS w)), (1, .ref (o + pT w a))]) X 3 dX1_seesEnemy_48 rfl (nI_1 i) (by decide) rfl ?_
              refine v_goto (tgt := 2) X dX1_seesEnemy_51 (by decide) ?_
              refine v_lo [2, 3, 0] (lo' := [(0, .ref (o + pS w)), (1, .ref (o + pT w a)), (2, .int (nI (i + 1)))]) rfl ?_
              refine v_eq (S' := S) (lo' := [(0, .ref (o + pS w)), (1, .ref (o + pT w a)), (2, .int (nI (i + 1)))]) (by rfl) (by rfl) ?_
              exact ih_2 (i + 1) (by omega) (by simp [s_seeN, s_see1, hp_2, c_7, c_25, c_32, c_43])
            ·
              refine v_iconst (v := 1) X (by decide) dX1_seesEnemy_46 ?_
              exact v_zret X rfl dX1_seesEnemy_47 (by have h9 : s_see1 S w a i = true := (by simp [s_see1, c_7, c_25, c_32, c_43]); exact ⟨by rw [s_sees, if_pos (s_seeN_of h9 n (by omega))], rfl⟩)
  refine v_lo [1, 2, 0] (lo' := [(0, .ref (o + pS w)), (1, .ref (o + pT w a)), (2, .int 0)]) rfl ?_
  refine v_eq (S' := S) (lo' := [(0, .ref (o + pS w)), (1, .ref (o + pT w a)), (2, .int (nI 0))]) (by rfl) (by rfl) ?_
  exact L_2 (n) 0 (by omega) (by rfl)
theorem hi_X1_choke_X3 : ∀ w ∈ wsX30, w ∈ wsX1_choke := by decide +kernel
theorem hl_X1_choke_81 : Cond.fieldLink RX1 81 RX3 (TX3 5).2.1 (TX3 5).2.2.1 ∈ wsX1_choke := by decide +kernel
theorem hy_X3_loseHealth_V : yX3_loseHealth.cls = RX3 ∧ yX3_loseHealth.cls ≠ "java/lang/invoke/MethodHandle" ∧ yX3_loseHealth.cls ≠ "java/lang/invoke/VarHandle" ∧ (parseMethodDescriptor yX3_loseHealth.desc).map (fun d => d.parameters.length) = some 1 := by decide +kernel
theorem hl_X1_choke_49 : Cond.fieldLink RX1 49 RX3 (TX3 1).2.1 (TX3 1).2.2.1 ∈ wsX1_choke := by decide +kernel
theorem hw_X1_choke_st_X5_neighbour : Cond.static yX5_neighbour ∈ wsX1_choke := by decide +kernel
theorem hw_X1_choke_in_X5 : Cond.initialized yX5_neighbour.cls ∈ wsX1_choke := by decide +kernel
theorem hn_X1_105 : Cond.methodLinkNest RX1 105 yX5_neighbour RX5 ∈ z_nest := by simp [z_nest]
theorem hi_X1_choke_X1 : ∀ w ∈ wsX10, w ∈ wsX1_choke := by decide +kernel
theorem hl_X1_choke_12 : Cond.fieldLink RX1 12 RX1 (TX1 0).2.1 (TX1 0).2.2.1 ∈ wsX1_choke := by decide +kernel
theorem hi_X1_choke_X0 : ∀ w ∈ wsX00, w ∈ wsX1_choke := by decide +kernel
theorem hl_X1_choke_84 : Cond.fieldLink RX1 84 RX0 (TX0 5).2.1 (TX0 5).2.2.1 ∈ wsX1_choke := by decide +kernel
set_option maxRecDepth 100000 in
set_option maxHeartbeats 4000000 in
/-- X1_choke -/
theorem c_X1_choke (l : Launch) (G : va_G) (cI cZ cT : ClassId) (o : Nat) (S : zS) (w n a : Nat) (hw : w < 2) (ha : a < 8) (hok : z_ok S w n) : zU l G cI cZ cT o yX1_choke wsX1_choke { frames := 2, cells := 0, slots := 0, locals := 42 } [.ref (o + pS w), .ref (o + pT w a)] S (fun u => u = s_choke S w a) := by
  refine z_ofV (cc := cX1_choke) (maxL := 5) (by decide) rfl (by simp [lg_sl, Value.category]) ?_
  intro p9 e9 s9 m9 a9 b9 h9 c9 X
  refine v_lo [0, 1] (lo' := [(0, .ref (o + pS w)), (1, .ref (o + pT w a))]) rfl ?_
  have hn8 := hok.2.1
  have hca := ((hok).2.2 a (by omega)).1.2
  have e15 : s_choke0 S w a w 15 a = nI (cl (S w 15 a)) := by
    show z_up (z_up S w 19 a 1) w 16 a _ w 15 a = _
    rw [z_up_ne _ _ (by omega), z_up_ne _ _ (by omega)]
    exact (hok.2.2 a (by omega)).1.1
  refine v_aload_n X 1 dX1_choke_0 rfl rfl ?_
  refine v_iconst (v := 1) X (by decide) dX1_choke_1 ?_
  refine v_putT5 X (by omega) (by omega) hi_X1_choke_X3 hl_X1_choke_81 dX1_choke_2 ?_
  refine v_aload_n X 1 dX1_choke_5 rfl rfl ?_
  refine v_iconst (v := 1) X (by decide) dX1_choke_6 ?_
  refine v_callVUf X [.int 1] (pT w a) (pT_lt (by omega) (by omega)) (c_X3_loseHealth l G cI cZ cT o (z_up S w 19 a 1) w a 1 (by omega) (by omega)) (zc_T cI cZ cT o _ (by omega) (by omega)) (C := RX3) (T := TX3) (N := 16) rfl 1 rfl gX1_choke_X3_loseHealth rfl ⟨rfl, rfl⟩ hy_X3_loseHealth_V ⟨Nat.le_of_ble_eq_true rfl, Nat.le_of_ble_eq_true rfl⟩ rfl (Nat.le_of_ble_eq_true rfl) dX1_choke_7 ?_
  refine v_st (S' := s_choke0 S w a) (rfl) ?_
  refine v_aload_n X 1 dX1_choke_10 rfl rfl ?_
  refine v_callVIf X [] (pT w a) (pT_lt (by omega) (by omega)) (c_X3_isGone l G cI cZ cT o (s_choke0 S w a) w a (by omega) (by omega)) (zc_T cI cZ cT o _ (by omega) (by omega)) (C := RX3) (T := TX3) (N := 16) rfl 0 rfl gX1_choke_X3_isGone rfl ⟨rfl, rfl⟩ hy_X3_isGone_V ⟨Nat.le_of_ble_eq_true rfl, Nat.le_of_ble_eq_true rfl⟩ rfl (Nat.le_of_ble_eq_true rfl) dX1_choke_11 ?_
  refine v_if_eq X (tgt := 18) dX1_choke_14 (by decide) (fun c_14 => ?_) (fun c_14 => ?_)
  ·
    refine v_aload_n X 1 dX1_choke_18 rfl rfl ?_
    refine v_getT X (by omega) (by omega) 1 (by decide) hi_X1_choke_X3 hl_X1_choke_49 rfl (v := .int ((s_choke0 S w a) w 15 a)) rfl dX1_choke_19 ?_
    refine v_top (y := nI (cl (S w 15 a))) (e15) ?_
    refine v_istore_n (lo' := [(2, .int (nI (cl (S w 15 a)))), (0, .ref (o + pS w)), (1, .ref (o + pT w a))]) X dX1_choke_22 rfl (by decide) rfl ?_
    refine v_iconst (v := 0) X (by decide) dX1_choke_23 ?_
    refine v_istore_n (lo' := [(3, .int 0), (2, .int (nI (cl (S w 15 a)))), (0, .ref (o + pS w)), (1, .ref (o + pT w a))]) X dX1_choke_24 rfl (by decide) rfl ?_
    have L_25 : ∀ (d d9 : Nat), d9 + d = 4 → z_V p9 l e9 (headSpec wsX1_choke { frames := 2, cells := 0, slots := 0, locals := 42 }).room s9 m9 a9 b9 h9 c9 (MQ b9 (va_Qv (fun u => u = s_choke S w a) (z_B G cI cZ cT o) (z_A o s9.heap.size)) a9 s9 0 0 (z_A o s9.heap.size)) G cI cZ cT o 5 (s_choke0 S w a) 25 [(0, .ref (o + pS w)), (1, .ref (o + pT w a)), (2, .int (nI (s_bestN (s_choke0 S w a) w (cl (S w 15 a)) d9))), (3, .int (nI d9))] [] := by
      intro d
      induction d with
      | zero =>
        intro d9 hi_25
        have he_25 : d9 = 4 := by omega
        rw [he_25]
        have hb9 := s_bestN_lt (S := s_choke0 S w a) (w := w) (c := cl (S w 15 a)) hca 4
        refine v_iload_n X 3 dX1_choke_25 rfl rfl ?_
        refine v_iconst (v := 4) X (by decide) dX1_choke_26 ?_
        refine v_ncmp_ge X 4 4 rfl rfl (by omega) (by omega) (tgt := 88) dX1_choke_27 (by decide) (fun c_27 => ?_) (fun c_27 => ?_)
        ·
          refine v_aload_n X 1 dX1_choke_88 rfl rfl ?_
          refine v_iload_n X 2 dX1_choke_89 rfl rfl ?_
          refine v_putT1 X (by omega) (by omega) hi_X1_choke_X3 hl_X1_choke_49 dX1_choke_90 ?_
          exact v_vret X dX1_choke_93 (by simp [s_choke, c_14, c_27])
        ·
          exact absurd c_27 (by omega)
      | succ d ih_25 =>
        intro d9 hi_25
        have hb9 := s_bestN_lt (S := s_choke0 S w a) (w := w) (c := cl (S w 15 a)) hca d9
        refine v_iload_n X 3 dX1_choke_25 rfl rfl ?_
        refine v_iconst (v := 4) X (by decide) dX1_choke_26 ?_
        refine v_ncmp_ge X d9 4 rfl rfl (by omega) (by omega) (tgt := 88) dX1_choke_27 (by decide) (fun c_27 => ?_) (fun c_27 => ?_)
        ·
          exact absurd c_27 (by omega)
        ·
          refine v_aload_n X 1 dX1_choke_30 rfl rfl ?_
          refine v_getT X (by omega) (by omega) 1 (by decide) hi_X1_choke_X3 hl_X1_choke_49 rfl (v := .int ((s_choke0 S w a) w 15 a)) rfl dX1_choke_31 ?_
          refine v_top (y := nI (cl (S w 15 a))) (e15) ?_
          refine v_iload_n X 3 dX1_choke_34 rfl rfl ?_
          refine v_callNIf X [.int (nI (cl (S w 15 a))), .int (nI d9)] (c_X5_neighbour l G cI cZ cT o (s_choke0 S w a) (cl (S w 15 a)) d9 (by omega) (by omega)) 2 rfl hn_X1_105 gX1_choke_X5_neighbour_n105 hw_X1_choke_st_X5_neighbour hw_X1_choke_in_X5 rfl ⟨rfl, rfl⟩ hy_X5_neighbour_N ⟨Nat.le_of_ble_eq_true rfl, Nat.le_of_ble_eq_true rfl⟩ rfl (Nat.le_of_ble_eq_true rfl) dX1_choke_35 ?_
          by_cases hb_54 : nbb (cl (S w 15 a)) d9 = true
          ·
            have hB_54 := nbn_lt (c := cl (S w 15 a)) (d := d9) (by omega) hb_54
            refine v_top (y := nI (nbn (cl (S w 15 a)) d9)) (if_pos hb_54) ?_
            refine v_istore (lo' := [(4, .int (nI (nbn (cl (S w 15 a)) d9))), (0, .ref (o + pS w)), (1, .ref (o + pT w a)), (2, .int (nI (s_bestN (s_choke0 S w a) w (cl (S w 15 a)) d9))), (3, .int (nI d9))]) X dX1_choke_38 (by decide) rfl ?_
            refine v_iload X 0 dX1_choke_40 rfl ?_
            refine v_if_lt X (tgt := 82) dX1_choke_42 (by decide) (fun q => absurd q (nI_pos (by omega))) (fun _ => ?_)
            refine v_aload_n X 1 dX1_choke_45 rfl rfl ?_
            refine v_getS X (by omega) 0 (by decide) hi_X1_choke_X1 hl_X1_choke_12 rfl (v := .ref (o + pG w)) rfl dX1_choke_46 ?_
            refine v_iload X 0 dX1_choke_49 rfl ?_
            refine v_callVIf X [.int (nI (nbn (cl (S w 15 a)) d9))] (pG w) (pG_lt (by omega)) (c_X0_isTunnel l G cI cZ cT o (s_choke0 S w a) w (nbn (cl (S w 15 a)) d9) (by omega) (by omega)) (zc_G cI cZ cT o _ (by omega)) (C := RX0) (T := TX0) (N := 12) rfl 1 rfl gX1_choke_X0_isTunnel rfl ⟨rfl, rfl⟩ hy_X0_isTunnel_V ⟨Nat.le_of_ble_eq_true rfl, Nat.le_of_ble_eq_true rfl⟩ rfl (Nat.le_of_ble_eq_true rfl) dX1_choke_51 ?_
            refine v_if_eq X (tgt := 82) dX1_choke_54 (by decide) (fun c_54 => ?_) (fun c_54 => ?_)
            ·
              refine v_iinc (v := nI (d9 + 1)) (lo' := [(3, .int (nI (d9 + 1))), (4, .int (nI (nbn (cl (S w 15 a)) d9))), (0, .ref (o + pS w)), (1, .ref (o + pT w a)), (2, .int (nI (s_bestN (s_choke0 S w a) w (cl (S w 15 a)) d9)))]) X 4 dX1_choke_82 rfl (nI_1 d9) (by decide) rfl ?_
              refine v_goto (tgt := 25) X dX1_choke_85 (by decide) ?_
              refine v_lo [2, 3, 4, 0] (lo' := [(0, .ref (o + pS w)), (1, .ref (o + pT w a)), (2, .int (nI (s_bestN (s_choke0 S w a) w (cl (S w 15 a)) d9))), (3, .int (nI (d9 + 1)))]) rfl ?_
              refine v_eq (S' := s_choke0 S w a) (lo' := [(0, .ref (o + pS w)), (1, .ref (o + pT w a)), (2, .int (nI (s_bestN (s_choke0 S w a) w (cl (S w 15 a)) (d9 + 1)))), (3, .int (nI (d9 + 1)))]) (by rfl) (by simp [s_bestN, s_best1, c_14, c_27, hb_54, c_54]) ?_
              exact ih_25 (d9 + 1) (by omega)
            ·
              refine v_aload_n X 1 dX1_choke_57 rfl rfl ?_
              refine v_getS X (by omega) 0 (by decide) hi_X1_choke_X1 hl_X1_choke_12 rfl (v := .ref (o + pG w)) rfl dX1_choke_58 ?_
              refine v_getG X (by omega) 5 (by decide) hi_X1_choke_X0 hl_X1_choke_84 rfl (v := .ref (o + pA w 5)) rfl dX1_choke_61 ?_
              refine v_iload X 0 dX1_choke_64 rfl ?_
              refine v_ialdA X (w := w) (by omega) 5 (by omega) (nbn (cl (S w 15 a)) d9) rfl (by omega) dX1_choke_66 ?_
              refine v_aload_n X 1 dX1_choke_67 rfl rfl ?_
              refine v_getS X (by omega) 0 (by decide) hi_X1_choke_X1 hl_X1_choke_12 rfl (v := .ref (o + pG w)) rfl dX1_choke_68 ?_
              refine v_getG X (by omega) 5 (by decide) hi_X1_choke_X0 hl_X1_choke_84 rfl (v := .ref (o + pA w 5)) rfl dX1_choke_71 ?_
              refine v_iload_n X 3 dX1_choke_74 rfl rfl ?_
              refine v_ialdA X (w := w) (by omega) 5 (by omega) (s_bestN (s_choke0 S w a) w (cl (S w 15 a)) d9) rfl (by omega) dX1_choke_75 ?_
              refine v_icmp_ge X (tgt := 82) dX1_choke_76 (by decide) (fun c_76 => ?_) (fun c_76 => ?_)
              ·
                refine v_iinc (v := nI (d9 + 1)) (lo' := [(3, .int (nI (d9 + 1))), (4, .int (nI (nbn (cl (S w 15 a)) d9))), (0, .ref (o + pS w)), (1, .ref (o + pT w a)), (2, .int (nI (s_bestN (s_choke0 S w a) w (cl (S w 15 a)) d9)))]) X 4 dX1_choke_82 rfl (nI_1 d9) (by decide) rfl ?_
                refine v_goto (tgt := 25) X dX1_choke_85 (by decide) ?_
                refine v_lo [2, 3, 4, 0] (lo' := [(0, .ref (o + pS w)), (1, .ref (o + pT w a)), (2, .int (nI (s_bestN (s_choke0 S w a) w (cl (S w 15 a)) d9))), (3, .int (nI (d9 + 1)))]) rfl ?_
                refine v_eq (S' := s_choke0 S w a) (lo' := [(0, .ref (o + pS w)), (1, .ref (o + pT w a)), (2, .int (nI (s_bestN (s_choke0 S w a) w (cl (S w 15 a)) (d9 + 1)))), (3, .int (nI (d9 + 1)))]) (by rfl) (by simp [s_bestN, s_best1, c_14, c_27, hb_54, c_54, c_76]) ?_
                exact ih_25 (d9 + 1) (by omega)
              ·
                refine v_iload X 0 dX1_choke_79 rfl ?_
                refine v_istore_n (lo' := [(2, .int (nI (nbn (cl (S w 15 a)) d9))), (4, .int (nI (nbn (cl (S w 15 a)) d9))), (0, .ref (o + pS w)), (1, .ref (o + pT w a)), (3, .int (nI d9))]) X dX1_choke_81 rfl (by decide) rfl ?_
                refine v_iinc (v := nI (d9 + 1)) (lo' := [(3, .int (nI (d9 + 1))), (2, .int (nI (nbn (cl (S w 15 a)) d9))), (4, .int (nI (nbn (cl (S w 15 a)) d9))), (0, .ref (o + pS w)), (1, .ref (o + pT w a))]) X 4 dX1_choke_82 rfl (nI_1 d9) (by decide) rfl ?_
                refine v_goto (tgt := 25) X dX1_choke_85 (by decide) ?_
                refine v_lo [3, 4, 1, 0] (lo' := [(0, .ref (o + pS w)), (1, .ref (o + pT w a)), (2, .int (nI (nbn (cl (S w 15 a)) d9))), (3, .int (nI (d9 + 1)))]) rfl ?_
                refine v_eq (S' := s_choke0 S w a) (lo' := [(0, .ref (o + pS w)), (1, .ref (o + pT w a)), (2, .int (nI (s_bestN (s_choke0 S w a) w (cl (S w 15 a)) (d9 + 1)))), (3, .int (nI (d9 + 1)))]) (by rfl) (by simp [s_bestN, s_best1, c_14, c_27, hb_54, c_54, c_76]) ?_
                exact ih_25 (d9 + 1) (by omega)
          ·
            refine v_top (y := -1) (if_neg hb_54) ?_
            refine v_istore (lo' := [(4, .int (-1)), (0, .ref (o + pS w)), (1, .ref (o + pT w a)), (2, .int (nI (s_bestN (s_choke0 S w a) w (cl (S w 15 a)) d9))), (3, .int (nI d9))]) X dX1_choke_38 (by decide) rfl ?_
            refine v_iload X 0 dX1_choke_40 rfl ?_
            refine v_if_lt X (tgt := 82) dX1_choke_42 (by decide) (fun _ => ?_) (fun q => absurd q (by decide))
            refine v_iinc (v := nI (d9 + 1)) (lo' := [(3, .int (nI (d9 + 1))), (4, .int (-1)), (0, .ref (o + pS w)), (1, .ref (o + pT w a)), (2, .int (nI (s_bestN (s_choke0 S w a) w (cl (S w 15 a)) d9)))]) X 4 dX1_choke_82 rfl (nI_1 d9) (by decide) rfl ?_
            refine v_goto (tgt := 25) X dX1_choke_85 (by decide) ?_
            refine v_lo [2, 3, 4, 0] (lo' := [(0, .ref (o + pS w)), (1, .ref (o + pT w a)), (2, .int (nI (s_bestN (s_choke0 S w a) w (cl (S w 15 a)) d9))), (3, .int (nI (d9 + 1)))]) rfl ?_
            refine v_eq (S' := s_choke0 S w a) (lo' := [(0, .ref (o + pS w)), (1, .ref (o + pT w a)), (2, .int (nI (s_bestN (s_choke0 S w a) w (cl (S w 15 a)) (d9 + 1)))), (3, .int (nI (d9 + 1)))]) (by rfl) (by simp [s_bestN, s_best1, c_14, c_27, hb_54]) ?_
            exact ih_25 (d9 + 1) (by omega)
    refine v_lo [2, 3, 1, 0] (lo' := [(0, .ref (o + pS w)), (1, .ref (o + pT w a)), (2, .int (nI (cl (S w 15 a)))), (3, .int 0)]) rfl ?_
    refine v_eq (S' := s_choke0 S w a) (lo' := [(0, .ref (o + pS w)), (1, .ref (o + pT w a)), (2, .int (nI (s_bestN (s_choke0 S w a) w (cl (S w 15 a)) 0))), (3, .int (nI 0))]) (by rfl) (by rfl) ?_
    exact L_25 (4) 0 (by omega)
  ·
    exact v_vret X dX1_choke_17 (by simp [s_choke, c_14])
theorem hi_X1_dig_X3 : ∀ w ∈ wsX30, w ∈ wsX1_dig := by decide +kernel
theorem hl_X1_dig_49 : Cond.fieldLink RX1 49 RX3 (TX3 1).2.1 (TX3 1).2.2.1 ∈ wsX1_dig := by decide +kernel
theorem hy_X3_firstDirection_V : yX3_firstDirection.cls = RX3 ∧ yX3_firstDirection.cls ≠ "java/lang/invoke/MethodHandle" ∧ yX3_firstDirection.cls ≠ "java/lang/invoke/VarHandle" ∧ (parseMethodDescriptor yX3_firstDirection.desc).map (fun d => d.parameters.length) = some 0 := by decide +kernel
theorem hw_X1_dig_st_X5_neighbour : Cond.static yX5_neighbour ∈ wsX1_dig := by decide +kernel
theorem hw_X1_dig_in_X5 : Cond.initialized yX5_neighbour.cls ∈ wsX1_dig := by decide +kernel
theorem hi_X1_dig_X1 : ∀ w ∈ wsX10, w ∈ wsX1_dig := by decide +kernel
theorem hl_X1_dig_12 : Cond.fieldLink RX1 12 RX1 (TX1 0).2.1 (TX1 0).2.2.1 ∈ wsX1_dig := by decide +kernel
theorem hy_X0_isRock_V : yX0_isRock.cls = RX0 ∧ yX0_isRock.cls ≠ "java/lang/invoke/MethodHandle" ∧ yX0_isRock.cls ≠ "java/lang/invoke/VarHandle" ∧ (parseMethodDescriptor yX0_isRock.desc).map (fun d => d.parameters.length) = some 1 := by decide +kernel
theorem hy_X3_countFirstOrder_V : yX3_countFirstOrder.cls = RX3 ∧ yX3_countFirstOrder.cls ≠ "java/lang/invoke/MethodHandle" ∧ yX3_countFirstOrder.cls ≠ "java/lang/invoke/VarHandle" ∧ (parseMethodDescriptor yX3_countFirstOrder.desc).map (fun d => d.parameters.length) = some 0 := by decide +kernel
theorem hi_X1_dig_X0 : ∀ w ∈ wsX00, w ∈ wsX1_dig := by decide +kernel
theorem hl_X1_dig_146 : Cond.fieldLink RX1 146 RX0 (TX0 6).2.1 (TX0 6).2.2.1 ∈ wsX1_dig := by decide +kernel
theorem hl_X1_dig_149 : Cond.fieldLink RX1 149 RX3 (TX3 3).2.1 (TX3 3).2.2.1 ∈ wsX1_dig := by decide +kernel
theorem hy_X0_workLeft_V : yX0_workLeft.cls = RX0 ∧ yX0_workLeft.cls ≠ "java/lang/invoke/MethodHandle" ∧ yX0_workLeft.cls ≠ "java/lang/invoke/VarHandle" ∧ (parseMethodDescriptor yX0_workLeft.desc).map (fun d => d.parameters.length) = some 1 := by decide +kernel
theorem hy_X0_openTunnel_V : yX0_openTunnel.cls = RX0 ∧ yX0_openTunnel.cls ≠ "java/lang/invoke/MethodHandle" ∧ yX0_openTunnel.cls ≠ "java/lang/invoke/VarHandle" ∧ (parseMethodDescriptor yX0_openTunnel.desc).map (fun d => d.parameters.length) = some 1 := by decide +kernel
theorem hy_X3_missFirstOrder_V : yX3_missFirstOrder.cls = RX3 ∧ yX3_missFirstOrder.cls ≠ "java/lang/invoke/MethodHandle" ∧ yX3_missFirstOrder.cls ≠ "java/lang/invoke/VarHandle" ∧ (parseMethodDescriptor yX3_missFirstOrder.desc).map (fun d => d.parameters.length) = some 0 := by decide +kernel
set_option maxRecDepth 100000 in
set_option maxHeartbeats 4000000 in
/-- X1_dig -/
theorem c_X1_dig (l : Launch) (G : va_G) (cI cZ cT : ClassId) (o : Nat) (S : zS) (w n a : Nat) (hw : w < 2) (ha : a < 8) (hok : z_ok S w n) (hp : 0 < S w 26 a) : zU l G cI cZ cT o yX1_dig wsX1_dig { frames := 2, cells := 0, slots := 0, locals := 42 } [.ref (o + pS w), .ref (o + pT w a)] S (fun u => u = s_dig S w a) := by
  refine z_ofV (cc := cX1_dig) (maxL := 3) (by decide) rfl (by simp [lg_sl, Value.category]) ?_
  intro p9 e9 s9 m9 a9 b9 h9 c9 X
  refine v_lo [0, 1] (lo' := [(0, .ref (o + pS w)), (1, .ref (o + pT w a))]) rfl ?_
  have hn8 := hok.2.1
  have hca := ((hok).2.2 a (by omega)).1.2
  have hda := ((hok.2.2 a (by omega)).2.2 0 (by omega)).2.2
  refine v_aload_n X 1 dX1_dig_0 rfl rfl ?_
  refine v_getT X (by omega) (by omega) 1 (by decide) hi_X1_dig_X3 hl_X1_dig_49 rfl (v := .int (S w 15 a)) rfl dX1_dig_1 ?_
  refine v_top (y := nI (cl (S w 15 a))) (((hok).2.2 a (by omega)).1.1) ?_
  refine v_aload_n X 1 dX1_dig_4 rfl rfl ?_
  refine v_callVIf X [] (pT w a) (pT_lt (by omega) (by omega)) (c_X3_firstDirection l G cI cZ cT o S w a (by omega) (by omega)) (zc_T cI cZ cT o _ (by omega) (by omega)) (C := RX3) (T := TX3) (N := 16) rfl 0 rfl gX1_dig_X3_firstDirection rfl ⟨rfl, rfl⟩ hy_X3_firstDirection_V ⟨Nat.le_of_ble_eq_true rfl, Nat.le_of_ble_eq_true rfl⟩ rfl (Nat.le_of_ble_eq_true rfl) dX1_dig_5 ?_
  refine v_top (y := nI (cl (S w (27 + 3 * a + 1) 0))) ((((hok).2.2 a (by omega)).2.2 0 (by omega)).2.1) ?_
  refine v_callNIf X [.int (nI (cl (S w 15 a))), .int (nI (cl (S w (27 + 3 * a + 1) 0)))] (c_X5_neighbour l G cI cZ cT o S (cl (S w 15 a)) (cl (S w (27 + 3 * a + 1) 0)) (by omega) (by omega)) 2 rfl hn_X1_105 gX1_dig_X5_neighbour_n105 hw_X1_dig_st_X5_neighbour hw_X1_dig_in_X5 rfl ⟨rfl, rfl⟩ hy_X5_neighbour_N ⟨Nat.le_of_ble_eq_true rfl, Nat.le_of_ble_eq_true rfl⟩ rfl (Nat.le_of_ble_eq_true rfl) dX1_dig_8 ?_
  by_cases hb_12 : nbb (cl (S w 15 a)) (cl (S w (27 + 3 * a + 1) 0)) = true
  ·
    have hB_12 := nbn_lt (c := cl (S w 15 a)) (d := cl (S w (27 + 3 * a + 1) 0)) (by omega) hb_12
    refine v_top (y := nI (nbn (cl (S w 15 a)) (cl (S w (27 + 3 * a + 1) 0)))) (if_pos hb_12) ?_
    refine v_istore_n (lo' := [(2, .int (nI (nbn (cl (S w 15 a)) (cl (S w (27 + 3 * a + 1) 0))))), (0, .ref (o + pS w)), (1, .ref (o + pT w a))]) X dX1_dig_11 rfl (by decide) rfl ?_
    refine v_iload_n X 0 dX1_dig_12 rfl rfl ?_
    refine v_if_lt X (tgt := 27) dX1_dig_13 (by decide) (fun q => absurd q (nI_pos (by omega))) (fun _ => ?_)
    refine v_aload_n X 1 dX1_dig_16 rfl rfl ?_
    refine v_getS X (by omega) 0 (by decide) hi_X1_dig_X1 hl_X1_dig_12 rfl (v := .ref (o + pG w)) rfl dX1_dig_17 ?_
    refine v_iload_n X 0 dX1_dig_20 rfl rfl ?_
    refine v_callVIf X [.int (nI (nbn (cl (S w 15 a)) (cl (S w (27 + 3 * a + 1) 0))))] (pG w) (pG_lt (by omega)) (c_X0_isRock l G cI cZ cT o S w (nbn (cl (S w 15 a)) (cl (S w (27 + 3 * a + 1) 0))) (by omega) (by omega)) (zc_G cI cZ cT o _ (by omega)) (C := RX0) (T := TX0) (N := 12) rfl 1 rfl gX1_dig_X0_isRock rfl ⟨rfl, rfl⟩ hy_X0_isRock_V ⟨Nat.le_of_ble_eq_true rfl, Nat.le_of_ble_eq_true rfl⟩ rfl (Nat.le_of_ble_eq_true rfl) dX1_dig_21 ?_
    refine v_if_eq X (tgt := 32) dX1_dig_24 (by decide) (fun c_24 => ?_) (fun c_24 => ?_)
    ·
      refine v_aload_n X 1 dX1_dig_32 rfl rfl ?_
      refine v_getS X (by omega) 0 (by decide) hi_X1_dig_X1 hl_X1_dig_12 rfl (v := .ref (o + pG w)) rfl dX1_dig_33 ?_
      refine v_iload_n X 0 dX1_dig_36 rfl rfl ?_
      refine v_callVIf X [.int (nI (nbn (cl (S w 15 a)) (cl (S w (27 + 3 * a + 1) 0))))] (pG w) (pG_lt (by omega)) (c_X0_isTunnel l G cI cZ cT o S w (nbn (cl (S w 15 a)) (cl (S w (27 + 3 * a + 1) 0))) (by omega) (by omega)) (zc_G cI cZ cT o _ (by omega)) (C := RX0) (T := TX0) (N := 12) rfl 1 rfl gX1_dig_X0_isTunnel rfl ⟨rfl, rfl⟩ hy_X0_isTunnel_V ⟨Nat.le_of_ble_eq_true rfl, Nat.le_of_ble_eq_true rfl⟩ rfl (Nat.le_of_ble_eq_true rfl) dX1_dig_37 ?_
      refine v_if_ne X (tgt := 79) dX1_dig_40 (by decide) (fun c_40 => ?_) (fun c_40 => ?_)
      ·
        refine v_aload_n X 2 dX1_dig_79 rfl rfl ?_
        refine v_iload_n X 0 dX1_dig_80 rfl rfl ?_
        refine v_putT1 X (by omega) (by omega) hi_X1_dig_X3 hl_X1_dig_49 dX1_dig_81 ?_
        refine v_aload_n X 2 dX1_dig_84 rfl rfl ?_
        refine v_callVUf X [] (pT w a) (pT_lt (by omega) (by omega)) (c_X3_countFirstOrder l G cI cZ cT o (z_up S w 15 a (nI (nbn (cl (S w 15 a)) (cl (S w (27 + 3 * a + 1) 0))))) w a (by omega) (by omega)) (zc_T cI cZ cT o _ (by omega) (by omega)) (C := RX3) (T := TX3) (N := 16) rfl 0 rfl gX1_dig_X3_countFirstOrder rfl ⟨rfl, rfl⟩ hy_X3_countFirstOrder_V ⟨Nat.le_of_ble_eq_true rfl, Nat.le_of_ble_eq_true rfl⟩ rfl (Nat.le_of_ble_eq_true rfl) dX1_dig_85 ?_
        exact v_vret X dX1_dig_88 (by simp [s_dig, s_dig2, hb_12, c_24, c_40])
      ·
        refine v_aload_n X 1 dX1_dig_43 rfl rfl ?_
        refine v_getS X (by omega) 0 (by decide) hi_X1_dig_X1 hl_X1_dig_12 rfl (v := .ref (o + pG w)) rfl dX1_dig_44 ?_
        refine v_getG X (by omega) 6 (by decide) hi_X1_dig_X0 hl_X1_dig_146 rfl (v := .ref (o + pA w 6)) rfl dX1_dig_47 ?_
        refine v_iload_n X 0 dX1_dig_50 rfl rfl ?_
        refine v_dup2 X rfl rfl dX1_dig_51 ?_
        refine v_ialdA X (w := w) (by omega) 6 (by omega) (nbn (cl (S w 15 a)) (cl (S w (27 + 3 * a + 1) 0))) rfl (by omega) dX1_dig_52 ?_
        refine v_aload_n X 2 dX1_dig_53 rfl rfl ?_
        refine v_getT X (by omega) (by omega) 3 (by decide) hi_X1_dig_X3 hl_X1_dig_149 rfl (v := .int (S w 17 a)) rfl dX1_dig_54 ?_
        refine v_iadd X dX1_dig_57 ?_
        refine v_iastA X (w := w) (by omega) 6 (by omega) (nbn (cl (S w 15 a)) (cl (S w (27 + 3 * a + 1) 0))) rfl (by omega) dX1_dig_58 ?_
        refine v_st (S' := s_dig1 S w a (nbn (cl (S w 15 a)) (cl (S w (27 + 3 * a + 1) 0)))) (rfl) ?_
        refine v_aload_n X 1 dX1_dig_59 rfl rfl ?_
        refine v_getS X (by omega) 0 (by decide) hi_X1_dig_X1 hl_X1_dig_12 rfl (v := .ref (o + pG w)) rfl dX1_dig_60 ?_
        refine v_iload_n X 0 dX1_dig_63 rfl rfl ?_
        refine v_callVIf X [.int (nI (nbn (cl (S w 15 a)) (cl (S w (27 + 3 * a + 1) 0))))] (pG w) (pG_lt (by omega)) (c_X0_workLeft l G cI cZ cT o (s_dig1 S w a (nbn (cl (S w 15 a)) (cl (S w (27 + 3 * a + 1) 0)))) w (nbn (cl (S w 15 a)) (cl (S w (27 + 3 * a + 1) 0))) (by omega) (by omega)) (zc_G cI cZ cT o _ (by omega)) (C := RX0) (T := TX0) (N := 12) rfl 1 rfl gX1_dig_X0_workLeft rfl ⟨rfl, rfl⟩ hy_X0_workLeft_V ⟨Nat.le_of_ble_eq_true rfl, Nat.le_of_ble_eq_true rfl⟩ rfl (Nat.le_of_ble_eq_true rfl) dX1_dig_64 ?_
        refine v_if_le X (tgt := 71) dX1_dig_67 (by decide) (fun c_67 => ?_) (fun c_67 => ?_)
        ·
          refine v_aload_n X 1 dX1_dig_71 rfl rfl ?_
          refine v_getS X (by omega) 0 (by decide) hi_X1_dig_X1 hl_X1_dig_12 rfl (v := .ref (o + pG w)) rfl dX1_dig_72 ?_
          refine v_iload_n X 0 dX1_dig_75 rfl rfl ?_
          refine v_callVUf X [.int (nI (nbn (cl (S w 15 a)) (cl (S w (27 + 3 * a + 1) 0))))] (pG w) (pG_lt (by omega)) (c_X0_openTunnel l G cI cZ cT o (s_dig1 S w a (nbn (cl (S w 15 a)) (cl (S w (27 + 3 * a + 1) 0)))) w (nbn (cl (S w 15 a)) (cl (S w (27 + 3 * a + 1) 0))) (by omega) (by omega)) (zc_G cI cZ cT o _ (by omega)) (C := RX0) (T := TX0) (N := 12) rfl 1 rfl gX1_dig_X0_openTunnel rfl ⟨rfl, rfl⟩ hy_X0_openTunnel_V ⟨Nat.le_of_ble_eq_true rfl, Nat.le_of_ble_eq_true rfl⟩ rfl (Nat.le_of_ble_eq_true rfl) dX1_dig_76 ?_
          refine v_aload_n X 2 dX1_dig_79 rfl rfl ?_
          refine v_iload_n X 0 dX1_dig_80 rfl rfl ?_
          refine v_putT1 X (by omega) (by omega) hi_X1_dig_X3 hl_X1_dig_49 dX1_dig_81 ?_
          refine v_aload_n X 2 dX1_dig_84 rfl rfl ?_
          refine v_callVUf X [] (pT w a) (pT_lt (by omega) (by omega)) (c_X3_countFirstOrder l G cI cZ cT o (z_up (s_openTunnel (s_dig1 S w a (nbn (cl (S w 15 a)) (cl (S w (27 + 3 * a + 1) 0)))) w (nbn (cl (S w 15 a)) (cl (S w (27 + 3 * a + 1) 0)))) w 15 a (nI (nbn (cl (S w 15 a)) (cl (S w (27 + 3 * a + 1) 0))))) w a (by omega) (by omega)) (zc_T cI cZ cT o _ (by omega) (by omega)) (C := RX3) (T := TX3) (N := 16) rfl 0 rfl gX1_dig_X3_countFirstOrder rfl ⟨rfl, rfl⟩ hy_X3_countFirstOrder_V ⟨Nat.le_of_ble_eq_true rfl, Nat.le_of_ble_eq_true rfl⟩ rfl (Nat.le_of_ble_eq_true rfl) dX1_dig_85 ?_
          exact v_vret X dX1_dig_88 (by simp [s_dig, s_dig2, hb_12, c_24, c_40, c_67])
        ·
          exact v_vret X dX1_dig_70 (by simp [s_dig, s_dig2, hb_12, c_24, c_40, c_67])
    ·
      refine v_aload_n X 2 dX1_dig_27 rfl rfl ?_
      refine v_callVUf X [] (pT w a) (pT_lt (by omega) (by omega)) (c_X3_missFirstOrder l G cI cZ cT o S w a (by omega) (by omega)) (zc_T cI cZ cT o _ (by omega) (by omega)) (C := RX3) (T := TX3) (N := 16) rfl 0 rfl gX1_dig_X3_missFirstOrder rfl ⟨rfl, rfl⟩ hy_X3_missFirstOrder_V ⟨Nat.le_of_ble_eq_true rfl, Nat.le_of_ble_eq_true rfl⟩ rfl (Nat.le_of_ble_eq_true rfl) dX1_dig_28 ?_
      exact v_vret X dX1_dig_31 (by simp [s_dig, s_dig2, hb_12, c_24])
  ·
    refine v_top (y := -1) (if_neg hb_12) ?_
    refine v_istore_n (lo' := [(2, .int (-1)), (0, .ref (o + pS w)), (1, .ref (o + pT w a))]) X dX1_dig_11 rfl (by decide) rfl ?_
    refine v_iload_n X 0 dX1_dig_12 rfl rfl ?_
    refine v_if_lt X (tgt := 27) dX1_dig_13 (by decide) (fun _ => ?_) (fun q => absurd q (by decide))
    refine v_aload_n X 2 dX1_dig_27 rfl rfl ?_
    refine v_callVUf X [] (pT w a) (pT_lt (by omega) (by omega)) (c_X3_missFirstOrder l G cI cZ cT o S w a (by omega) (by omega)) (zc_T cI cZ cT o _ (by omega) (by omega)) (C := RX3) (T := TX3) (N := 16) rfl 0 rfl gX1_dig_X3_missFirstOrder rfl ⟨rfl, rfl⟩ hy_X3_missFirstOrder_V ⟨Nat.le_of_ble_eq_true rfl, Nat.le_of_ble_eq_true rfl⟩ rfl (Nat.le_of_ble_eq_true rfl) dX1_dig_28 ?_
    exact v_vret X dX1_dig_31 (by simp [s_dig, s_dig2, hb_12])
theorem hi_X1_goOn_X3 : ∀ w ∈ wsX30, w ∈ wsX1_goOn := by decide +kernel
theorem hl_X1_goOn_49 : Cond.fieldLink RX1 49 RX3 (TX3 1).2.1 (TX3 1).2.2.1 ∈ wsX1_goOn := by decide +kernel
theorem hw_X1_goOn_st_X5_neighbour : Cond.static yX5_neighbour ∈ wsX1_goOn := by decide +kernel
theorem hw_X1_goOn_in_X5 : Cond.initialized yX5_neighbour.cls ∈ wsX1_goOn := by decide +kernel
theorem hi_X1_goOn_X1 : ∀ w ∈ wsX10, w ∈ wsX1_goOn := by decide +kernel
theorem hl_X1_goOn_12 : Cond.fieldLink RX1 12 RX1 (TX1 0).2.1 (TX1 0).2.2.1 ∈ wsX1_goOn := by decide +kernel
set_option maxRecDepth 100000 in
set_option maxHeartbeats 4000000 in
/-- X1_goOn -/
theorem c_X1_goOn (l : Launch) (G : va_G) (cI cZ cT : ClassId) (o : Nat) (S : zS) (w n a : Nat) (hw : w < 2) (ha : a < 8) (hok : z_ok S w n) (hp : 0 < S w 26 a) : zU l G cI cZ cT o yX1_goOn wsX1_goOn { frames := 2, cells := 0, slots := 0, locals := 41 } [.ref (o + pS w), .ref (o + pT w a)] S (fun u => u = s_go S w a) := by
  refine z_ofV (cc := cX1_goOn) (maxL := 3) (by decide) rfl (by simp [lg_sl, Value.category]) ?_
  intro p9 e9 s9 m9 a9 b9 h9 c9 X
  refine v_lo [0, 1] (lo' := [(0, .ref (o + pS w)), (1, .ref (o + pT w a))]) rfl ?_
  have hn8 := hok.2.1
  have hca := ((hok).2.2 a (by omega)).1.2
  have hda := ((hok.2.2 a (by omega)).2.2 0 (by omega)).2.2
  refine v_aload_n X 1 dX1_goOn_0 rfl rfl ?_
  refine v_getT X (by omega) (by omega) 1 (by decide) hi_X1_goOn_X3 hl_X1_goOn_49 rfl (v := .int (S w 15 a)) rfl dX1_goOn_1 ?_
  refine v_top (y := nI (cl (S w 15 a))) (((hok).2.2 a (by omega)).1.1) ?_
  refine v_aload_n X 1 dX1_goOn_4 rfl rfl ?_
  refine v_callVIf X [] (pT w a) (pT_lt (by omega) (by omega)) (c_X3_firstDirection l G cI cZ cT o S w a (by omega) (by omega)) (zc_T cI cZ cT o _ (by omega) (by omega)) (C := RX3) (T := TX3) (N := 16) rfl 0 rfl gX1_goOn_X3_firstDirection rfl ⟨rfl, rfl⟩ hy_X3_firstDirection_V ⟨Nat.le_of_ble_eq_true rfl, Nat.le_of_ble_eq_true rfl⟩ rfl (Nat.le_of_ble_eq_true rfl) dX1_goOn_5 ?_
  refine v_top (y := nI (cl (S w (27 + 3 * a + 1) 0))) ((((hok).2.2 a (by omega)).2.2 0 (by omega)).2.1) ?_
  refine v_callNIf X [.int (nI (cl (S w 15 a))), .int (nI (cl (S w (27 + 3 * a + 1) 0)))] (c_X5_neighbour l G cI cZ cT o S (cl (S w 15 a)) (cl (S w (27 + 3 * a + 1) 0)) (by omega) (by omega)) 2 rfl hn_X1_105 gX1_goOn_X5_neighbour_n105 hw_X1_goOn_st_X5_neighbour hw_X1_goOn_in_X5 rfl ⟨rfl, rfl⟩ hy_X5_neighbour_N ⟨Nat.le_of_ble_eq_true rfl, Nat.le_of_ble_eq_true rfl⟩ rfl (Nat.le_of_ble_eq_true rfl) dX1_goOn_8 ?_
  by_cases hb_12 : nbb (cl (S w 15 a)) (cl (S w (27 + 3 * a + 1) 0)) = true
  ·
    have hB_12 := nbn_lt (c := cl (S w 15 a)) (d := cl (S w (27 + 3 * a + 1) 0)) (by omega) hb_12
    refine v_top (y := nI (nbn (cl (S w 15 a)) (cl (S w (27 + 3 * a + 1) 0)))) (if_pos hb_12) ?_
    refine v_istore_n (lo' := [(2, .int (nI (nbn (cl (S w 15 a)) (cl (S w (27 + 3 * a + 1) 0))))), (0, .ref (o + pS w)), (1, .ref (o + pT w a))]) X dX1_goOn_11 rfl (by decide) rfl ?_
    refine v_iload_n X 0 dX1_goOn_12 rfl rfl ?_
    refine v_if_lt X (tgt := 27) dX1_goOn_13 (by decide) (fun q => absurd q (nI_pos (by omega))) (fun _ => ?_)
    refine v_aload_n X 1 dX1_goOn_16 rfl rfl ?_
    refine v_getS X (by omega) 0 (by decide) hi_X1_goOn_X1 hl_X1_goOn_12 rfl (v := .ref (o + pG w)) rfl dX1_goOn_17 ?_
    refine v_iload_n X 0 dX1_goOn_20 rfl rfl ?_
    refine v_callVIf X [.int (nI (nbn (cl (S w 15 a)) (cl (S w (27 + 3 * a + 1) 0))))] (pG w) (pG_lt (by omega)) (c_X0_isTunnel l G cI cZ cT o S w (nbn (cl (S w 15 a)) (cl (S w (27 + 3 * a + 1) 0))) (by omega) (by omega)) (zc_G cI cZ cT o _ (by omega)) (C := RX0) (T := TX0) (N := 12) rfl 1 rfl gX1_goOn_X0_isTunnel rfl ⟨rfl, rfl⟩ hy_X0_isTunnel_V ⟨Nat.le_of_ble_eq_true rfl, Nat.le_of_ble_eq_true rfl⟩ rfl (Nat.le_of_ble_eq_true rfl) dX1_goOn_21 ?_
    refine v_if_ne X (tgt := 32) dX1_goOn_24 (by decide) (fun c_24 => ?_) (fun c_24 => ?_)
    ·
      refine v_aload_n X 2 dX1_goOn_32 rfl rfl ?_
      refine v_iload_n X 0 dX1_goOn_33 rfl rfl ?_
      refine v_putT1 X (by omega) (by omega) hi_X1_goOn_X3 hl_X1_goOn_49 dX1_goOn_34 ?_
      refine v_aload_n X 2 dX1_goOn_37 rfl rfl ?_
      refine v_callVUf X [] (pT w a) (pT_lt (by omega) (by omega)) (c_X3_countFirstOrder l G cI cZ cT o (z_up S w 15 a (nI (nbn (cl (S w 15 a)) (cl (S w (27 + 3 * a + 1) 0))))) w a (by omega) (by omega)) (zc_T cI cZ cT o _ (by omega) (by omega)) (C := RX3) (T := TX3) (N := 16) rfl 0 rfl gX1_goOn_X3_countFirstOrder rfl ⟨rfl, rfl⟩ hy_X3_countFirstOrder_V ⟨Nat.le_of_ble_eq_true rfl, Nat.le_of_ble_eq_true rfl⟩ rfl (Nat.le_of_ble_eq_true rfl) dX1_goOn_38 ?_
      exact v_vret X dX1_goOn_41 (by simp [s_go, s_go2, hb_12, c_24])
    ·
      refine v_aload_n X 2 dX1_goOn_27 rfl rfl ?_
      refine v_callVUf X [] (pT w a) (pT_lt (by omega) (by omega)) (c_X3_missFirstOrder l G cI cZ cT o S w a (by omega) (by omega)) (zc_T cI cZ cT o _ (by omega) (by omega)) (C := RX3) (T := TX3) (N := 16) rfl 0 rfl gX1_goOn_X3_missFirstOrder rfl ⟨rfl, rfl⟩ hy_X3_missFirstOrder_V ⟨Nat.le_of_ble_eq_true rfl, Nat.le_of_ble_eq_true rfl⟩ rfl (Nat.le_of_ble_eq_true rfl) dX1_goOn_28 ?_
      exact v_vret X dX1_goOn_31 (by simp [s_go, s_go2, hb_12, c_24])
  ·
    refine v_top (y := -1) (if_neg hb_12) ?_
    refine v_istore_n (lo' := [(2, .int (-1)), (0, .ref (o + pS w)), (1, .ref (o + pT w a))]) X dX1_goOn_11 rfl (by decide) rfl ?_
    refine v_iload_n X 0 dX1_goOn_12 rfl rfl ?_
    refine v_if_lt X (tgt := 27) dX1_goOn_13 (by decide) (fun _ => ?_) (fun q => absurd q (by decide))
    refine v_aload_n X 2 dX1_goOn_27 rfl rfl ?_
    refine v_callVUf X [] (pT w a) (pT_lt (by omega) (by omega)) (c_X3_missFirstOrder l G cI cZ cT o S w a (by omega) (by omega)) (zc_T cI cZ cT o _ (by omega) (by omega)) (C := RX3) (T := TX3) (N := 16) rfl 0 rfl gX1_goOn_X3_missFirstOrder rfl ⟨rfl, rfl⟩ hy_X3_missFirstOrder_V ⟨Nat.le_of_ble_eq_true rfl, Nat.le_of_ble_eq_true rfl⟩ rfl (Nat.le_of_ble_eq_true rfl) dX1_goOn_28 ?_
    exact v_vret X dX1_goOn_31 (by simp [s_go, s_go2, hb_12])
theorem hi_X1_prop_X1 : ∀ w ∈ wsX10, w ∈ wsX1_prop := by decide +kernel
theorem hl_X1_prop_12 : Cond.fieldLink RX1 12 RX1 (TX1 0).2.1 (TX1 0).2.2.1 ∈ wsX1_prop := by decide +kernel
theorem hi_X1_prop_X0 : ∀ w ∈ wsX00, w ∈ wsX1_prop := by decide +kernel
theorem hl_X1_prop_159 : Cond.fieldLink RX1 159 RX0 (TX0 3).2.1 (TX0 3).2.2.1 ∈ wsX1_prop := by decide +kernel
theorem hi_X1_prop_X3 : ∀ w ∈ wsX30, w ∈ wsX1_prop := by decide +kernel
theorem hl_X1_prop_49 : Cond.fieldLink RX1 49 RX3 (TX3 1).2.1 (TX3 1).2.2.1 ∈ wsX1_prop := by decide +kernel
set_option maxRecDepth 100000 in
set_option maxHeartbeats 4000000 in
/-- X1_prop -/
theorem c_X1_prop (l : Launch) (G : va_G) (cI cZ cT : ClassId) (o : Nat) (S : zS) (w n a : Nat) (hw : w < 2) (ha : a < 8) (hok : z_ok S w n) (hp : 0 < S w 26 a) : zU l G cI cZ cT o yX1_prop wsX1_prop { frames := 2, cells := 0, slots := 0, locals := 41 } [.ref (o + pS w), .ref (o + pT w a)] S (fun u => u = s_prop S w a) := by
  refine z_ofV (cc := cX1_prop) (maxL := 2) (by decide) rfl (by simp [lg_sl, Value.category]) ?_
  intro p9 e9 s9 m9 a9 b9 h9 c9 X
  refine v_lo [0, 1] (lo' := [(0, .ref (o + pS w)), (1, .ref (o + pT w a))]) rfl ?_
  have hn8 := hok.2.1
  have hca := ((hok).2.2 a (by omega)).1.2
  refine v_aload_n X 0 dX1_prop_0 rfl rfl ?_
  refine v_getS X (by omega) 0 (by decide) hi_X1_prop_X1 hl_X1_prop_12 rfl (v := .ref (o + pG w)) rfl dX1_prop_1 ?_
  refine v_getG X (by omega) 3 (by decide) hi_X1_prop_X0 hl_X1_prop_159 rfl (v := .ref (o + pA w 3)) rfl dX1_prop_4 ?_
  refine v_aload_n X 1 dX1_prop_7 rfl rfl ?_
  refine v_getT X (by omega) (by omega) 1 (by decide) hi_X1_prop_X3 hl_X1_prop_49 rfl (v := .int (S w 15 a)) rfl dX1_prop_8 ?_
  refine v_top (y := nI (cl (S w 15 a))) (((hok).2.2 a (by omega)).1.1) ?_
  refine v_ialdA X (w := w) (by omega) 3 (by omega) (cl (S w 15 a)) rfl (by omega) dX1_prop_11 ?_
  refine v_iconst (v := 3) X (by decide) dX1_prop_12 ?_
  refine v_icmp_lt X (tgt := 21) dX1_prop_13 (by decide) (fun c_13 => ?_) (fun c_13 => ?_)
  ·
    refine v_aload_n X 0 dX1_prop_21 rfl rfl ?_
    refine v_getS X (by omega) 0 (by decide) hi_X1_prop_X1 hl_X1_prop_12 rfl (v := .ref (o + pG w)) rfl dX1_prop_22 ?_
    refine v_getG X (by omega) 3 (by decide) hi_X1_prop_X0 hl_X1_prop_159 rfl (v := .ref (o + pA w 3)) rfl dX1_prop_25 ?_
    refine v_aload_n X 1 dX1_prop_28 rfl rfl ?_
    refine v_getT X (by omega) (by omega) 1 (by decide) hi_X1_prop_X3 hl_X1_prop_49 rfl (v := .int (S w 15 a)) rfl dX1_prop_29 ?_
    refine v_top (y := nI (cl (S w 15 a))) (((hok).2.2 a (by omega)).1.1) ?_
    refine v_dup2 X rfl rfl dX1_prop_32 ?_
    refine v_ialdA X (w := w) (by omega) 3 (by omega) (cl (S w 15 a)) rfl (by omega) dX1_prop_33 ?_
    refine v_iconst (v := 1) X (by decide) dX1_prop_34 ?_
    refine v_iadd X dX1_prop_35 ?_
    refine v_iastA X (w := w) (by omega) 3 (by omega) (cl (S w 15 a)) rfl (by omega) dX1_prop_36 ?_
    refine v_aload_n X 1 dX1_prop_37 rfl rfl ?_
    refine v_callVUf X [] (pT w a) (pT_lt (by omega) (by omega)) (c_X3_countFirstOrder l G cI cZ cT o (z_up S w 3 (cl (S w 15 a)) ((S w 3 (cl (S w 15 a))) + 1)) w a (by omega) (by omega)) (zc_T cI cZ cT o _ (by omega) (by omega)) (C := RX3) (T := TX3) (N := 16) rfl 0 rfl gX1_prop_X3_countFirstOrder rfl ⟨rfl, rfl⟩ hy_X3_countFirstOrder_V ⟨Nat.le_of_ble_eq_true rfl, Nat.le_of_ble_eq_true rfl⟩ rfl (Nat.le_of_ble_eq_true rfl) dX1_prop_38 ?_
    exact v_vret X dX1_prop_41 (by simp [s_prop, c_13])
  ·
    refine v_aload_n X 1 dX1_prop_16 rfl rfl ?_
    refine v_callVUf X [] (pT w a) (pT_lt (by omega) (by omega)) (c_X3_missFirstOrder l G cI cZ cT o S w a (by omega) (by omega)) (zc_T cI cZ cT o _ (by omega) (by omega)) (C := RX3) (T := TX3) (N := 16) rfl 0 rfl gX1_prop_X3_missFirstOrder rfl ⟨rfl, rfl⟩ hy_X3_missFirstOrder_V ⟨Nat.le_of_ble_eq_true rfl, Nat.le_of_ble_eq_true rfl⟩ rfl (Nat.le_of_ble_eq_true rfl) dX1_prop_17 ?_
    exact v_vret X dX1_prop_20 (by simp [s_prop, c_13])
theorem hi_X1_carryOutFirstOrder_X3 : ∀ w ∈ wsX30, w ∈ wsX1_carryOutFirstOrder := by decide +kernel
theorem hl_X1_carryOutFirstOrder_81 : Cond.fieldLink RX1 81 RX3 (TX3 5).2.1 (TX3 5).2.2.1 ∈ wsX1_carryOutFirstOrder := by decide +kernel
theorem hy_X1_dig_V : yX1_dig.cls = RX1 ∧ yX1_dig.cls ≠ "java/lang/invoke/MethodHandle" ∧ yX1_dig.cls ≠ "java/lang/invoke/VarHandle" ∧ (parseMethodDescriptor yX1_dig.desc).map (fun d => d.parameters.length) = some 1 := by decide +kernel
theorem hy_X1_goOn_V : yX1_goOn.cls = RX1 ∧ yX1_goOn.cls ≠ "java/lang/invoke/MethodHandle" ∧ yX1_goOn.cls ≠ "java/lang/invoke/VarHandle" ∧ (parseMethodDescriptor yX1_goOn.desc).map (fun d => d.parameters.length) = some 1 := by decide +kernel
theorem hy_X1_prop_V : yX1_prop.cls = RX1 ∧ yX1_prop.cls ≠ "java/lang/invoke/MethodHandle" ∧ yX1_prop.cls ≠ "java/lang/invoke/VarHandle" ∧ (parseMethodDescriptor yX1_prop.desc).map (fun d => d.parameters.length) = some 1 := by decide +kernel
theorem hl_X1_carryOutFirstOrder_128 : Cond.fieldLink RX1 128 RX3 (TX3 8).2.1 (TX3 8).2.2.1 ∈ wsX1_carryOutFirstOrder := by decide +kernel
theorem hi_X1_carryOutFirstOrder_X1 : ∀ w ∈ wsX10, w ∈ wsX1_carryOutFirstOrder := by decide +kernel
theorem hl_X1_carryOutFirstOrder_12 : Cond.fieldLink RX1 12 RX1 (TX1 0).2.1 (TX1 0).2.2.1 ∈ wsX1_carryOutFirstOrder := by decide +kernel
theorem hi_X1_carryOutFirstOrder_X0 : ∀ w ∈ wsX00, w ∈ wsX1_carryOutFirstOrder := by decide +kernel
theorem hl_X1_carryOutFirstOrder_84 : Cond.fieldLink RX1 84 RX0 (TX0 5).2.1 (TX0 5).2.2.1 ∈ wsX1_carryOutFirstOrder := by decide +kernel
theorem hl_X1_carryOutFirstOrder_49 : Cond.fieldLink RX1 49 RX3 (TX3 1).2.1 (TX3 1).2.2.1 ∈ wsX1_carryOutFirstOrder := by decide +kernel
theorem hy_X0_setFire_V : yX0_setFire.cls = RX0 ∧ yX0_setFire.cls ≠ "java/lang/invoke/MethodHandle" ∧ yX0_setFire.cls ≠ "java/lang/invoke/VarHandle" ∧ (parseMethodDescriptor yX0_setFire.desc).map (fun d => d.parameters.length) = some 1 := by decide +kernel
set_option maxRecDepth 100000 in
set_option maxHeartbeats 4000000 in
/-- X1_carryOutFirstOrder -/
theorem c_X1_carryOutFirstOrder (l : Launch) (G : va_G) (cI cZ cT : ClassId) (o : Nat) (S : zS) (w n a k : Nat) (hw : w < 2) (ha : a < 8) (hk : k < 7) (hok : z_ok S w n) (hp : 0 < S w 26 a) (ek : s_firstKind S w a = nI k) : zU l G cI cZ cT o yX1_carryOutFirstOrder wsX1_carryOutFirstOrder { frames := 3, cells := 0, slots := 0, locals := 69 } [.ref (o + pS w), .ref (o + pT w a)] S (fun u => u = s_carry1 (z_up S w 19 a (z_noise k)) w a k) := by
  refine z_ofV (cc := cX1_carryOutFirstOrder) (maxL := 3) (by decide) rfl (by simp [lg_sl, Value.category]) ?_
  intro p9 e9 s9 m9 a9 b9 h9 c9 X
  refine v_lo [0, 1] (lo' := [(0, .ref (o + pS w)), (1, .ref (o + pT w a))]) rfl ?_
  have hn8 := hok.2.1
  have hca := ((hok).2.2 a (by omega)).1.2
  refine v_aload_n X 1 dX1_carryOutFirstOrder_0 rfl rfl ?_
  refine v_callVIf X [] (pT w a) (pT_lt (by omega) (by omega)) (c_X3_firstKind l G cI cZ cT o S w a (by omega) (by omega)) (zc_T cI cZ cT o _ (by omega) (by omega)) (C := RX3) (T := TX3) (N := 16) rfl 0 rfl gX1_carryOutFirstOrder_X3_firstKind rfl ⟨rfl, rfl⟩ hy_X3_firstKind_V ⟨Nat.le_of_ble_eq_true rfl, Nat.le_of_ble_eq_true rfl⟩ rfl (Nat.le_of_ble_eq_true rfl) dX1_carryOutFirstOrder_1 ?_
  refine v_top (y := nI k) (ek) ?_
  refine v_istore_n (lo' := [(2, .int (nI k)), (0, .ref (o + pS w)), (1, .ref (o + pT w a))]) X dX1_carryOutFirstOrder_4 rfl (by decide) rfl ?_
  refine v_iload_n X 0 dX1_carryOutFirstOrder_5 rfl rfl ?_
  refine v_if_lt X (tgt := 15) dX1_carryOutFirstOrder_6 (by decide) (fun q => absurd q (nI_pos (by omega))) (fun _ => ?_)
  refine v_iload_n X 0 dX1_carryOutFirstOrder_9 rfl rfl ?_
  refine v_bipush (v := 7) X (by decide) dX1_carryOutFirstOrder_10 ?_
  refine v_ncmp_lt X k 7 rfl rfl (by omega) (by omega) (tgt := 16) dX1_carryOutFirstOrder_12 (by decide) (fun c_12 => ?_) (fun c_12 => ?_)
  ·
    refine v_aload_n X 2 dX1_carryOutFirstOrder_16 rfl rfl ?_
    refine v_noises X (by simp [z_nest, RX1, RX5, yX1_carryOutFirstOrder]) dX1_carryOutFirstOrder_17 (fun t17 hT17 => ?_)
    refine v_iload_n X 0 dX1_carryOutFirstOrder_20 rfl rfl ?_
    refine v_ialdN X hT17 k rfl (by omega) dX1_carryOutFirstOrder_21 ?_
    refine v_putT5 X (by omega) (by omega) hi_X1_carryOutFirstOrder_X3 hl_X1_carryOutFirstOrder_81 dX1_carryOutFirstOrder_22 ?_
    refine v_iload_n X 0 dX1_carryOutFirstOrder_25 rfl rfl ?_
    rcases (show k = 0 ∨ k = 1 ∨ k = 2 ∨ k = 3 ∨ k = 4 ∨ k = 5 ∨ k = 6 by omega) with rfl | rfl | rfl | rfl | rfl | rfl | rfl
    ·
      refine v_tswO X (tgt := 139) dX1_carryOutFirstOrder_26 (by decide) (by decide) ?_
      refine v_aload_n X 2 dX1_carryOutFirstOrder_139 rfl rfl ?_
      refine v_callVUf X [] (pT w a) (pT_lt (by omega) (by omega)) (c_X3_countFirstOrder l G cI cZ cT o (z_up S w 19 a (z_noise 0)) w a (by omega) (by omega)) (zc_T cI cZ cT o _ (by omega) (by omega)) (C := RX3) (T := TX3) (N := 16) rfl 0 rfl gX1_carryOutFirstOrder_X3_countFirstOrder rfl ⟨rfl, rfl⟩ hy_X3_countFirstOrder_V ⟨Nat.le_of_ble_eq_true rfl, Nat.le_of_ble_eq_true rfl⟩ rfl (Nat.le_of_ble_eq_true rfl) dX1_carryOutFirstOrder_140 ?_
      exact v_vret X dX1_carryOutFirstOrder_143 (by simp [s_carry1, show ∀ x, z_up S w 19 a x w 15 a = S w 15 a from fun x => z_up_ne S x (by omega)])
    ·
      refine v_tsw X (off := 38) (tgt := 64) dX1_carryOutFirstOrder_26 (by decide) (by decide) (by decide) (by decide) ?_
      refine v_aload_n X 1 dX1_carryOutFirstOrder_64 rfl rfl ?_
      refine v_aload_n X 2 dX1_carryOutFirstOrder_65 rfl rfl ?_
      refine v_callVUf X [.ref (o + pT w a)] (pS w) (pS_lt (by omega)) (c_X1_dig l G cI cZ cT o (z_up S w 19 a (z_noise 1)) w n a (by omega) (by omega) ((hok).up 19 a _ (by omega)) (by rw [z_up_ne _ _ (by omega)]; exact hp)) (zc_S cI cZ cT o _ (by omega)) (C := RX1) (T := TX1) (N := 4) rfl 1 rfl gX1_carryOutFirstOrder_X1_dig rfl ⟨rfl, rfl⟩ hy_X1_dig_V ⟨Nat.le_of_ble_eq_true rfl, Nat.le_of_ble_eq_true rfl⟩ rfl (Nat.le_of_ble_eq_true rfl) dX1_carryOutFirstOrder_66 ?_
      refine v_goto (tgt := 143) X dX1_carryOutFirstOrder_69 (by decide) ?_
      exact v_vret X dX1_carryOutFirstOrder_143 (by simp [s_carry1, show ∀ x, z_up S w 19 a x w 15 a = S w 15 a from fun x => z_up_ne S x (by omega)])
    ·
      refine v_tsw X (off := 46) (tgt := 72) dX1_carryOutFirstOrder_26 (by decide) (by decide) (by decide) (by decide) ?_
      refine v_aload_n X 1 dX1_carryOutFirstOrder_72 rfl rfl ?_
      refine v_aload_n X 2 dX1_carryOutFirstOrder_73 rfl rfl ?_
      refine v_callVUf X [.ref (o + pT w a)] (pS w) (pS_lt (by omega)) (c_X1_goOn l G cI cZ cT o (z_up S w 19 a (z_noise 2)) w n a (by omega) (by omega) ((hok).up 19 a _ (by omega)) (by rw [z_up_ne _ _ (by omega)]; exact hp)) (zc_S cI cZ cT o _ (by omega)) (C := RX1) (T := TX1) (N := 4) rfl 1 rfl gX1_carryOutFirstOrder_X1_goOn rfl ⟨rfl, rfl⟩ hy_X1_goOn_V ⟨Nat.le_of_ble_eq_true rfl, Nat.le_of_ble_eq_true rfl⟩ rfl (Nat.le_of_ble_eq_true rfl) dX1_carryOutFirstOrder_74 ?_
      refine v_goto (tgt := 143) X dX1_carryOutFirstOrder_77 (by decide) ?_
      exact v_vret X dX1_carryOutFirstOrder_143 (by simp [s_carry1, show ∀ x, z_up S w 19 a x w 15 a = S w 15 a from fun x => z_up_ne S x (by omega)])
    ·
      refine v_tsw X (off := 54) (tgt := 80) dX1_carryOutFirstOrder_26 (by decide) (by decide) (by decide) (by decide) ?_
      refine v_aload_n X 1 dX1_carryOutFirstOrder_80 rfl rfl ?_
      refine v_aload_n X 2 dX1_carryOutFirstOrder_81 rfl rfl ?_
      refine v_callVUf X [.ref (o + pT w a)] (pS w) (pS_lt (by omega)) (c_X1_prop l G cI cZ cT o (z_up S w 19 a (z_noise 3)) w n a (by omega) (by omega) ((hok).up 19 a _ (by omega)) (by rw [z_up_ne _ _ (by omega)]; exact hp)) (zc_S cI cZ cT o _ (by omega)) (C := RX1) (T := TX1) (N := 4) rfl 1 rfl gX1_carryOutFirstOrder_X1_prop rfl ⟨rfl, rfl⟩ hy_X1_prop_V ⟨Nat.le_of_ble_eq_true rfl, Nat.le_of_ble_eq_true rfl⟩ rfl (Nat.le_of_ble_eq_true rfl) dX1_carryOutFirstOrder_82 ?_
      refine v_goto (tgt := 143) X dX1_carryOutFirstOrder_85 (by decide) ?_
      exact v_vret X dX1_carryOutFirstOrder_143 (by simp [s_carry1, show ∀ x, z_up S w 19 a x w 15 a = S w 15 a from fun x => z_up_ne S x (by omega)])
    ·
      refine v_tsw X (off := 62) (tgt := 88) dX1_carryOutFirstOrder_26 (by decide) (by decide) (by decide) (by decide) ?_
      refine v_aload_n X 2 dX1_carryOutFirstOrder_88 rfl rfl ?_
      refine v_iconst (v := 1) X (by decide) dX1_carryOutFirstOrder_89 ?_
      refine v_putT8 X (by omega) (by omega) rfl rfl hi_X1_carryOutFirstOrder_X3 hl_X1_carryOutFirstOrder_128 dX1_carryOutFirstOrder_90 ?_
      refine v_aload_n X 2 dX1_carryOutFirstOrder_93 rfl rfl ?_
      refine v_callVUf X [] (pT w a) (pT_lt (by omega) (by omega)) (c_X3_countFirstOrder l G cI cZ cT o (z_up (z_up S w 19 a (z_noise 4)) w 22 a 1) w a (by omega) (by omega)) (zc_T cI cZ cT o _ (by omega) (by omega)) (C := RX3) (T := TX3) (N := 16) rfl 0 rfl gX1_carryOutFirstOrder_X3_countFirstOrder rfl ⟨rfl, rfl⟩ hy_X3_countFirstOrder_V ⟨Nat.le_of_ble_eq_true rfl, Nat.le_of_ble_eq_true rfl⟩ rfl (Nat.le_of_ble_eq_true rfl) dX1_carryOutFirstOrder_94 ?_
      refine v_goto (tgt := 143) X dX1_carryOutFirstOrder_97 (by decide) ?_
      exact v_vret X dX1_carryOutFirstOrder_143 (by simp [s_carry1, show ∀ x, z_up S w 19 a x w 15 a = S w 15 a from fun x => z_up_ne S x (by omega)])
    ·
      refine v_tsw X (off := 74) (tgt := 100) dX1_carryOutFirstOrder_26 (by decide) (by decide) (by decide) (by decide) ?_
      refine v_aload_n X 1 dX1_carryOutFirstOrder_100 rfl rfl ?_
      refine v_getS X (by omega) 0 (by decide) hi_X1_carryOutFirstOrder_X1 hl_X1_carryOutFirstOrder_12 rfl (v := .ref (o + pG w)) rfl dX1_carryOutFirstOrder_101 ?_
      refine v_getG X (by omega) 5 (by decide) hi_X1_carryOutFirstOrder_X0 hl_X1_carryOutFirstOrder_84 rfl (v := .ref (o + pA w 5)) rfl dX1_carryOutFirstOrder_104 ?_
      refine v_aload_n X 2 dX1_carryOutFirstOrder_107 rfl rfl ?_
      refine v_getT X (by omega) (by omega) 1 (by decide) hi_X1_carryOutFirstOrder_X3 hl_X1_carryOutFirstOrder_49 rfl (v := .int ((z_up S w 19 a (z_noise 5)) w 15 a)) rfl dX1_carryOutFirstOrder_108 ?_
      refine v_top (y := S w 15 a) (z_up_ne _ _ (by omega)) ?_
      refine v_top (y := nI (cl (S w 15 a))) ((hok.2.2 a (by omega)).1.1) ?_
      refine v_bipush (v := 9) X (by decide) dX1_carryOutFirstOrder_111 ?_
      refine v_iastA X (w := w) (by omega) 5 (by omega) (cl (S w 15 a)) rfl (by omega) dX1_carryOutFirstOrder_113 ?_
      refine v_aload_n X 2 dX1_carryOutFirstOrder_114 rfl rfl ?_
      refine v_callVUf X [] (pT w a) (pT_lt (by omega) (by omega)) (c_X3_countFirstOrder l G cI cZ cT o (z_up (z_up S w 19 a (z_noise 5)) w 5 (cl (S w 15 a)) 9) w a (by omega) (by omega)) (zc_T cI cZ cT o _ (by omega) (by omega)) (C := RX3) (T := TX3) (N := 16) rfl 0 rfl gX1_carryOutFirstOrder_X3_countFirstOrder rfl ⟨rfl, rfl⟩ hy_X3_countFirstOrder_V ⟨Nat.le_of_ble_eq_true rfl, Nat.le_of_ble_eq_true rfl⟩ rfl (Nat.le_of_ble_eq_true rfl) dX1_carryOutFirstOrder_115 ?_
      refine v_goto (tgt := 143) X dX1_carryOutFirstOrder_118 (by decide) ?_
      exact v_vret X dX1_carryOutFirstOrder_143 (by simp [s_carry1, show ∀ x, z_up S w 19 a x w 15 a = S w 15 a from fun x => z_up_ne S x (by omega)])
    ·
      refine v_tsw X (off := 95) (tgt := 121) dX1_carryOutFirstOrder_26 (by decide) (by decide) (by decide) (by decide) ?_
      refine v_aload_n X 1 dX1_carryOutFirstOrder_121 rfl rfl ?_
      refine v_getS X (by omega) 0 (by decide) hi_X1_carryOutFirstOrder_X1 hl_X1_carryOutFirstOrder_12 rfl (v := .ref (o + pG w)) rfl dX1_carryOutFirstOrder_122 ?_
      refine v_aload_n X 2 dX1_carryOutFirstOrder_125 rfl rfl ?_
      refine v_getT X (by omega) (by omega) 1 (by decide) hi_X1_carryOutFirstOrder_X3 hl_X1_carryOutFirstOrder_49 rfl (v := .int ((z_up S w 19 a (z_noise 6)) w 15 a)) rfl dX1_carryOutFirstOrder_126 ?_
      refine v_top (y := S w 15 a) (z_up_ne _ _ (by omega)) ?_
      refine v_top (y := nI (cl (S w 15 a))) ((hok.2.2 a (by omega)).1.1) ?_
      refine v_callVUf X [.int (nI (cl (S w 15 a)))] (pG w) (pG_lt (by omega)) (c_X0_setFire l G cI cZ cT o (z_up S w 19 a (z_noise 6)) w (cl (S w 15 a)) (by omega) (by omega)) (zc_G cI cZ cT o _ (by omega)) (C := RX0) (T := TX0) (N := 12) rfl 1 rfl gX1_carryOutFirstOrder_X0_setFire rfl ⟨rfl, rfl⟩ hy_X0_setFire_V ⟨Nat.le_of_ble_eq_true rfl, Nat.le_of_ble_eq_true rfl⟩ rfl (Nat.le_of_ble_eq_true rfl) dX1_carryOutFirstOrder_129 ?_
      refine v_aload_n X 2 dX1_carryOutFirstOrder_132 rfl rfl ?_
      refine v_callVUf X [] (pT w a) (pT_lt (by omega) (by omega)) (c_X3_countFirstOrder l G cI cZ cT o (s_fire (z_up S w 19 a (z_noise 6)) w (cl (S w 15 a))) w a (by omega) (by omega)) (zc_T cI cZ cT o _ (by omega) (by omega)) (C := RX3) (T := TX3) (N := 16) rfl 0 rfl gX1_carryOutFirstOrder_X3_countFirstOrder rfl ⟨rfl, rfl⟩ hy_X3_countFirstOrder_V ⟨Nat.le_of_ble_eq_true rfl, Nat.le_of_ble_eq_true rfl⟩ rfl (Nat.le_of_ble_eq_true rfl) dX1_carryOutFirstOrder_133 ?_
      refine v_goto (tgt := 143) X dX1_carryOutFirstOrder_136 (by decide) ?_
      exact v_vret X dX1_carryOutFirstOrder_143 (by simp [s_carry1, show ∀ x, z_up S w 19 a x w 15 a = S w 15 a from fun x => z_up_ne S x (by omega)])
  ·
    exact absurd c_12 (by omega)
theorem hi_X1_actAll_X1 : ∀ w ∈ wsX10, w ∈ wsX1_actAll := by decide +kernel
theorem hl_X1_actAll_24 : Cond.fieldLink RX1 24 RX1 (TX1 2).2.1 (TX1 2).2.2.1 ∈ wsX1_actAll := by decide +kernel
theorem hl_X1_actAll_20 : Cond.fieldLink RX1 20 RX1 (TX1 1).2.1 (TX1 1).2.2.1 ∈ wsX1_actAll := by decide +kernel
theorem hy_X1_seesEnemy_V : yX1_seesEnemy.cls = RX1 ∧ yX1_seesEnemy.cls ≠ "java/lang/invoke/MethodHandle" ∧ yX1_seesEnemy.cls ≠ "java/lang/invoke/VarHandle" ∧ (parseMethodDescriptor yX1_seesEnemy.desc).map (fun d => d.parameters.length) = some 1 := by decide +kernel
theorem hl_X1_actAll_12 : Cond.fieldLink RX1 12 RX1 (TX1 0).2.1 (TX1 0).2.2.1 ∈ wsX1_actAll := by decide +kernel
theorem hi_X1_actAll_X0 : ∀ w ∈ wsX00, w ∈ wsX1_actAll := by decide +kernel
theorem hl_X1_actAll_84 : Cond.fieldLink RX1 84 RX0 (TX0 5).2.1 (TX0 5).2.2.1 ∈ wsX1_actAll := by decide +kernel
theorem hi_X1_actAll_X3 : ∀ w ∈ wsX30, w ∈ wsX1_actAll := by decide +kernel
theorem hl_X1_actAll_49 : Cond.fieldLink RX1 49 RX3 (TX3 1).2.1 (TX3 1).2.2.1 ∈ wsX1_actAll := by decide +kernel
theorem hl_X1_actAll_91 : Cond.fieldLink RX1 91 RX3 (TX3 12).2.1 (TX3 12).2.2.1 ∈ wsX1_actAll := by decide +kernel
theorem hy_X1_carryOutFirstOrder_V : yX1_carryOutFirstOrder.cls = RX1 ∧ yX1_carryOutFirstOrder.cls ≠ "java/lang/invoke/MethodHandle" ∧ yX1_carryOutFirstOrder.cls ≠ "java/lang/invoke/VarHandle" ∧ (parseMethodDescriptor yX1_carryOutFirstOrder.desc).map (fun d => d.parameters.length) = some 1 := by decide +kernel
theorem hy_X1_choke_V : yX1_choke.cls = RX1 ∧ yX1_choke.cls ≠ "java/lang/invoke/MethodHandle" ∧ yX1_choke.cls ≠ "java/lang/invoke/VarHandle" ∧ (parseMethodDescriptor yX1_choke.desc).map (fun d => d.parameters.length) = some 1 := by decide +kernel
theorem hl_X1_actAll_77 : Cond.fieldLink RX1 77 RX3 (TX3 7).2.1 (TX3 7).2.2.1 ∈ wsX1_actAll := by decide +kernel
theorem hl_X1_actAll_81 : Cond.fieldLink RX1 81 RX3 (TX3 5).2.1 (TX3 5).2.2.1 ∈ wsX1_actAll := by decide +kernel
set_option maxRecDepth 100000 in
set_option maxHeartbeats 4000000 in
/-- X1_actAll -/
theorem c_X1_actAll (l : Launch) (G : va_G) (cI cZ cT : ClassId) (o : Nat) (S : zS) (w n : Nat) (hw : w < 2) (hok : z_ok S w n) : zU l G cI cZ cT o yX1_actAll wsX1_actAll { frames := 4, cells := 0, slots := 0, locals := 91 } [.ref (o + pS w)] S (fun u => u = s_h1 S w n) := by
  refine z_ofV (cc := cX1_actAll) (maxL := 3) (by decide) rfl (by simp [lg_sl, Value.category]) ?_
  intro p9 e9 s9 m9 a9 b9 h9 c9 X
  refine v_lo [0] (lo' := [(0, .ref (o + pS w))]) rfl ?_
  have hn8 := hok.2.1
  refine v_iconst (v := 0) X (by decide) dX1_actAll_0 ?_
  refine v_istore_n (lo' := [(1, .int 0), (0, .ref (o + pS w))]) X dX1_actAll_1 rfl (by decide) rfl ?_
  have L_2 : ∀ (d i : Nat), i + d = n → z_V p9 l e9 (headSpec wsX1_actAll { frames := 4, cells := 0, slots := 0, locals := 91 }).room s9 m9 a9 b9 h9 c9 (MQ b9 (va_Qv (fun u => u = s_h1 S w n) (z_B G cI cZ cT o) (z_A o s9.heap.size)) a9 s9 0 0 (z_A o s9.heap.size)) G cI cZ cT o 3 (s_act S w n i) 2 [(0, .ref (o + pS w)), (1, .int (nI i))] [] := by
    intro d
    induction d with
    | zero =>
      intro i hi_2
      have he_2 : i = n := by omega
      rw [he_2]
      refine v_iload_n X 1 dX1_actAll_2 rfl rfl ?_
      refine v_aload_n X 0 dX1_actAll_3 rfl rfl ?_
      refine v_getS X (by omega) 2 (by decide) hi_X1_actAll_X1 hl_X1_actAll_24 rfl (v := .int ((s_act S w n n) w 12 0)) rfl dX1_actAll_4 ?_
      refine v_top (y := nI n) ((ok_act hok n (by omega)).1) ?_
      refine v_ncmp_ge X n n rfl rfl (by omega) (by omega) (tgt := 96) dX1_actAll_7 (by decide) (fun c_7 => ?_) (fun c_7 => ?_)
      ·
        exact v_vret X dX1_actAll_96 (by rfl)
      ·
        exact absurd c_7 (by omega)
    | succ d ih_2 =>
      intro i hi_2
      have hci := ((ok_begin (ok_act hok (i) (by omega)) (i)).2.2 i (by omega)).1.2
      refine v_iload_n X 1 dX1_actAll_2 rfl rfl ?_
      refine v_aload_n X 0 dX1_actAll_3 rfl rfl ?_
      refine v_getS X (by omega) 2 (by decide) hi_X1_actAll_X1 hl_X1_actAll_24 rfl (v := .int ((s_act S w n i) w 12 0)) rfl dX1_actAll_4 ?_
      refine v_top (y := nI n) ((ok_act hok i (by omega)).1) ?_
      refine v_ncmp_ge X i n rfl rfl (by omega) (by omega) (tgt := 96) dX1_actAll_7 (by decide) (fun c_7 => ?_) (fun c_7 => ?_)
      ·
        exact absurd c_7 (by omega)
      ·
        refine v_aload_n X 0 dX1_actAll_10 rfl rfl ?_
        refine v_getS X (by omega) 1 (by decide) hi_X1_actAll_X1 hl_X1_actAll_20 rfl (v := .ref (o + pL w)) rfl dX1_actAll_11 ?_
        refine v_iload_n X 1 dX1_actAll_14 rfl rfl ?_
        refine v_aald X (w := w) (by omega) i rfl (by omega) dX1_actAll_15 ?_
        refine v_astore_n (lo' := [(2, .ref (o + pT w i)), (0, .ref (o + pS w)), (1, .int (nI i))]) X dX1_actAll_16 rfl (by decide) rfl ?_
        refine v_aload_n X 0 dX1_actAll_17 rfl rfl ?_
        refine v_callVUf X [] (pT w i) (pT_lt (by omega) (by omega)) (c_X3_beginHour l G cI cZ cT o (s_act S w n i) w i (by omega) (by omega)) (zc_T cI cZ cT o _ (by omega) (by omega)) (C := RX3) (T := TX3) (N := 16) rfl 0 rfl gX1_actAll_X3_beginHour rfl ⟨rfl, rfl⟩ hy_X3_beginHour_V ⟨Nat.le_of_ble_eq_true rfl, Nat.le_of_ble_eq_true rfl⟩ rfl (Nat.le_of_ble_eq_true rfl) dX1_actAll_18 ?_
        refine v_aload_n X 0 dX1_actAll_21 rfl rfl ?_
        refine v_callVIf X [] (pT w i) (pT_lt (by omega) (by omega)) (c_X3_isGone l G cI cZ cT o (s_begin (s_act S w n i) w i) w i (by omega) (by omega)) (zc_T cI cZ cT o _ (by omega) (by omega)) (C := RX3) (T := TX3) (N := 16) rfl 0 rfl gX1_actAll_X3_isGone rfl ⟨rfl, rfl⟩ hy_X3_isGone_V ⟨Nat.le_of_ble_eq_true rfl, Nat.le_of_ble_eq_true rfl⟩ rfl (Nat.le_of_ble_eq_true rfl) dX1_actAll_22 ?_
        refine v_if_eq X (tgt := 31) dX1_actAll_25 (by decide) (fun c_25 => ?_) (fun c_25 => ?_)
        ·
          refine v_aload_n X 1 dX1_actAll_31 rfl rfl ?_
          refine v_aload_n X 0 dX1_actAll_32 rfl rfl ?_
          refine v_callVIf X [.ref (o + pT w i)] (pS w) (pS_lt (by omega)) (c_X1_seesEnemy l G cI cZ cT o (s_begin (s_act S w n i) w i) w n i (by omega) (by omega) (ok_begin (ok_act hok i (by omega)) i)) (zc_S cI cZ cT o _ (by omega)) (C := RX1) (T := TX1) (N := 4) rfl 1 rfl gX1_actAll_X1_seesEnemy rfl ⟨rfl, rfl⟩ hy_X1_seesEnemy_V ⟨Nat.le_of_ble_eq_true rfl, Nat.le_of_ble_eq_true rfl⟩ rfl (Nat.le_of_ble_eq_true rfl) dX1_actAll_33 ?_
          refine v_if_eq X (tgt := 53) dX1_actAll_36 (by decide) (fun c_36 => ?_) (fun c_36 => ?_)
          ·
            refine v_aload_n X 1 dX1_actAll_53 rfl rfl ?_
            refine v_getS X (by omega) 0 (by decide) hi_X1_actAll_X1 hl_X1_actAll_12 rfl (v := .ref (o + pG w)) rfl dX1_actAll_54 ?_
            refine v_getG X (by omega) 5 (by decide) hi_X1_actAll_X0 hl_X1_actAll_84 rfl (v := .ref (o + pA w 5)) rfl dX1_actAll_57 ?_
            refine v_aload_n X 0 dX1_actAll_60 rfl rfl ?_
            refine v_getT X (by omega) (by omega) 1 (by decide) hi_X1_actAll_X3 hl_X1_actAll_49 rfl (v := .int ((s_begin (s_act S w n i) w i) w 15 i)) rfl dX1_actAll_61 ?_
            refine v_top (y := nI (cl ((s_begin (s_act S w n i) w i) w 15 i))) (((ok_begin (ok_act hok i (by omega)) i).2.2 i (by omega)).1.1) ?_
            refine v_ialdA X (w := w) (by omega) 5 (by omega) (cl ((s_begin (s_act S w n i) w i) w 15 i)) rfl (by omega) dX1_actAll_64 ?_
            refine v_bipush (v := 6) X (by decide) dX1_actAll_65 ?_
            refine v_icmp_lt X (tgt := 78) dX1_actAll_67 (by decide) (fun c_67 => ?_) (fun c_67 => ?_)
            ·
              refine v_aload_n X 0 dX1_actAll_78 rfl rfl ?_
              refine v_getT X (by omega) (by omega) 12 (by decide) hi_X1_actAll_X3 hl_X1_actAll_91 rfl (v := .int ((s_begin (s_act S w n i) w i) w 26 i)) rfl dX1_actAll_79 ?_
              refine v_if_le X (tgt := 90) dX1_actAll_82 (by decide) (fun c_82 => ?_) (fun c_82 => ?_)
              ·
                refine v_iinc (v := nI (i + 1)) (lo' := [(1, .int (nI (i + 1))), (2, .ref (o + pT w i)), (0, .ref (o + pS w))]) X 2 dX1_actAll_90 rfl (nI_1 i) (by decide) rfl ?_
                refine v_goto (tgt := 2) X dX1_actAll_93 (by decide) ?_
                refine v_lo [2, 0] (lo' := [(0, .ref (o + pS w)), (1, .int (nI (i + 1)))]) rfl ?_
                refine v_eq (S' := s_act S w n (i + 1)) (lo' := [(0, .ref (o + pS w)), (1, .int (nI (i + 1)))]) (by simp [s_act, s_act2, c_7, c_25, c_36, c_67, c_82]) (by rfl) ?_
                exact ih_2 (i + 1) (by omega)
              ·
                refine v_aload_n X 1 dX1_actAll_85 rfl rfl ?_
                refine v_aload_n X 0 dX1_actAll_86 rfl rfl ?_
                refine v_callVUf X [.ref (o + pT w i)] (pS w) (pS_lt (by omega)) (c_X1_carryOutFirstOrder l G cI cZ cT o (s_begin (s_act S w n i) w i) w n i (cl ((s_begin (s_act S w n i) w i) w (27 + 3 * i + 0) 0)) (by omega) (by omega) ((((ok_begin (ok_act hok i (by omega)) i).2.2 i (by omega)).2.2 0 (by omega)).1.2) (ok_begin (ok_act hok i (by omega)) i) c_82 ((if_pos c_82).trans ((((ok_begin (ok_act hok i (by omega)) i).2.2 i (by omega)).2.2 0 (by omega)).1.1))) (zc_S cI cZ cT o _ (by omega)) (C := RX1) (T := TX1) (N := 4) rfl 1 rfl gX1_actAll_X1_carryOutFirstOrder rfl ⟨rfl, rfl⟩ hy_X1_carryOutFirstOrder_V ⟨Nat.le_of_ble_eq_true rfl, Nat.le_of_ble_eq_true rfl⟩ rfl (Nat.le_of_ble_eq_true rfl) dX1_actAll_87 ?_
                refine v_st (S' := s_carry (s_begin (s_act S w n i) w i) w i) (rfl) ?_
                refine v_iinc (v := nI (i + 1)) (lo' := [(1, .int (nI (i + 1))), (2, .ref (o + pT w i)), (0, .ref (o + pS w))]) X 2 dX1_actAll_90 rfl (nI_1 i) (by decide) rfl ?_
                refine v_goto (tgt := 2) X dX1_actAll_93 (by decide) ?_
                refine v_lo [2, 0] (lo' := [(0, .ref (o + pS w)), (1, .int (nI (i + 1)))]) rfl ?_
                refine v_eq (S' := s_act S w n (i + 1)) (lo' := [(0, .ref (o + pS w)), (1, .int (nI (i + 1)))]) (by simp [s_act, s_act2, c_7, c_25, c_36, c_67, c_82]) (by rfl) ?_
                exact ih_2 (i + 1) (by omega)
            ·
              refine v_aload_n X 1 dX1_actAll_70 rfl rfl ?_
              refine v_aload_n X 0 dX1_actAll_71 rfl rfl ?_
              refine v_callVUf X [.ref (o + pT w i)] (pS w) (pS_lt (by omega)) (c_X1_choke l G cI cZ cT o (s_begin (s_act S w n i) w i) w n i (by omega) (by omega) (ok_begin (ok_act hok i (by omega)) i)) (zc_S cI cZ cT o _ (by omega)) (C := RX1) (T := TX1) (N := 4) rfl 1 rfl gX1_actAll_X1_choke rfl ⟨rfl, rfl⟩ hy_X1_choke_V ⟨Nat.le_of_ble_eq_true rfl, Nat.le_of_ble_eq_true rfl⟩ rfl (Nat.le_of_ble_eq_true rfl) dX1_actAll_72 ?_
              refine v_goto (tgt := 90) X dX1_actAll_75 (by decide) ?_
              refine v_iinc (v := nI (i + 1)) (lo' := [(1, .int (nI (i + 1))), (2, .ref (o + pT w i)), (0, .ref (o + pS w))]) X 2 dX1_actAll_90 rfl (nI_1 i) (by decide) rfl ?_
              refine v_goto (tgt := 2) X dX1_actAll_93 (by decide) ?_
              refine v_lo [2, 0] (lo' := [(0, .ref (o + pS w)), (1, .int (nI (i + 1)))]) rfl ?_
              refine v_eq (S' := s_act S w n (i + 1)) (lo' := [(0, .ref (o + pS w)), (1, .int (nI (i + 1)))]) (by simp [s_act, s_act2, c_7, c_25, c_36, c_67]) (by rfl) ?_
              exact ih_2 (i + 1) (by omega)
          ·
            refine v_aload_n X 0 dX1_actAll_39 rfl rfl ?_
            refine v_iconst (v := 1) X (by decide) dX1_actAll_40 ?_
            refine v_putT7 X (by omega) (by omega) rfl rfl hi_X1_actAll_X3 hl_X1_actAll_77 dX1_actAll_41 ?_
            refine v_aload_n X 0 dX1_actAll_44 rfl rfl ?_
            refine v_bipush (v := 6) X (by decide) dX1_actAll_45 ?_
            refine v_putT5 X (by omega) (by omega) hi_X1_actAll_X3 hl_X1_actAll_81 dX1_actAll_47 ?_
            refine v_goto (tgt := 90) X dX1_actAll_50 (by decide) ?_
            refine v_iinc (v := nI (i + 1)) (lo' := [(1, .int (nI (i + 1))), (2, .ref (o + pT w i)), (0, .ref (o + pS w))]) X 2 dX1_actAll_90 rfl (nI_1 i) (by decide) rfl ?_
            refine v_goto (tgt := 2) X dX1_actAll_93 (by decide) ?_
            refine v_lo [2, 0] (lo' := [(0, .ref (o + pS w)), (1, .int (nI (i + 1)))]) rfl ?_
            refine v_eq (S' := s_act S w n (i + 1)) (lo' := [(0, .ref (o + pS w)), (1, .int (nI (i + 1)))]) (by simp [s_act, s_act2, c_7, c_25, c_36]) (by rfl) ?_
            exact ih_2 (i + 1) (by omega)
        ·
          refine v_goto (tgt := 90) X dX1_actAll_28 (by decide) ?_
          refine v_iinc (v := nI (i + 1)) (lo' := [(1, .int (nI (i + 1))), (2, .ref (o + pT w i)), (0, .ref (o + pS w))]) X 2 dX1_actAll_90 rfl (nI_1 i) (by decide) rfl ?_
          refine v_goto (tgt := 2) X dX1_actAll_93 (by decide) ?_
          refine v_lo [2, 0] (lo' := [(0, .ref (o + pS w)), (1, .int (nI (i + 1)))]) rfl ?_
          refine v_eq (S' := s_act S w n (i + 1)) (lo' := [(0, .ref (o + pS w)), (1, .int (nI (i + 1)))]) (by simp [s_act, s_act2, c_7, c_25]) (by rfl) ?_
          exact ih_2 (i + 1) (by omega)
  refine v_lo [1, 0] (lo' := [(0, .ref (o + pS w)), (1, .int 0)]) rfl ?_
  refine v_eq (S' := s_act S w n 0) (lo' := [(0, .ref (o + pS w)), (1, .int (nI 0))]) (by rfl) (by rfl) ?_
  exact L_2 (n) 0 (by omega)
theorem hi_X1_fightingEnemies_X1 : ∀ w ∈ wsX10, w ∈ wsX1_fightingEnemies := by decide +kernel
theorem hl_X1_fightingEnemies_24 : Cond.fieldLink RX1 24 RX1 (TX1 2).2.1 (TX1 2).2.2.1 ∈ wsX1_fightingEnemies := by decide +kernel
theorem hl_X1_fightingEnemies_20 : Cond.fieldLink RX1 20 RX1 (TX1 1).2.1 (TX1 1).2.2.1 ∈ wsX1_fightingEnemies := by decide +kernel
theorem hi_X1_fightingEnemies_X3 : ∀ w ∈ wsX30, w ∈ wsX1_fightingEnemies := by decide +kernel
theorem hl_X1_fightingEnemies_39 : Cond.fieldLink RX1 39 RX3 (TX3 0).2.1 (TX3 0).2.2.1 ∈ wsX1_fightingEnemies := by decide +kernel
theorem hl_X1_fightingEnemies_77 : Cond.fieldLink RX1 77 RX3 (TX3 7).2.1 (TX3 7).2.2.1 ∈ wsX1_fightingEnemies := by decide +kernel
theorem hl_X1_fightingEnemies_49 : Cond.fieldLink RX1 49 RX3 (TX3 1).2.1 (TX3 1).2.2.1 ∈ wsX1_fightingEnemies := by decide +kernel
set_option maxRecDepth 100000 in
set_option maxHeartbeats 4000000 in
/-- X1_fightingEnemies -/
theorem c_X1_fightingEnemies (l : Launch) (G : va_G) (cI cZ cT : ClassId) (o : Nat) (S : zS) (w n a : Nat) (hw : w < 2) (ha : a < 8) (hok : z_ok S w n) : zI l G cI cZ cT o yX1_fightingEnemies wsX1_fightingEnemies { frames := 3, cells := 0, slots := 0, locals := 63 } [.ref (o + pS w), .ref (o + pT w a)] S (fun r u => r = s_foes S w a n ∧ u = S) := by
  refine z_ofI (cc := cX1_fightingEnemies) (maxL := 5) (by decide) rfl (by simp [lg_sl, Value.category]) ?_
  intro p9 e9 s9 m9 a9 b9 h9 c9 X
  refine v_lo [0, 1] (lo' := [(0, .ref (o + pS w)), (1, .ref (o + pT w a))]) rfl ?_
  have hn8 := hok.2.1
  have hca := ((hok).2.2 a (by omega)).1.2
  refine v_iconst (v := 0) X (by decide) dX1_fightingEnemies_0 ?_
  refine v_istore_n (lo' := [(2, .int 0), (0, .ref (o + pS w)), (1, .ref (o + pT w a))]) X dX1_fightingEnemies_1 rfl (by decide) rfl ?_
  refine v_iconst (v := 0) X (by decide) dX1_fightingEnemies_2 ?_
  refine v_istore_n (lo' := [(3, .int 0), (2, .int 0), (0, .ref (o + pS w)), (1, .ref (o + pT w a))]) X dX1_fightingEnemies_3 rfl (by decide) rfl ?_
  have L_4 : ∀ (d i : Nat), i + d = n → z_V p9 l e9 (headSpec wsX1_fightingEnemies { frames := 3, cells := 0, slots := 0, locals := 63 }).room s9 m9 a9 b9 h9 c9 (MQ b9 (va_Qi (fun r u => r = s_foes S w a n ∧ u = S) (z_B G cI cZ cT o) (z_A o s9.heap.size)) a9 s9 0 0 (z_A o s9.heap.size)) G cI cZ cT o 5 (S) 4 [(0, .ref (o + pS w)), (1, .ref (o + pT w a)), (2, .int (s_foes S w a i)), (3, .int (nI i))] [] := by
    intro d
    induction d with
    | zero =>
      intro i hi_4
      have he_4 : i = n := by omega
      rw [he_4]
      refine v_iload_n X 3 dX1_fightingEnemies_4 rfl rfl ?_
      refine v_aload_n X 0 dX1_fightingEnemies_5 rfl rfl ?_
      refine v_getS X (by omega) 2 (by decide) hi_X1_fightingEnemies_X1 hl_X1_fightingEnemies_24 rfl (v := .int (S w 12 0)) rfl dX1_fightingEnemies_6 ?_
      refine v_top (y := nI n) ((hok).1) ?_
      refine v_ncmp_ge X n n rfl rfl (by omega) (by omega) (tgt := 61) dX1_fightingEnemies_9 (by decide) (fun c_9 => ?_) (fun c_9 => ?_)
      ·
        refine v_iload_n X 2 dX1_fightingEnemies_61 rfl rfl ?_
        exact v_iret X dX1_fightingEnemies_62 (by exact ⟨rfl, rfl⟩)
      ·
        exact absurd c_9 (by omega)
    | succ d ih_4 =>
      intro i hi_4
      have hci := ((hok).2.2 i (by omega)).1.2
      refine v_iload_n X 3 dX1_fightingEnemies_4 rfl rfl ?_
      refine v_aload_n X 0 dX1_fightingEnemies_5 rfl rfl ?_
      refine v_getS X (by omega) 2 (by decide) hi_X1_fightingEnemies_X1 hl_X1_fightingEnemies_24 rfl (v := .int (S w 12 0)) rfl dX1_fightingEnemies_6 ?_
      refine v_top (y := nI n) ((hok).1) ?_
      refine v_ncmp_ge X i n rfl rfl (by omega) (by omega) (tgt := 61) dX1_fightingEnemies_9 (by decide) (fun c_9 => ?_) (fun c_9 => ?_)
      ·
        exact absurd c_9 (by omega)
      ·
        refine v_aload_n X 0 dX1_fightingEnemies_12 rfl rfl ?_
        refine v_getS X (by omega) 1 (by decide) hi_X1_fightingEnemies_X1 hl_X1_fightingEnemies_20 rfl (v := .ref (o + pL w)) rfl dX1_fightingEnemies_13 ?_
        refine v_iload_n X 3 dX1_fightingEnemies_16 rfl rfl ?_
        refine v_aald X (w := w) (by omega) i rfl (by omega) dX1_fightingEnemies_17 ?_
        refine v_astore (lo' := [(4, .ref (o + pT w i)), (0, .ref (o + pS w)), (1, .ref (o + pT w a)), (2, .int (s_foes S w a i)), (3, .int (nI i))]) X dX1_fightingEnemies_18 (by decide) rfl ?_
        refine v_aload X 0 dX1_fightingEnemies_20 rfl ?_
        refine v_getT X (by omega) (by omega) 0 (by decide) hi_X1_fightingEnemies_X3 hl_X1_fightingEnemies_39 rfl (v := .int (S w 14 i)) rfl dX1_fightingEnemies_22 ?_
        refine v_aload_n X 2 dX1_fightingEnemies_25 rfl rfl ?_
        refine v_getT X (by omega) (by omega) 0 (by decide) hi_X1_fightingEnemies_X3 hl_X1_fightingEnemies_39 rfl (v := .int (S w 14 a)) rfl dX1_fightingEnemies_26 ?_
        refine v_icmp_eq X (tgt := 55) dX1_fightingEnemies_29 (by decide) (fun c_29 => ?_) (fun c_29 => ?_)
        ·
          refine v_iinc (v := nI (i + 1)) (lo' := [(3, .int (nI (i + 1))), (4, .ref (o + pT w i)), (0, .ref (o + pS w)), (1, .ref (o + pT w a)), (2, .int (s_foes S w a i))]) X 4 dX1_fightingEnemies_55 rfl (nI_1 i) (by decide) rfl ?_
          refine v_goto (tgt := 4) X dX1_fightingEnemies_58 (by decide) ?_
          refine v_lo [2, 3, 4, 0] (lo' := [(0, .ref (o + pS w)), (1, .ref (o + pT w a)), (2, .int (s_foes S w a i)), (3, .int (nI (i + 1)))]) rfl ?_
          refine v_eq (S' := S) (lo' := [(0, .ref (o + pS w)), (1, .ref (o + pT w a)), (2, .int (s_foes S w a (i + 1))), (3, .int (nI (i + 1)))]) (by rfl) (by simp [s_foes, s_foe1, c_9, c_29]) ?_
          exact ih_4 (i + 1) (by omega)
        ·
          refine v_aload X 0 dX1_fightingEnemies_32 rfl ?_
          refine v_getT X (by omega) (by omega) 7 (by decide) hi_X1_fightingEnemies_X3 hl_X1_fightingEnemies_77 rfl (v := .int (S w 21 i)) rfl dX1_fightingEnemies_34 ?_
          refine v_if_eq X (tgt := 55) dX1_fightingEnemies_37 (by decide) (fun c_37 => ?_) (fun c_37 => ?_)
          ·
            refine v_iinc (v := nI (i + 1)) (lo' := [(3, .int (nI (i + 1))), (4, .ref (o + pT w i)), (0, .ref (o + pS w)), (1, .ref (o + pT w a)), (2, .int (s_foes S w a i))]) X 4 dX1_fightingEnemies_55 rfl (nI_1 i) (by decide) rfl ?_
            refine v_goto (tgt := 4) X dX1_fightingEnemies_58 (by decide) ?_
            refine v_lo [2, 3, 4, 0] (lo' := [(0, .ref (o + pS w)), (1, .ref (o + pT w a)), (2, .int (s_foes S w a i)), (3, .int (nI (i + 1)))]) rfl ?_
            refine v_eq (S' := S) (lo' := [(0, .ref (o + pS w)), (1, .ref (o + pT w a)), (2, .int (s_foes S w a (i + 1))), (3, .int (nI (i + 1)))]) (by rfl) (by simp [s_foes, s_foe1, c_9, c_29, c_37]) ?_
            exact ih_4 (i + 1) (by omega)
          ·
            refine v_aload_n X 2 dX1_fightingEnemies_40 rfl rfl ?_
            refine v_aload X 0 dX1_fightingEnemies_41 rfl ?_
            refine v_getT X (by omega) (by omega) 1 (by decide) hi_X1_fightingEnemies_X3 hl_X1_fightingEnemies_49 rfl (v := .int (S w 15 i)) rfl dX1_fightingEnemies_43 ?_
            refine v_top (y := nI (cl (S w 15 i))) (((hok).2.2 i (by omega)).1.1) ?_
            refine v_callVIf X [.int (nI (cl (S w 15 i)))] (pT w a) (pT_lt (by omega) (by omega)) (c_X3_isNear l G cI cZ cT o S w a (cl (S w 15 a)) (cl (S w 15 i)) (by omega) (by omega) (by omega) (by omega) (((hok).2.2 a (by omega)).1.1)) (zc_T cI cZ cT o _ (by omega) (by omega)) (C := RX3) (T := TX3) (N := 16) rfl 1 rfl gX1_fightingEnemies_X3_isNear rfl ⟨rfl, rfl⟩ hy_X3_isNear_V ⟨Nat.le_of_ble_eq_true rfl, Nat.le_of_ble_eq_true rfl⟩ rfl (Nat.le_of_ble_eq_true rfl) dX1_fightingEnemies_46 ?_
            refine v_if_eq X (tgt := 55) dX1_fightingEnemies_49 (by decide) (fun c_49 => ?_) (fun c_49 => ?_)
            ·
              refine v_iinc (v := nI (i + 1)) (lo' := [(3, .int (nI (i + 1))), (4, .ref (o + pT w i)), (0, .ref (o + pS w)), (1, .ref (o + pT w a)), (2, .int (s_foes S w a i))]) X 4 dX1_fightingEnemies_55 rfl (nI_1 i) (by decide) rfl ?_
              refine v_goto (tgt := 4) X dX1_fightingEnemies_58 (by decide) ?_
              refine v_lo [2, 3, 4, 0] (lo' := [(0, .ref (o + pS w)), (1, .ref (o + pT w a)), (2, .int (s_foes S w a i)), (3, .int (nI (i + 1)))]) rfl ?_
              refine v_eq (S' := S) (lo' := [(0, .ref (o + pS w)), (1, .ref (o + pT w a)), (2, .int (s_foes S w a (i + 1))), (3, .int (nI (i + 1)))]) (by rfl) (by simp [s_foes, s_foe1, c_9, c_29, c_37, c_49]) ?_
              exact ih_4 (i + 1) (by omega)
            ·
              refine v_iinc (v := s_foes S w a i + 1) (lo' := [(2, .int (s_foes S w a i + 1)), (4, .ref (o + pT w i)), (0, .ref (o + pS w)), (1, .ref (o + pT w a)), (3, .int (nI i))]) X 3 dX1_fightingEnemies_52 rfl rfl (by decide) rfl ?_
              refine v_iinc (v := nI (i + 1)) (lo' := [(3, .int (nI (i + 1))), (2, .int (s_foes S w a i + 1)), (4, .ref (o + pT w i)), (0, .ref (o + pS w)), (1, .ref (o + pT w a))]) X 4 dX1_fightingEnemies_55 rfl (nI_1 i) (by decide) rfl ?_
              refine v_goto (tgt := 4) X dX1_fightingEnemies_58 (by decide) ?_
              refine v_lo [3, 4, 1, 0] (lo' := [(0, .ref (o + pS w)), (1, .ref (o + pT w a)), (2, .int (s_foes S w a i + 1)), (3, .int (nI (i + 1)))]) rfl ?_
              refine v_eq (S' := S) (lo' := [(0, .ref (o + pS w)), (1, .ref (o + pT w a)), (2, .int (s_foes S w a (i + 1))), (3, .int (nI (i + 1)))]) (by rfl) (by simp [s_foes, s_foe1, c_9, c_29, c_37, c_49]) ?_
              exact ih_4 (i + 1) (by omega)
  refine v_lo [2, 3, 1, 0] (lo' := [(0, .ref (o + pS w)), (1, .ref (o + pT w a)), (2, .int 0), (3, .int 0)]) rfl ?_
  refine v_eq (S' := S) (lo' := [(0, .ref (o + pS w)), (1, .ref (o + pT w a)), (2, .int (s_foes S w a 0)), (3, .int (nI 0))]) (by rfl) (by rfl) ?_
  exact L_4 (n) 0 (by omega)
theorem hi_X1_fightAll_X1 : ∀ w ∈ wsX10, w ∈ wsX1_fightAll := by decide +kernel
theorem hl_X1_fightAll_24 : Cond.fieldLink RX1 24 RX1 (TX1 2).2.1 (TX1 2).2.2.1 ∈ wsX1_fightAll := by decide +kernel
theorem hl_X1_fightAll_20 : Cond.fieldLink RX1 20 RX1 (TX1 1).2.1 (TX1 1).2.2.1 ∈ wsX1_fightAll := by decide +kernel
theorem hi_X1_fightAll_X3 : ∀ w ∈ wsX30, w ∈ wsX1_fightAll := by decide +kernel
theorem hl_X1_fightAll_171 : Cond.fieldLink RX1 171 RX3 (TX3 6).2.1 (TX3 6).2.2.1 ∈ wsX1_fightAll := by decide +kernel
theorem hl_X1_fightAll_77 : Cond.fieldLink RX1 77 RX3 (TX3 7).2.1 (TX3 7).2.2.1 ∈ wsX1_fightAll := by decide +kernel
theorem hy_X1_fightingEnemies_V : yX1_fightingEnemies.cls = RX1 ∧ yX1_fightingEnemies.cls ≠ "java/lang/invoke/MethodHandle" ∧ yX1_fightingEnemies.cls ≠ "java/lang/invoke/VarHandle" ∧ (parseMethodDescriptor yX1_fightingEnemies.desc).map (fun d => d.parameters.length) = some 1 := by decide +kernel
theorem hw_X1_fightAll_166l : Cond.methodLink RX1 166 Lib.Math.min.name ∈ wsX1_fightAll := by decide +kernel
theorem hw_X1_fightAll_mmins : Cond.static Lib.Math.min.name ∈ wsX1_fightAll := by decide +kernel
theorem hw_X1_fightAll_mathi : Cond.initialized "java/lang/Math" ∈ wsX1_fightAll := by decide +kernel
theorem hw_X1_fightAll_mminc : Cond.code Lib.Math.min.name Lib.Math.min.code 2 (some .int) ∈ wsX1_fightAll := by decide +kernel
set_option maxRecDepth 100000 in
set_option maxHeartbeats 4000000 in
/-- X1_fightAll -/
theorem c_X1_fightAll (l : Launch) (G : va_G) (cI cZ cT : ClassId) (o : Nat) (S : zS) (w n : Nat) (hw : w < 2) (hok : z_ok S w n) : zU l G cI cZ cT o yX1_fightAll wsX1_fightAll { frames := 4, cells := 0, slots := 0, locals := 87 } [.ref (o + pS w)] S (fun u => u = s_fight S w n) := by
  refine z_ofV (cc := cX1_fightAll) (maxL := 2) (by decide) rfl (by simp [lg_sl, Value.category]) ?_
  intro p9 e9 s9 m9 a9 b9 h9 c9 X
  refine v_lo [0] (lo' := [(0, .ref (o + pS w))]) rfl ?_
  have hn8 := hok.2.1
  refine v_iconst (v := 0) X (by decide) dX1_fightAll_0 ?_
  refine v_istore_n (lo' := [(1, .int 0), (0, .ref (o + pS w))]) X dX1_fightAll_1 rfl (by decide) rfl ?_
  have L_2 : ∀ (d i : Nat), i + d = n → z_V p9 l e9 (headSpec wsX1_fightAll { frames := 4, cells := 0, slots := 0, locals := 87 }).room s9 m9 a9 b9 h9 c9 (MQ b9 (va_Qv (fun u => u = s_fight S w n) (z_B G cI cZ cT o) (z_A o s9.heap.size)) a9 s9 0 0 (z_A o s9.heap.size)) G cI cZ cT o 2 (s_loss S w n i) 2 [(0, .ref (o + pS w)), (1, .int (nI i))] [] := by
    intro d
    induction d with
    | zero =>
      intro i hi_2
      have he_2 : i = n := by omega
      rw [he_2]
      refine v_iload_n X 1 dX1_fightAll_2 rfl rfl ?_
      refine v_aload_n X 0 dX1_fightAll_3 rfl rfl ?_
      refine v_getS X (by omega) 2 (by decide) hi_X1_fightAll_X1 hl_X1_fightAll_24 rfl (v := .int ((s_loss S w n n) w 12 0)) rfl dX1_fightAll_4 ?_
      refine v_top (y := nI n) ((ok_loss hok n).1) ?_
      refine v_ncmp_ge X n n rfl rfl (by omega) (by omega) (tgt := 51) dX1_fightAll_7 (by decide) (fun c_7 => ?_) (fun c_7 => ?_)
      ·
        refine v_iconst (v := 0) X (by decide) dX1_fightAll_51 ?_
        refine v_istore_n (lo' := [(1, .int 0), (0, .ref (o + pS w))]) X dX1_fightAll_52 rfl (by decide) rfl ?_
        have L_53 : ∀ (d i : Nat), i + d = n → z_V p9 l e9 (headSpec wsX1_fightAll { frames := 4, cells := 0, slots := 0, locals := 87 }).room s9 m9 a9 b9 h9 c9 (MQ b9 (va_Qv (fun u => u = s_fight S w n) (z_B G cI cZ cT o) (z_A o s9.heap.size)) a9 s9 0 0 (z_A o s9.heap.size)) G cI cZ cT o 2 (s_hurt (s_loss S w n n) w i) 53 [(0, .ref (o + pS w)), (1, .int (nI i))] [] := by
          intro d
          induction d with
          | zero =>
            intro i hi_53
            have he_53 : i = n := by omega
            rw [he_53]
            refine v_iload_n X 1 dX1_fightAll_53 rfl rfl ?_
            refine v_aload_n X 0 dX1_fightAll_54 rfl rfl ?_
            refine v_getS X (by omega) 2 (by decide) hi_X1_fightAll_X1 hl_X1_fightAll_24 rfl (v := .int ((s_hurt (s_loss S w n n) w n) w 12 0)) rfl dX1_fightAll_55 ?_
            refine v_top (y := nI n) ((ok_hurt (ok_loss hok n) n).1) ?_
            refine v_ncmp_ge X n n rfl rfl (by omega) (by omega) (tgt := 85) dX1_fightAll_58 (by decide) (fun c_58 => ?_) (fun c_58 => ?_)
            ·
              exact v_vret X dX1_fightAll_85 (by rfl)
            ·
              exact absurd c_58 (by omega)
          | succ d ih_53 =>
            intro i hi_53
            refine v_iload_n X 1 dX1_fightAll_53 rfl rfl ?_
            refine v_aload_n X 0 dX1_fightAll_54 rfl rfl ?_
            refine v_getS X (by omega) 2 (by decide) hi_X1_fightAll_X1 hl_X1_fightAll_24 rfl (v := .int ((s_hurt (s_loss S w n n) w i) w 12 0)) rfl dX1_fightAll_55 ?_
            refine v_top (y := nI n) ((ok_hurt (ok_loss hok n) i).1) ?_
            refine v_ncmp_ge X i n rfl rfl (by omega) (by omega) (tgt := 85) dX1_fightAll_58 (by decide) (fun c_58 => ?_) (fun c_58 => ?_)
            ·
              exact absurd c_58 (by omega)
            ·
              refine v_aload_n X 0 dX1_fightAll_61 rfl rfl ?_
              refine v_getS X (by omega) 1 (by decide) hi_X1_fightAll_X1 hl_X1_fightAll_20 rfl (v := .ref (o + pL w)) rfl dX1_fightAll_62 ?_
              refine v_iload_n X 1 dX1_fightAll_65 rfl rfl ?_
              refine v_aald X (w := w) (by omega) i rfl (by omega) dX1_fightAll_66 ?_
              refine v_aload_n X 0 dX1_fightAll_67 rfl rfl ?_
              refine v_getS X (by omega) 1 (by decide) hi_X1_fightAll_X1 hl_X1_fightAll_20 rfl (v := .ref (o + pL w)) rfl dX1_fightAll_68 ?_
              refine v_iload_n X 1 dX1_fightAll_71 rfl rfl ?_
              refine v_aald X (w := w) (by omega) i rfl (by omega) dX1_fightAll_72 ?_
              refine v_getT X (by omega) (by omega) 6 (by decide) hi_X1_fightAll_X3 hl_X1_fightAll_171 rfl (v := .int ((s_hurt (s_loss S w n n) w i) w 20 i)) rfl dX1_fightAll_73 ?_
              refine v_callVUf X [.int ((s_hurt (s_loss S w n n) w i) w 20 i)] (pT w i) (pT_lt (by omega) (by omega)) (c_X3_loseHealth l G cI cZ cT o (s_hurt (s_loss S w n n) w i) w i ((s_hurt (s_loss S w n n) w i) w 20 i) (by omega) (by omega)) (zc_T cI cZ cT o _ (by omega) (by omega)) (C := RX3) (T := TX3) (N := 16) rfl 1 rfl gX1_fightAll_X3_loseHealth rfl ⟨rfl, rfl⟩ hy_X3_loseHealth_V ⟨Nat.le_of_ble_eq_true rfl, Nat.le_of_ble_eq_true rfl⟩ rfl (Nat.le_of_ble_eq_true rfl) dX1_fightAll_76 ?_
              refine v_iinc (v := nI (i + 1)) (lo' := [(1, .int (nI (i + 1))), (0, .ref (o + pS w))]) X 1 dX1_fightAll_79 rfl (nI_1 i) (by decide) rfl ?_
              refine v_goto (tgt := 53) X dX1_fightAll_82 (by decide) ?_
              refine v_lo [1, 0] (lo' := [(0, .ref (o + pS w)), (1, .int (nI (i + 1)))]) rfl ?_
              refine v_eq (S' := s_hurt (s_loss S w n n) w (i + 1)) (lo' := [(0, .ref (o + pS w)), (1, .int (nI (i + 1)))]) (by rfl) (by rfl) ?_
              exact ih_53 (i + 1) (by omega)
        refine v_lo [1, 0] (lo' := [(0, .ref (o + pS w)), (1, .int 0)]) rfl ?_
        refine v_eq (S' := s_hurt (s_loss S w n n) w 0) (lo' := [(0, .ref (o + pS w)), (1, .int (nI 0))]) (by rfl) (by rfl) ?_
        exact L_53 (n) 0 (by omega)
      ·
        exact absurd c_7 (by omega)
    | succ d ih_2 =>
      intro i hi_2
      refine v_iload_n X 1 dX1_fightAll_2 rfl rfl ?_
      refine v_aload_n X 0 dX1_fightAll_3 rfl rfl ?_
      refine v_getS X (by omega) 2 (by decide) hi_X1_fightAll_X1 hl_X1_fightAll_24 rfl (v := .int ((s_loss S w n i) w 12 0)) rfl dX1_fightAll_4 ?_
      refine v_top (y := nI n) ((ok_loss hok i).1) ?_
      refine v_ncmp_ge X i n rfl rfl (by omega) (by omega) (tgt := 51) dX1_fightAll_7 (by decide) (fun c_7 => ?_) (fun c_7 => ?_)
      ·
        exact absurd c_7 (by omega)
      ·
        refine v_aload_n X 0 dX1_fightAll_10 rfl rfl ?_
        refine v_getS X (by omega) 1 (by decide) hi_X1_fightAll_X1 hl_X1_fightAll_20 rfl (v := .ref (o + pL w)) rfl dX1_fightAll_11 ?_
        refine v_iload_n X 1 dX1_fightAll_14 rfl rfl ?_
        refine v_aald X (w := w) (by omega) i rfl (by omega) dX1_fightAll_15 ?_
        refine v_getT X (by omega) (by omega) 7 (by decide) hi_X1_fightAll_X3 hl_X1_fightAll_77 rfl (v := .int ((s_loss S w n i) w 21 i)) rfl dX1_fightAll_16 ?_
        refine v_if_eq X (tgt := 45) dX1_fightAll_19 (by decide) (fun c_19 => ?_) (fun c_19 => ?_)
        ·
          refine v_iinc (v := nI (i + 1)) (lo' := [(1, .int (nI (i + 1))), (0, .ref (o + pS w))]) X 1 dX1_fightAll_45 rfl (nI_1 i) (by decide) rfl ?_
          refine v_goto (tgt := 2) X dX1_fightAll_48 (by decide) ?_
          refine v_lo [1, 0] (lo' := [(0, .ref (o + pS w)), (1, .int (nI (i + 1)))]) rfl ?_
          refine v_eq (S' := s_loss S w n (i + 1)) (lo' := [(0, .ref (o + pS w)), (1, .int (nI (i + 1)))]) (by simp [s_loss, s_loss1, c_7, c_19]) (by rfl) ?_
          exact ih_2 (i + 1) (by omega)
        ·
          refine v_aload_n X 0 dX1_fightAll_22 rfl rfl ?_
          refine v_getS X (by omega) 1 (by decide) hi_X1_fightAll_X1 hl_X1_fightAll_20 rfl (v := .ref (o + pL w)) rfl dX1_fightAll_23 ?_
          refine v_iload_n X 1 dX1_fightAll_26 rfl rfl ?_
          refine v_aald X (w := w) (by omega) i rfl (by omega) dX1_fightAll_27 ?_
          refine v_iconst (v := 3) X (by decide) dX1_fightAll_28 ?_
          refine v_aload_n X 0 dX1_fightAll_29 rfl rfl ?_
          refine v_aload_n X 0 dX1_fightAll_30 rfl rfl ?_
          refine v_getS X (by omega) 1 (by decide) hi_X1_fightAll_X1 hl_X1_fightAll_20 rfl (v := .ref (o + pL w)) rfl dX1_fightAll_31 ?_
          refine v_iload_n X 1 dX1_fightAll_34 rfl rfl ?_
          refine v_aald X (w := w) (by omega) i rfl (by omega) dX1_fightAll_35 ?_
          refine v_callVIf X [.ref (o + pT w i)] (pS w) (pS_lt (by omega)) (c_X1_fightingEnemies l G cI cZ cT o (s_loss S w n i) w n i (by omega) (by omega) (ok_loss hok i)) (zc_S cI cZ cT o _ (by omega)) (C := RX1) (T := TX1) (N := 4) rfl 1 rfl gX1_fightAll_X1_fightingEnemies rfl ⟨rfl, rfl⟩ hy_X1_fightingEnemies_V ⟨Nat.le_of_ble_eq_true rfl, Nat.le_of_ble_eq_true rfl⟩ rfl (Nat.le_of_ble_eq_true rfl) dX1_fightAll_36 ?_
          refine v_mmin X hw_X1_fightAll_166l hw_X1_fightAll_mmins hw_X1_fightAll_mathi hw_X1_fightAll_mminc (Nat.le_of_ble_eq_true rfl) (Nat.le_of_ble_eq_true rfl) dX1_fightAll_39 ?_
          refine v_top (y := z_min3 (s_foes (s_loss S w n i) w i n)) (rfl) ?_
          refine v_putT6 X (by omega) (by omega) hi_X1_fightAll_X3 hl_X1_fightAll_171 dX1_fightAll_42 ?_
          refine v_iinc (v := nI (i + 1)) (lo' := [(1, .int (nI (i + 1))), (0, .ref (o + pS w))]) X 1 dX1_fightAll_45 rfl (nI_1 i) (by decide) rfl ?_
          refine v_goto (tgt := 2) X dX1_fightAll_48 (by decide) ?_
          refine v_lo [1, 0] (lo' := [(0, .ref (o + pS w)), (1, .int (nI (i + 1)))]) rfl ?_
          refine v_eq (S' := s_loss S w n (i + 1)) (lo' := [(0, .ref (o + pS w)), (1, .int (nI (i + 1)))]) (by simp [s_loss, s_loss1, c_7, c_19]) (by rfl) ?_
          exact ih_2 (i + 1) (by omega)
  refine v_lo [1, 0] (lo' := [(0, .ref (o + pS w)), (1, .int 0)]) rfl ?_
  refine v_eq (S' := s_loss S w n 0) (lo' := [(0, .ref (o + pS w)), (1, .int (nI 0))]) (by rfl) (by rfl) ?_
  exact L_2 (n) 0 (by omega)
theorem hw_X1_directionTo_187l : Cond.methodLink RX1 187 Lib.Math.abs.name ∈ wsX1_directionTo := by decide +kernel
theorem hw_X1_directionTo_mabss : Cond.static Lib.Math.abs.name ∈ wsX1_directionTo := by decide +kernel
theorem hw_X1_directionTo_mathi : Cond.initialized "java/lang/Math" ∈ wsX1_directionTo := by decide +kernel
theorem hw_X1_directionTo_mabsc : Cond.code Lib.Math.abs.name Lib.Math.abs.code 1 (some .int) ∈ wsX1_directionTo := by decide +kernel
set_option maxRecDepth 100000 in
set_option maxHeartbeats 4000000 in
/-- X1_directionTo -/
theorem c_X1_directionTo (l : Launch) (G : va_G) (cI cZ cT : ClassId) (o : Nat) (S : zS) (a b : Nat) (ha : a < 144) (hb : b < 144) : zI l G cI cZ cT o yX1_directionTo wsX1_directionTo { frames := 1, cells := 0, slots := 0, locals := 21 } [.int (nI a), .int (nI b)] S (fun r u => r = z_dirTo a b ∧ u = S) := by
  refine z_ofI (cc := cX1_directionTo) (maxL := 4) (by decide) rfl (by simp [lg_sl, Value.category]) ?_
  intro p9 e9 s9 m9 a9 b9 h9 c9 X
  refine v_lo [0, 1] (lo' := [(0, .int (nI a)), (1, .int (nI b))]) rfl ?_
  refine v_iload_n X 1 dX1_directionTo_0 rfl rfl ?_
  refine v_bipush (v := 12) X (by decide) dX1_directionTo_1 ?_
  refine v_irem X (by decide) dX1_directionTo_3 ?_
  refine v_top (y := nI (b % 12)) (pk_rem (a := b) (d := 12) (by omega) (by omega) (by omega)) ?_
  refine v_iload_n X 0 dX1_directionTo_4 rfl rfl ?_
  refine v_bipush (v := 12) X (by decide) dX1_directionTo_5 ?_
  refine v_irem X (by decide) dX1_directionTo_7 ?_
  refine v_top (y := nI (a % 12)) (pk_rem (a := a) (d := 12) (by omega) (by omega) (by omega)) ?_
  refine v_isub X dX1_directionTo_8 ?_
  refine v_istore_n (lo' := [(2, .int ((nI (b % 12)) - (nI (a % 12)))), (0, .int (nI a)), (1, .int (nI b))]) X dX1_directionTo_9 rfl (by decide) rfl ?_
  refine v_iload_n X 2 dX1_directionTo_10 rfl rfl ?_
  refine v_bipush (v := 12) X (by decide) dX1_directionTo_11 ?_
  refine v_idiv X (by decide) dX1_directionTo_13 ?_
  refine v_top (y := nI (b / 12)) (pk_div (a := b) (d := 12) (by omega) (by omega) (by omega)) ?_
  refine v_iload_n X 1 dX1_directionTo_14 rfl rfl ?_
  refine v_bipush (v := 12) X (by decide) dX1_directionTo_15 ?_
  refine v_idiv X (by decide) dX1_directionTo_17 ?_
  refine v_top (y := nI (a / 12)) (pk_div (a := a) (d := 12) (by omega) (by omega) (by omega)) ?_
  refine v_isub X dX1_directionTo_18 ?_
  refine v_istore_n (lo' := [(3, .int ((nI (b / 12)) - (nI (a / 12)))), (2, .int ((nI (b % 12)) - (nI (a % 12)))), (0, .int (nI a)), (1, .int (nI b))]) X dX1_directionTo_19 rfl (by decide) rfl ?_
  refine v_iload_n X 0 dX1_directionTo_20 rfl rfl ?_
  refine v_mabs X hw_X1_directionTo_187l hw_X1_directionTo_mabss hw_X1_directionTo_mathi hw_X1_directionTo_mabsc (Nat.le_of_ble_eq_true rfl) (Nat.le_of_ble_eq_true rfl) dX1_directionTo_21 ?_
  refine v_top (y := z_abs ((nI (b / 12)) - (nI (a / 12)))) (rfl) ?_
  refine v_iload_n X 1 dX1_directionTo_24 rfl rfl ?_
  refine v_mabs X hw_X1_directionTo_187l hw_X1_directionTo_mabss hw_X1_directionTo_mathi hw_X1_directionTo_mabsc (Nat.le_of_ble_eq_true rfl) (Nat.le_of_ble_eq_true rfl) dX1_directionTo_25 ?_
  refine v_top (y := z_abs ((nI (b % 12)) - (nI (a % 12)))) (rfl) ?_
  refine v_icmp_lt X (tgt := 41) dX1_directionTo_28 (by decide) (fun c_28 => ?_) (fun c_28 => ?_)
  ·
    refine v_iload_n X 1 dX1_directionTo_41 rfl rfl ?_
    refine v_if_le X (tgt := 49) dX1_directionTo_42 (by decide) (fun c_42 => ?_) (fun c_42 => ?_)
    ·
      refine v_iconst (v := 3) X (by decide) dX1_directionTo_49 ?_
      exact v_iret X dX1_directionTo_50 (by simp [z_dirTo, c_28, c_42])
    ·
      refine v_iconst (v := 1) X (by decide) dX1_directionTo_45 ?_
      refine v_goto (tgt := 50) X dX1_directionTo_46 (by decide) ?_
      exact v_iret X dX1_directionTo_50 (by simp [z_dirTo, c_28, c_42])
  ·
    refine v_iload_n X 0 dX1_directionTo_31 rfl rfl ?_
    refine v_if_le X (tgt := 39) dX1_directionTo_32 (by decide) (fun c_32 => ?_) (fun c_32 => ?_)
    ·
      refine v_iconst (v := 0) X (by decide) dX1_directionTo_39 ?_
      exact v_iret X dX1_directionTo_40 (by simp [z_dirTo, c_28, c_32])
    ·
      refine v_iconst (v := 2) X (by decide) dX1_directionTo_35 ?_
      refine v_goto (tgt := 40) X dX1_directionTo_36 (by decide) ?_
      exact v_iret X dX1_directionTo_40 (by simp [z_dirTo, c_28, c_32])
theorem hi_X1_listen_X1 : ∀ w ∈ wsX10, w ∈ wsX1_listen := by decide +kernel
theorem hl_X1_listen_24 : Cond.fieldLink RX1 24 RX1 (TX1 2).2.1 (TX1 2).2.2.1 ∈ wsX1_listen := by decide +kernel
theorem hl_X1_listen_28 : Cond.fieldLink RX1 28 RX1 (TX1 3).2.1 (TX1 3).2.2.1 ∈ wsX1_listen := by decide +kernel
theorem hi_X1_listen_X3 : ∀ w ∈ wsX30, w ∈ wsX1_listen := by decide +kernel
theorem hl_X1_listen_49 : Cond.fieldLink RX1 49 RX3 (TX3 1).2.1 (TX3 1).2.2.1 ∈ wsX1_listen := by decide +kernel
theorem hy_X1_directionTo_S : yX1_directionTo.cls ≠ "java/lang/invoke/MethodHandle" ∧ yX1_directionTo.cls ≠ "java/lang/invoke/VarHandle" ∧ (parseMethodDescriptor yX1_directionTo.desc).map (fun d => d.parameters.length) = some 2 := by decide +kernel
theorem hy_X3_remember_V : yX3_remember.cls = RX3 ∧ yX3_remember.cls ≠ "java/lang/invoke/MethodHandle" ∧ yX3_remember.cls ≠ "java/lang/invoke/VarHandle" ∧ (parseMethodDescriptor yX3_remember.desc).map (fun d => d.parameters.length) = some 3 := by decide +kernel
theorem hl_X1_listen_20 : Cond.fieldLink RX1 20 RX1 (TX1 1).2.1 (TX1 1).2.2.1 ∈ wsX1_listen := by decide +kernel
theorem hl_X1_listen_81 : Cond.fieldLink RX1 81 RX3 (TX3 5).2.1 (TX3 5).2.2.1 ∈ wsX1_listen := by decide +kernel
theorem hw_X1_listen_st_X5_distance : Cond.static yX5_distance ∈ wsX1_listen := by decide +kernel
theorem hw_X1_listen_in_X5 : Cond.initialized yX5_distance.cls ∈ wsX1_listen := by decide +kernel
theorem hn_X1_177 : Cond.methodLinkNest RX1 177 yX5_distance RX5 ∈ z_nest := by simp [z_nest]
theorem hl_X1_listen_39 : Cond.fieldLink RX1 39 RX3 (TX3 0).2.1 (TX3 0).2.2.1 ∈ wsX1_listen := by decide +kernel
set_option maxRecDepth 100000 in
set_option maxHeartbeats 4000000 in
/-- X1_listen -/
theorem c_X1_listen (l : Launch) (G : va_G) (cI cZ cT : ClassId) (o : Nat) (S : zS) (w n a : Nat) (hw : w < 2) (ha : a < 8) (hok : z_ok S w n) : zU l G cI cZ cT o yX1_listen wsX1_listen { frames := 2, cells := 0, slots := 0, locals := 44 } [.ref (o + pS w), .ref (o + pT w a)] S (fun u => u = s_listen S w a n) := by
  refine z_ofV (cc := cX1_listen) (maxL := 7) (by decide) rfl (by simp [lg_sl, Value.category]) ?_
  intro p9 e9 s9 m9 a9 b9 h9 c9 X
  refine v_lo [0, 1] (lo' := [(0, .ref (o + pS w)), (1, .ref (o + pT w a))]) rfl ?_
  have hn8 := hok.2.1
  have hca := ((hok).2.2 a (by omega)).1.2
  refine v_iconst (v := 0) X (by decide) dX1_listen_0 ?_
  refine v_istore_n (lo' := [(2, .int 0), (0, .ref (o + pS w)), (1, .ref (o + pT w a))]) X dX1_listen_1 rfl (by decide) rfl ?_
  refine v_iconst (v := -1) X (by decide) dX1_listen_2 ?_
  refine v_istore_n (lo' := [(3, .int (-1)), (2, .int 0), (0, .ref (o + pS w)), (1, .ref (o + pT w a))]) X dX1_listen_3 rfl (by decide) rfl ?_
  refine v_iconst (v := 0) X (by decide) dX1_listen_4 ?_
  refine v_istore (lo' := [(4, .int 0), (3, .int (-1)), (2, .int 0), (0, .ref (o + pS w)), (1, .ref (o + pT w a))]) X dX1_listen_5 (by decide) rfl ?_
  have L_7 : ∀ (d i : Nat), i + d = n → z_V p9 l e9 (headSpec wsX1_listen { frames := 2, cells := 0, slots := 0, locals := 44 }).room s9 m9 a9 b9 h9 c9 (MQ b9 (va_Qv (fun u => u = s_listen S w a n) (z_B G cI cZ cT o) (z_A o s9.heap.size)) a9 s9 0 0 (z_A o s9.heap.size)) G cI cZ cT o 7 (S) 7 [(0, .ref (o + pS w)), (1, .ref (o + pT w a)), (2, .int ((s_lisN S w a i).1)), (3, .int ((s_lisN S w a i).2)), (4, .int (nI i))] [] := by
    intro d
    induction d with
    | zero =>
      intro i hi_7
      have he_7 : i = n := by omega
      rw [he_7]
      refine v_iload X 4 dX1_listen_7 rfl ?_
      refine v_aload_n X 0 dX1_listen_9 rfl rfl ?_
      refine v_getS X (by omega) 2 (by decide) hi_X1_listen_X1 hl_X1_listen_24 rfl (v := .int (S w 12 0)) rfl dX1_listen_10 ?_
      refine v_top (y := nI n) ((hok).1) ?_
      refine v_ncmp_ge X n n rfl rfl (by omega) (by omega) (tgt := 90) dX1_listen_13 (by decide) (fun c_13 => ?_) (fun c_13 => ?_)
      ·
        refine v_iload_n X 3 dX1_listen_90 rfl rfl ?_
        refine v_if_lt X (tgt := 111) dX1_listen_91 (by decide) (fun c_91 => ?_) (fun c_91 => ?_)
        ·
          exact v_vret X dX1_listen_111 (by simp [s_listen, c_13, c_91])
        ·
          have hf9 : inr (s_lisN S w a n).2 144 := (s_lisN_in hok n (Nat.le_refl n)).resolve_left (fun q => c_91 (by rw [q]; decide))
          have hf8 := hf9.2
          refine v_aload_n X 1 dX1_listen_94 rfl rfl ?_
          refine v_aload_n X 0 dX1_listen_95 rfl rfl ?_
          refine v_getS X (by omega) 3 (by decide) hi_X1_listen_X1 hl_X1_listen_28 rfl (v := .int (S w 13 0)) rfl dX1_listen_96 ?_
          refine v_aload_n X 1 dX1_listen_99 rfl rfl ?_
          refine v_getT X (by omega) (by omega) 1 (by decide) hi_X1_listen_X3 hl_X1_listen_49 rfl (v := .int (S w 15 a)) rfl dX1_listen_100 ?_
          refine v_top (y := nI (cl (S w 15 a))) (((hok).2.2 a (by omega)).1.1) ?_
          refine v_iload_n X 3 dX1_listen_103 rfl rfl ?_
          refine v_top (y := nI (cl (s_lisN S w a n).2)) (hf9.1) ?_
          refine v_callSIf X [.int (nI (cl (S w 15 a))), .int (nI (cl (s_lisN S w a n).2))] (c_X1_directionTo l G cI cZ cT o S (cl (S w 15 a)) (cl (s_lisN S w a n).2) (by omega) (by omega)) 2 rfl gX1_listen_X1_directionTo rfl ⟨rfl, rfl⟩ hy_X1_directionTo_S ⟨Nat.le_of_ble_eq_true rfl, Nat.le_of_ble_eq_true rfl⟩ rfl (Nat.le_of_ble_eq_true rfl) dX1_listen_104 ?_
          refine v_iload_n X 2 dX1_listen_107 rfl rfl ?_
          refine v_callVUf X [.int (S w 13 0), .int (z_dirTo (cl (S w 15 a)) (cl (s_lisN S w a n).2)), .int ((s_lisN S w a n).1)] (pT w a) (pT_lt (by omega) (by omega)) (c_X3_remember l G cI cZ cT o S w a (S w 13 0) (z_dirTo (cl (S w 15 a)) (cl (s_lisN S w a n).2)) ((s_lisN S w a n).1) (by omega) (by omega)) (zc_T cI cZ cT o _ (by omega) (by omega)) (C := RX3) (T := TX3) (N := 16) rfl 3 rfl gX1_listen_X3_remember rfl ⟨rfl, rfl⟩ hy_X3_remember_V ⟨Nat.le_of_ble_eq_true rfl, Nat.le_of_ble_eq_true rfl⟩ rfl (Nat.le_of_ble_eq_true rfl) dX1_listen_108 ?_
          exact v_vret X dX1_listen_111 (by simp [s_listen, c_13, c_91])
      ·
        exact absurd c_13 (by omega)
    | succ d ih_7 =>
      intro i hi_7
      have hci := ((hok).2.2 i (by omega)).1.2
      refine v_iload X 4 dX1_listen_7 rfl ?_
      refine v_aload_n X 0 dX1_listen_9 rfl rfl ?_
      refine v_getS X (by omega) 2 (by decide) hi_X1_listen_X1 hl_X1_listen_24 rfl (v := .int (S w 12 0)) rfl dX1_listen_10 ?_
      refine v_top (y := nI n) ((hok).1) ?_
      refine v_ncmp_ge X i n rfl rfl (by omega) (by omega) (tgt := 90) dX1_listen_13 (by decide) (fun c_13 => ?_) (fun c_13 => ?_)
      ·
        exact absurd c_13 (by omega)
      ·
        refine v_aload_n X 0 dX1_listen_16 rfl rfl ?_
        refine v_getS X (by omega) 1 (by decide) hi_X1_listen_X1 hl_X1_listen_20 rfl (v := .ref (o + pL w)) rfl dX1_listen_17 ?_
        refine v_iload X 4 dX1_listen_20 rfl ?_
        refine v_aald X (w := w) (by omega) i rfl (by omega) dX1_listen_22 ?_
        refine v_astore (lo' := [(5, .ref (o + pT w i)), (0, .ref (o + pS w)), (1, .ref (o + pT w a)), (2, .int ((s_lisN S w a i).1)), (3, .int ((s_lisN S w a i).2)), (4, .int (nI i))]) X dX1_listen_23 (by decide) rfl ?_
        refine v_iconst (v := 2) X (by decide) dX1_listen_25 ?_
        refine v_aload X 0 dX1_listen_26 rfl ?_
        refine v_getT X (by omega) (by omega) 5 (by decide) hi_X1_listen_X3 hl_X1_listen_81 rfl (v := .int (S w 19 i)) rfl dX1_listen_28 ?_
        refine v_imul X dX1_listen_31 ?_
        refine v_iconst (v := 3) X (by decide) dX1_listen_32 ?_
        refine v_iadd X dX1_listen_33 ?_
        refine v_aload_n X 2 dX1_listen_34 rfl rfl ?_
        refine v_getT X (by omega) (by omega) 1 (by decide) hi_X1_listen_X3 hl_X1_listen_49 rfl (v := .int (S w 15 a)) rfl dX1_listen_35 ?_
        refine v_top (y := nI (cl (S w 15 a))) (((hok).2.2 a (by omega)).1.1) ?_
        refine v_aload X 0 dX1_listen_38 rfl ?_
        refine v_getT X (by omega) (by omega) 1 (by decide) hi_X1_listen_X3 hl_X1_listen_49 rfl (v := .int (S w 15 i)) rfl dX1_listen_40 ?_
        refine v_top (y := nI (cl (S w 15 i))) (((hok).2.2 i (by omega)).1.1) ?_
        refine v_callNIf X [.int (nI (cl (S w 15 a))), .int (nI (cl (S w 15 i)))] (c_X5_distance l G cI cZ cT o S (cl (S w 15 a)) (cl (S w 15 i)) (by omega) (by omega)) 2 rfl hn_X1_177 gX1_listen_X5_distance_n177 hw_X1_listen_st_X5_distance hw_X1_listen_in_X5 rfl ⟨rfl, rfl⟩ hy_X5_distance_N ⟨Nat.le_of_ble_eq_true rfl, Nat.le_of_ble_eq_true rfl⟩ rfl (Nat.le_of_ble_eq_true rfl) dX1_listen_43 ?_
        refine v_isub X dX1_listen_46 ?_
        refine v_top (y := s_loud S w a i) (rfl) ?_
        refine v_istore (lo' := [(6, .int (s_loud S w a i)), (5, .ref (o + pT w i)), (0, .ref (o + pS w)), (1, .ref (o + pT w a)), (2, .int ((s_lisN S w a i).1)), (3, .int ((s_lisN S w a i).2)), (4, .int (nI i))]) X dX1_listen_47 (by decide) rfl ?_
        refine v_aload X 1 dX1_listen_49 rfl ?_
        refine v_getT X (by omega) (by omega) 0 (by decide) hi_X1_listen_X3 hl_X1_listen_39 rfl (v := .int (S w 14 i)) rfl dX1_listen_51 ?_
        refine v_aload_n X 3 dX1_listen_54 rfl rfl ?_
        refine v_getT X (by omega) (by omega) 0 (by decide) hi_X1_listen_X3 hl_X1_listen_39 rfl (v := .int (S w 14 a)) rfl dX1_listen_55 ?_
        refine v_icmp_eq X (tgt := 84) dX1_listen_58 (by decide) (fun c_58 => ?_) (fun c_58 => ?_)
        ·
          refine v_iinc (v := nI (i + 1)) (lo' := [(4, .int (nI (i + 1))), (6, .int (s_loud S w a i)), (5, .ref (o + pT w i)), (0, .ref (o + pS w)), (1, .ref (o + pT w a)), (2, .int ((s_lisN S w a i).1)), (3, .int ((s_lisN S w a i).2))]) X 6 dX1_listen_84 rfl (nI_1 i) (by decide) rfl ?_
          refine v_goto (tgt := 7) X dX1_listen_87 (by decide) ?_
          refine v_lo [3, 4, 5, 6, 0] (lo' := [(0, .ref (o + pS w)), (1, .ref (o + pT w a)), (2, .int ((s_lisN S w a i).1)), (3, .int ((s_lisN S w a i).2)), (4, .int (nI (i + 1)))]) rfl ?_
          refine v_eq (S' := S) (lo' := [(0, .ref (o + pS w)), (1, .ref (o + pT w a)), (2, .int ((s_lisN S w a (i + 1)).1)), (3, .int ((s_lisN S w a (i + 1)).2)), (4, .int (nI (i + 1)))]) (by rfl) (by simp [s_lisN, s_lis1, c_13, c_58]) ?_
          exact ih_7 (i + 1) (by omega)
        ·
          refine v_aload X 1 dX1_listen_61 rfl ?_
          refine v_getT X (by omega) (by omega) 5 (by decide) hi_X1_listen_X3 hl_X1_listen_81 rfl (v := .int (S w 19 i)) rfl dX1_listen_63 ?_
          refine v_if_le X (tgt := 84) dX1_listen_66 (by decide) (fun c_66 => ?_) (fun c_66 => ?_)
          ·
            refine v_iinc (v := nI (i + 1)) (lo' := [(4, .int (nI (i + 1))), (6, .int (s_loud S w a i)), (5, .ref (o + pT w i)), (0, .ref (o + pS w)), (1, .ref (o + pT w a)), (2, .int ((s_lisN S w a i).1)), (3, .int ((s_lisN S w a i).2))]) X 6 dX1_listen_84 rfl (nI_1 i) (by decide) rfl ?_
            refine v_goto (tgt := 7) X dX1_listen_87 (by decide) ?_
            refine v_lo [3, 4, 5, 6, 0] (lo' := [(0, .ref (o + pS w)), (1, .ref (o + pT w a)), (2, .int ((s_lisN S w a i).1)), (3, .int ((s_lisN S w a i).2)), (4, .int (nI (i + 1)))]) rfl ?_
            refine v_eq (S' := S) (lo' := [(0, .ref (o + pS w)), (1, .ref (o + pT w a)), (2, .int ((s_lisN S w a (i + 1)).1)), (3, .int ((s_lisN S w a (i + 1)).2)), (4, .int (nI (i + 1)))]) (by rfl) (by simp [s_lisN, s_lis1, c_13, c_58, c_66]) ?_
            exact ih_7 (i + 1) (by omega)
          ·
            refine v_iload X 0 dX1_listen_69 rfl ?_
            refine v_iload_n X 4 dX1_listen_71 rfl rfl ?_
            refine v_icmp_le X (tgt := 84) dX1_listen_72 (by decide) (fun c_72 => ?_) (fun c_72 => ?_)
            ·
              refine v_iinc (v := nI (i + 1)) (lo' := [(4, .int (nI (i + 1))), (6, .int (s_loud S w a i)), (5, .ref (o + pT w i)), (0, .ref (o + pS w)), (1, .ref (o + pT w a)), (2, .int ((s_lisN S w a i).1)), (3, .int ((s_lisN S w a i).2))]) X 6 dX1_listen_84 rfl (nI_1 i) (by decide) rfl ?_
              refine v_goto (tgt := 7) X dX1_listen_87 (by decide) ?_
              refine v_lo [3, 4, 5, 6, 0] (lo' := [(0, .ref (o + pS w)), (1, .ref (o + pT w a)), (2, .int ((s_lisN S w a i).1)), (3, .int ((s_lisN S w a i).2)), (4, .int (nI (i + 1)))]) rfl ?_
              refine v_eq (S' := S) (lo' := [(0, .ref (o + pS w)), (1, .ref (o + pT w a)), (2, .int ((s_lisN S w a (i + 1)).1)), (3, .int ((s_lisN S w a (i + 1)).2)), (4, .int (nI (i + 1)))]) (by rfl) (by simp [s_lisN, s_lis1, c_13, c_58, c_66, c_72]) ?_
              exact ih_7 (i + 1) (by omega)
            ·
              refine v_iload X 0 dX1_listen_75 rfl ?_
              refine v_istore_n (lo' := [(2, .int (s_loud S w a i)), (6, .int (s_loud S w a i)), (5, .ref (o + pT w i)), (0, .ref (o + pS w)), (1, .ref (o + pT w a)), (3, .int ((s_lisN S w a i).2)), (4, .int (nI i))]) X dX1_listen_77 rfl (by decide) rfl ?_
              refine v_aload X 2 dX1_listen_78 rfl ?_
              refine v_getT X (by omega) (by omega) 1 (by decide) hi_X1_listen_X3 hl_X1_listen_49 rfl (v := .int (S w 15 i)) rfl dX1_listen_80 ?_
              refine v_top (y := nI (cl (S w 15 i))) (((hok).2.2 i (by omega)).1.1) ?_
              refine v_istore_n (lo' := [(3, .int (nI (cl (S w 15 i)))), (2, .int (s_loud S w a i)), (6, .int (s_loud S w a i)), (5, .ref (o + pT w i)), (0, .ref (o + pS w)), (1, .ref (o + pT w a)), (4, .int (nI i))]) X dX1_listen_83 rfl (by decide) rfl ?_
              refine v_iinc (v := nI (i + 1)) (lo' := [(4, .int (nI (i + 1))), (3, .int (nI (cl (S w 15 i)))), (2, .int (s_loud S w a i)), (6, .int (s_loud S w a i)), (5, .ref (o + pT w i)), (0, .ref (o + pS w)), (1, .ref (o + pT w a))]) X 6 dX1_listen_84 rfl (nI_1 i) (by decide) rfl ?_
              refine v_goto (tgt := 7) X dX1_listen_87 (by decide) ?_
              refine v_lo [5, 6, 2, 1, 0] (lo' := [(0, .ref (o + pS w)), (1, .ref (o + pT w a)), (2, .int (s_loud S w a i)), (3, .int (nI (cl (S w 15 i)))), (4, .int (nI (i + 1)))]) rfl ?_
              refine v_eq (S' := S) (lo' := [(0, .ref (o + pS w)), (1, .ref (o + pT w a)), (2, .int ((s_lisN S w a (i + 1)).1)), (3, .int ((s_lisN S w a (i + 1)).2)), (4, .int (nI (i + 1)))]) (by rfl) (by simp [s_lisN, s_lis1, c_13, c_58, c_66, c_72]) ?_
              exact ih_7 (i + 1) (by omega)
  refine v_lo [3, 4, 2, 1, 0] (lo' := [(0, .ref (o + pS w)), (1, .ref (o + pT w a)), (2, .int 0), (3, .int (-1)), (4, .int 0)]) rfl ?_
  refine v_eq (S' := S) (lo' := [(0, .ref (o + pS w)), (1, .ref (o + pT w a)), (2, .int ((s_lisN S w a 0).1)), (3, .int ((s_lisN S w a 0).2)), (4, .int (nI 0))]) (by rfl) (by rfl) ?_
  exact L_7 (n) 0 (by omega)
theorem hi_X1_listenAll_X1 : ∀ w ∈ wsX10, w ∈ wsX1_listenAll := by decide +kernel
theorem hl_X1_listenAll_24 : Cond.fieldLink RX1 24 RX1 (TX1 2).2.1 (TX1 2).2.2.1 ∈ wsX1_listenAll := by decide +kernel
theorem hl_X1_listenAll_20 : Cond.fieldLink RX1 20 RX1 (TX1 1).2.1 (TX1 1).2.2.1 ∈ wsX1_listenAll := by decide +kernel
theorem hi_X1_listenAll_X3 : ∀ w ∈ wsX30, w ∈ wsX1_listenAll := by decide +kernel
theorem hl_X1_listenAll_128 : Cond.fieldLink RX1 128 RX3 (TX3 8).2.1 (TX3 8).2.2.1 ∈ wsX1_listenAll := by decide +kernel
theorem hy_X1_listen_V : yX1_listen.cls = RX1 ∧ yX1_listen.cls ≠ "java/lang/invoke/MethodHandle" ∧ yX1_listen.cls ≠ "java/lang/invoke/VarHandle" ∧ (parseMethodDescriptor yX1_listen.desc).map (fun d => d.parameters.length) = some 1 := by decide +kernel
set_option maxRecDepth 100000 in
set_option maxHeartbeats 4000000 in
/-- X1_listenAll -/
theorem c_X1_listenAll (l : Launch) (G : va_G) (cI cZ cT : ClassId) (o : Nat) (S : zS) (w n : Nat) (hw : w < 2) (hok : z_ok S w n) : zU l G cI cZ cT o yX1_listenAll wsX1_listenAll { frames := 3, cells := 0, slots := 0, locals := 70 } [.ref (o + pS w)] S (fun u => u = s_hear S w n n) := by
  refine z_ofV (cc := cX1_listenAll) (maxL := 2) (by decide) rfl (by simp [lg_sl, Value.category]) ?_
  intro p9 e9 s9 m9 a9 b9 h9 c9 X
  refine v_lo [0] (lo' := [(0, .ref (o + pS w))]) rfl ?_
  have hn8 := hok.2.1
  refine v_iconst (v := 0) X (by decide) dX1_listenAll_0 ?_
  refine v_istore_n (lo' := [(1, .int 0), (0, .ref (o + pS w))]) X dX1_listenAll_1 rfl (by decide) rfl ?_
  have L_2 : ∀ (d i : Nat), i + d = n → z_V p9 l e9 (headSpec wsX1_listenAll { frames := 3, cells := 0, slots := 0, locals := 70 }).room s9 m9 a9 b9 h9 c9 (MQ b9 (va_Qv (fun u => u = s_hear S w n n) (z_B G cI cZ cT o) (z_A o s9.heap.size)) a9 s9 0 0 (z_A o s9.heap.size)) G cI cZ cT o 2 (s_hear S w n i) 2 [(0, .ref (o + pS w)), (1, .int (nI i))] [] := by
    intro d
    induction d with
    | zero =>
      intro i hi_2
      have he_2 : i = n := by omega
      rw [he_2]
      refine v_iload_n X 1 dX1_listenAll_2 rfl rfl ?_
      refine v_aload_n X 0 dX1_listenAll_3 rfl rfl ?_
      refine v_getS X (by omega) 2 (by decide) hi_X1_listenAll_X1 hl_X1_listenAll_24 rfl (v := .int ((s_hear S w n n) w 12 0)) rfl dX1_listenAll_4 ?_
      refine v_top (y := nI n) ((ok_hear hok n).1) ?_
      refine v_ncmp_ge X n n rfl rfl (by omega) (by omega) (tgt := 50) dX1_listenAll_7 (by decide) (fun c_7 => ?_) (fun c_7 => ?_)
      ·
        exact v_vret X dX1_listenAll_50 (by rfl)
      ·
        exact absurd c_7 (by omega)
    | succ d ih_2 =>
      intro i hi_2
      refine v_iload_n X 1 dX1_listenAll_2 rfl rfl ?_
      refine v_aload_n X 0 dX1_listenAll_3 rfl rfl ?_
      refine v_getS X (by omega) 2 (by decide) hi_X1_listenAll_X1 hl_X1_listenAll_24 rfl (v := .int ((s_hear S w n i) w 12 0)) rfl dX1_listenAll_4 ?_
      refine v_top (y := nI n) ((ok_hear hok i).1) ?_
      refine v_ncmp_ge X i n rfl rfl (by omega) (by omega) (tgt := 50) dX1_listenAll_7 (by decide) (fun c_7 => ?_) (fun c_7 => ?_)
      ·
        exact absurd c_7 (by omega)
      ·
        refine v_aload_n X 0 dX1_listenAll_10 rfl rfl ?_
        refine v_getS X (by omega) 1 (by decide) hi_X1_listenAll_X1 hl_X1_listenAll_20 rfl (v := .ref (o + pL w)) rfl dX1_listenAll_11 ?_
        refine v_iload_n X 1 dX1_listenAll_14 rfl rfl ?_
        refine v_aald X (w := w) (by omega) i rfl (by omega) dX1_listenAll_15 ?_
        refine v_getT X (by omega) (by omega) 8 (by decide) hi_X1_listenAll_X3 hl_X1_listenAll_128 rfl (v := .int ((s_hear S w n i) w 22 i)) rfl dX1_listenAll_16 ?_
        refine v_if_eq X (tgt := 44) dX1_listenAll_19 (by decide) (fun c_19 => ?_) (fun c_19 => ?_)
        ·
          refine v_iinc (v := nI (i + 1)) (lo' := [(1, .int (nI (i + 1))), (0, .ref (o + pS w))]) X 1 dX1_listenAll_44 rfl (nI_1 i) (by decide) rfl ?_
          refine v_goto (tgt := 2) X dX1_listenAll_47 (by decide) ?_
          refine v_lo [1, 0] (lo' := [(0, .ref (o + pS w)), (1, .int (nI (i + 1)))]) rfl ?_
          refine v_eq (S' := s_hear S w n (i + 1)) (lo' := [(0, .ref (o + pS w)), (1, .int (nI (i + 1)))]) (by simp [s_hear, s_hear1, c_7, c_19]) (by rfl) ?_
          exact ih_2 (i + 1) (by omega)
        ·
          refine v_aload_n X 0 dX1_listenAll_22 rfl rfl ?_
          refine v_getS X (by omega) 1 (by decide) hi_X1_listenAll_X1 hl_X1_listenAll_20 rfl (v := .ref (o + pL w)) rfl dX1_listenAll_23 ?_
          refine v_iload_n X 1 dX1_listenAll_26 rfl rfl ?_
          refine v_aald X (w := w) (by omega) i rfl (by omega) dX1_listenAll_27 ?_
          refine v_callVIf X [] (pT w i) (pT_lt (by omega) (by omega)) (c_X3_isGone l G cI cZ cT o (s_hear S w n i) w i (by omega) (by omega)) (zc_T cI cZ cT o _ (by omega) (by omega)) (C := RX3) (T := TX3) (N := 16) rfl 0 rfl gX1_listenAll_X3_isGone rfl ⟨rfl, rfl⟩ hy_X3_isGone_V ⟨Nat.le_of_ble_eq_true rfl, Nat.le_of_ble_eq_true rfl⟩ rfl (Nat.le_of_ble_eq_true rfl) dX1_listenAll_28 ?_
          refine v_if_ne X (tgt := 44) dX1_listenAll_31 (by decide) (fun c_31 => ?_) (fun c_31 => ?_)
          ·
            refine v_iinc (v := nI (i + 1)) (lo' := [(1, .int (nI (i + 1))), (0, .ref (o + pS w))]) X 1 dX1_listenAll_44 rfl (nI_1 i) (by decide) rfl ?_
            refine v_goto (tgt := 2) X dX1_listenAll_47 (by decide) ?_
            refine v_lo [1, 0] (lo' := [(0, .ref (o + pS w)), (1, .int (nI (i + 1)))]) rfl ?_
            refine v_eq (S' := s_hear S w n (i + 1)) (lo' := [(0, .ref (o + pS w)), (1, .int (nI (i + 1)))]) (by simp [s_hear, s_hear1, c_7, c_19, c_31]) (by rfl) ?_
            exact ih_2 (i + 1) (by omega)
          ·
            refine v_aload_n X 0 dX1_listenAll_34 rfl rfl ?_
            refine v_aload_n X 0 dX1_listenAll_35 rfl rfl ?_
            refine v_getS X (by omega) 1 (by decide) hi_X1_listenAll_X1 hl_X1_listenAll_20 rfl (v := .ref (o + pL w)) rfl dX1_listenAll_36 ?_
            refine v_iload_n X 1 dX1_listenAll_39 rfl rfl ?_
            refine v_aald X (w := w) (by omega) i rfl (by omega) dX1_listenAll_40 ?_
            refine v_callVUf X [.ref (o + pT w i)] (pS w) (pS_lt (by omega)) (c_X1_listen l G cI cZ cT o (s_hear S w n i) w n i (by omega) (by omega) (ok_hear hok i)) (zc_S cI cZ cT o _ (by omega)) (C := RX1) (T := TX1) (N := 4) rfl 1 rfl gX1_listenAll_X1_listen rfl ⟨rfl, rfl⟩ hy_X1_listen_V ⟨Nat.le_of_ble_eq_true rfl, Nat.le_of_ble_eq_true rfl⟩ rfl (Nat.le_of_ble_eq_true rfl) dX1_listenAll_41 ?_
            refine v_iinc (v := nI (i + 1)) (lo' := [(1, .int (nI (i + 1))), (0, .ref (o + pS w))]) X 1 dX1_listenAll_44 rfl (nI_1 i) (by decide) rfl ?_
            refine v_goto (tgt := 2) X dX1_listenAll_47 (by decide) ?_
            refine v_lo [1, 0] (lo' := [(0, .ref (o + pS w)), (1, .int (nI (i + 1)))]) rfl ?_
            refine v_eq (S' := s_hear S w n (i + 1)) (lo' := [(0, .ref (o + pS w)), (1, .int (nI (i + 1)))]) (by simp [s_hear, s_hear1, c_7, c_19, c_31]) (by rfl) ?_
            exact ih_2 (i + 1) (by omega)
  refine v_lo [1, 0] (lo' := [(0, .ref (o + pS w)), (1, .int 0)]) rfl ?_
  refine v_eq (S' := s_hear S w n 0) (lo' := [(0, .ref (o + pS w)), (1, .int (nI 0))]) (by rfl) (by rfl) ?_
  exact L_2 (n) 0 (by omega)
theorem hi_X1_buryTeams_X1 : ∀ w ∈ wsX10, w ∈ wsX1_buryTeams := by decide +kernel
theorem hl_X1_buryTeams_24 : Cond.fieldLink RX1 24 RX1 (TX1 2).2.1 (TX1 2).2.2.1 ∈ wsX1_buryTeams := by decide +kernel
theorem hl_X1_buryTeams_12 : Cond.fieldLink RX1 12 RX1 (TX1 0).2.1 (TX1 0).2.2.1 ∈ wsX1_buryTeams := by decide +kernel
theorem hi_X1_buryTeams_X0 : ∀ w ∈ wsX00, w ∈ wsX1_buryTeams := by decide +kernel
theorem hl_X1_buryTeams_190 : Cond.fieldLink RX1 190 RX0 (TX0 8).2.1 (TX0 8).2.2.1 ∈ wsX1_buryTeams := by decide +kernel
theorem hl_X1_buryTeams_20 : Cond.fieldLink RX1 20 RX1 (TX1 1).2.1 (TX1 1).2.2.1 ∈ wsX1_buryTeams := by decide +kernel
theorem hi_X1_buryTeams_X3 : ∀ w ∈ wsX30, w ∈ wsX1_buryTeams := by decide +kernel
theorem hl_X1_buryTeams_49 : Cond.fieldLink RX1 49 RX3 (TX3 1).2.1 (TX3 1).2.2.1 ∈ wsX1_buryTeams := by decide +kernel
theorem hl_X1_buryTeams_193 : Cond.fieldLink RX1 193 RX3 (TX3 2).2.1 (TX3 2).2.2.1 ∈ wsX1_buryTeams := by decide +kernel
set_option maxRecDepth 100000 in
set_option maxHeartbeats 4000000 in
/-- X1_buryTeams -/
theorem c_X1_buryTeams (l : Launch) (G : va_G) (cI cZ cT : ClassId) (o : Nat) (S : zS) (w n : Nat) (hw : w < 2) (hok : z_ok S w n) : zU l G cI cZ cT o yX1_buryTeams wsX1_buryTeams { frames := 0, cells := 0, slots := 0, locals := 0 } [.ref (o + pS w)] S (fun u => u = s_bury S w n) := by
  refine z_ofV (cc := cX1_buryTeams) (maxL := 2) (by decide) rfl (by simp [lg_sl, Value.category]) ?_
  intro p9 e9 s9 m9 a9 b9 h9 c9 X
  refine v_lo [0] (lo' := [(0, .ref (o + pS w))]) rfl ?_
  have hn8 := hok.2.1
  refine v_iconst (v := 0) X (by decide) dX1_buryTeams_0 ?_
  refine v_istore_n (lo' := [(1, .int 0), (0, .ref (o + pS w))]) X dX1_buryTeams_1 rfl (by decide) rfl ?_
  have L_2 : ∀ (d i : Nat), i + d = n → z_V p9 l e9 (headSpec wsX1_buryTeams { frames := 0, cells := 0, slots := 0, locals := 0 }).room s9 m9 a9 b9 h9 c9 (MQ b9 (va_Qv (fun u => u = s_bury S w n) (z_B G cI cZ cT o) (z_A o s9.heap.size)) a9 s9 0 0 (z_A o s9.heap.size)) G cI cZ cT o 2 (s_bury S w i) 2 [(0, .ref (o + pS w)), (1, .int (nI i))] [] := by
    intro d
    induction d with
    | zero =>
      intro i hi_2
      have he_2 : i = n := by omega
      rw [he_2]
      refine v_iload_n X 1 dX1_buryTeams_2 rfl rfl ?_
      refine v_aload_n X 0 dX1_buryTeams_3 rfl rfl ?_
      refine v_getS X (by omega) 2 (by decide) hi_X1_buryTeams_X1 hl_X1_buryTeams_24 rfl (v := .int ((s_bury S w n) w 12 0)) rfl dX1_buryTeams_4 ?_
      refine v_top (y := nI n) ((ok_bury hok n).1) ?_
      refine v_ncmp_ge X n n rfl rfl (by omega) (by omega) (tgt := 46) dX1_buryTeams_7 (by decide) (fun c_7 => ?_) (fun c_7 => ?_)
      ·
        exact v_vret X dX1_buryTeams_46 (by rfl)
      ·
        exact absurd c_7 (by omega)
    | succ d ih_2 =>
      intro i hi_2
      have hci := ((ok_bury hok i).2.2 i (by omega)).1.2
      refine v_iload_n X 1 dX1_buryTeams_2 rfl rfl ?_
      refine v_aload_n X 0 dX1_buryTeams_3 rfl rfl ?_
      refine v_getS X (by omega) 2 (by decide) hi_X1_buryTeams_X1 hl_X1_buryTeams_24 rfl (v := .int ((s_bury S w i) w 12 0)) rfl dX1_buryTeams_4 ?_
      refine v_top (y := nI n) ((ok_bury hok i).1) ?_
      refine v_ncmp_ge X i n rfl rfl (by omega) (by omega) (tgt := 46) dX1_buryTeams_7 (by decide) (fun c_7 => ?_) (fun c_7 => ?_)
      ·
        exact absurd c_7 (by omega)
      ·
        refine v_aload_n X 0 dX1_buryTeams_10 rfl rfl ?_
        refine v_getS X (by omega) 0 (by decide) hi_X1_buryTeams_X1 hl_X1_buryTeams_12 rfl (v := .ref (o + pG w)) rfl dX1_buryTeams_11 ?_
        refine v_getG X (by omega) 8 (by decide) hi_X1_buryTeams_X0 hl_X1_buryTeams_190 rfl (v := .ref (o + pA w 8)) rfl dX1_buryTeams_14 ?_
        refine v_aload_n X 0 dX1_buryTeams_17 rfl rfl ?_
        refine v_getS X (by omega) 1 (by decide) hi_X1_buryTeams_X1 hl_X1_buryTeams_20 rfl (v := .ref (o + pL w)) rfl dX1_buryTeams_18 ?_
        refine v_iload_n X 1 dX1_buryTeams_21 rfl rfl ?_
        refine v_aald X (w := w) (by omega) i rfl (by omega) dX1_buryTeams_22 ?_
        refine v_getT X (by omega) (by omega) 1 (by decide) hi_X1_buryTeams_X3 hl_X1_buryTeams_49 rfl (v := .int ((s_bury S w i) w 15 i)) rfl dX1_buryTeams_23 ?_
        refine v_top (y := nI (cl ((s_bury S w i) w 15 i))) (((ok_bury hok i).2.2 i (by omega)).1.1) ?_
        refine v_ialdA X (w := w) (by omega) 8 (by omega) (cl ((s_bury S w i) w 15 i)) rfl (by omega) dX1_buryTeams_26 ?_
        refine v_if_eq X (tgt := 40) dX1_buryTeams_27 (by decide) (fun c_27 => ?_) (fun c_27 => ?_)
        ·
          refine v_iinc (v := nI (i + 1)) (lo' := [(1, .int (nI (i + 1))), (0, .ref (o + pS w))]) X 1 dX1_buryTeams_40 rfl (nI_1 i) (by decide) rfl ?_
          refine v_goto (tgt := 2) X dX1_buryTeams_43 (by decide) ?_
          refine v_lo [1, 0] (lo' := [(0, .ref (o + pS w)), (1, .int (nI (i + 1)))]) rfl ?_
          refine v_eq (S' := s_bury S w (i + 1)) (lo' := [(0, .ref (o + pS w)), (1, .int (nI (i + 1)))]) (by simp [s_bury, s_bury1, c_7, c_27]) (by rfl) ?_
          exact ih_2 (i + 1) (by omega)
        ·
          refine v_aload_n X 0 dX1_buryTeams_30 rfl rfl ?_
          refine v_getS X (by omega) 1 (by decide) hi_X1_buryTeams_X1 hl_X1_buryTeams_20 rfl (v := .ref (o + pL w)) rfl dX1_buryTeams_31 ?_
          refine v_iload_n X 1 dX1_buryTeams_34 rfl rfl ?_
          refine v_aald X (w := w) (by omega) i rfl (by omega) dX1_buryTeams_35 ?_
          refine v_iconst (v := 0) X (by decide) dX1_buryTeams_36 ?_
          refine v_putT2 X (by omega) (by omega) hi_X1_buryTeams_X3 hl_X1_buryTeams_193 dX1_buryTeams_37 ?_
          refine v_iinc (v := nI (i + 1)) (lo' := [(1, .int (nI (i + 1))), (0, .ref (o + pS w))]) X 1 dX1_buryTeams_40 rfl (nI_1 i) (by decide) rfl ?_
          refine v_goto (tgt := 2) X dX1_buryTeams_43 (by decide) ?_
          refine v_lo [1, 0] (lo' := [(0, .ref (o + pS w)), (1, .int (nI (i + 1)))]) rfl ?_
          refine v_eq (S' := s_bury S w (i + 1)) (lo' := [(0, .ref (o + pS w)), (1, .int (nI (i + 1)))]) (by simp [s_bury, s_bury1, c_7, c_27]) (by rfl) ?_
          exact ih_2 (i + 1) (by omega)
  refine v_lo [1, 0] (lo' := [(0, .ref (o + pS w)), (1, .int 0)]) rfl ?_
  refine v_eq (S' := s_bury S w 0) (lo' := [(0, .ref (o + pS w)), (1, .int (nI 0))]) (by rfl) (by rfl) ?_
  exact L_2 (n) 0 (by omega)
theorem hy_X1_actAll_V : yX1_actAll.cls = RX1 ∧ yX1_actAll.cls ≠ "java/lang/invoke/MethodHandle" ∧ yX1_actAll.cls ≠ "java/lang/invoke/VarHandle" ∧ (parseMethodDescriptor yX1_actAll.desc).map (fun d => d.parameters.length) = some 0 := by decide +kernel
theorem hy_X1_fightAll_V : yX1_fightAll.cls = RX1 ∧ yX1_fightAll.cls ≠ "java/lang/invoke/MethodHandle" ∧ yX1_fightAll.cls ≠ "java/lang/invoke/VarHandle" ∧ (parseMethodDescriptor yX1_fightAll.desc).map (fun d => d.parameters.length) = some 0 := by decide +kernel
theorem hy_X1_listenAll_V : yX1_listenAll.cls = RX1 ∧ yX1_listenAll.cls ≠ "java/lang/invoke/MethodHandle" ∧ yX1_listenAll.cls ≠ "java/lang/invoke/VarHandle" ∧ (parseMethodDescriptor yX1_listenAll.desc).map (fun d => d.parameters.length) = some 0 := by decide +kernel
theorem hi_X1_letHoursGoBy_X1 : ∀ w ∈ wsX10, w ∈ wsX1_letHoursGoBy := by decide +kernel
theorem hl_X1_letHoursGoBy_12 : Cond.fieldLink RX1 12 RX1 (TX1 0).2.1 (TX1 0).2.2.1 ∈ wsX1_letHoursGoBy := by decide +kernel
theorem hy_X0_spreadSmoke_V : yX0_spreadSmoke.cls = RX0 ∧ yX0_spreadSmoke.cls ≠ "java/lang/invoke/MethodHandle" ∧ yX0_spreadSmoke.cls ≠ "java/lang/invoke/VarHandle" ∧ (parseMethodDescriptor yX0_spreadSmoke.desc).map (fun d => d.parameters.length) = some 0 := by decide +kernel
theorem hy_X0_settle_V : yX0_settle.cls = RX0 ∧ yX0_settle.cls ≠ "java/lang/invoke/MethodHandle" ∧ yX0_settle.cls ≠ "java/lang/invoke/VarHandle" ∧ (parseMethodDescriptor yX0_settle.desc).map (fun d => d.parameters.length) = some 0 := by decide +kernel
theorem hy_X1_buryTeams_V : yX1_buryTeams.cls = RX1 ∧ yX1_buryTeams.cls ≠ "java/lang/invoke/MethodHandle" ∧ yX1_buryTeams.cls ≠ "java/lang/invoke/VarHandle" ∧ (parseMethodDescriptor yX1_buryTeams.desc).map (fun d => d.parameters.length) = some 0 := by decide +kernel
theorem hl_X1_letHoursGoBy_28 : Cond.fieldLink RX1 28 RX1 (TX1 3).2.1 (TX1 3).2.2.1 ∈ wsX1_letHoursGoBy := by decide +kernel
set_option maxRecDepth 100000 in
set_option maxHeartbeats 4000000 in
/-- X1_letHoursGoBy -/
theorem c_X1_letHoursGoBy (l : Launch) (G : va_G) (cI cZ cT : ClassId) (o : Nat) (S : zS) (w n h : Nat) (hw : w < 2) (hh : h < 1000) (hok : z_ok S w n) : zU l G cI cZ cT o yX1_letHoursGoBy wsX1_letHoursGoBy { frames := 5, cells := 0, slots := 0, locals := 113 } [.ref (o + pS w), .int (nI h)] S (fun u => u = s_hours S w n h) := by
  refine z_ofV (cc := cX1_letHoursGoBy) (maxL := 3) (by decide) rfl (by simp [lg_sl, Value.category]) ?_
  intro p9 e9 s9 m9 a9 b9 h9 c9 X
  refine v_lo [0, 1] (lo' := [(0, .ref (o + pS w)), (1, .int (nI h))]) rfl ?_
  have hn8 := hok.2.1
  refine v_iconst (v := 0) X (by decide) dX1_letHoursGoBy_0 ?_
  refine v_istore_n (lo' := [(2, .int 0), (0, .ref (o + pS w)), (1, .int (nI h))]) X dX1_letHoursGoBy_1 rfl (by decide) rfl ?_
  have L_2 : ∀ (d i : Nat), i + d = h → z_V p9 l e9 (headSpec wsX1_letHoursGoBy { frames := 5, cells := 0, slots := 0, locals := 113 }).room s9 m9 a9 b9 h9 c9 (MQ b9 (va_Qv (fun u => u = s_hours S w n h) (z_B G cI cZ cT o) (z_A o s9.heap.size)) a9 s9 0 0 (z_A o s9.heap.size)) G cI cZ cT o 3 (s_hours S w n i) 2 [(0, .ref (o + pS w)), (1, .int (nI h)), (2, .int (nI i))] [] := by
    intro d
    induction d with
    | zero =>
      intro i hi_2
      have he_2 : i = h := by omega
      rw [he_2]
      refine v_iload_n X 2 dX1_letHoursGoBy_2 rfl rfl ?_
      refine v_iload_n X 1 dX1_letHoursGoBy_3 rfl rfl ?_
      refine v_ncmp_ge X h h rfl rfl (by omega) (by omega) (tgt := 53) dX1_letHoursGoBy_4 (by decide) (fun c_4 => ?_) (fun c_4 => ?_)
      ·
        exact v_vret X dX1_letHoursGoBy_53 (by rfl)
      ·
        exact absurd c_4 (by omega)
    | succ d ih_2 =>
      intro i hi_2
      refine v_iload_n X 2 dX1_letHoursGoBy_2 rfl rfl ?_
      refine v_iload_n X 1 dX1_letHoursGoBy_3 rfl rfl ?_
      refine v_ncmp_ge X i h rfl rfl (by omega) (by omega) (tgt := 53) dX1_letHoursGoBy_4 (by decide) (fun c_4 => ?_) (fun c_4 => ?_)
      ·
        exact absurd c_4 (by omega)
      ·
        refine v_aload_n X 0 dX1_letHoursGoBy_7 rfl rfl ?_
        refine v_callVUf X [] (pS w) (pS_lt (by omega)) (c_X1_actAll l G cI cZ cT o (s_hours S w n i) w n (by omega) (ok_hours hok i)) (zc_S cI cZ cT o _ (by omega)) (C := RX1) (T := TX1) (N := 4) rfl 0 rfl gX1_letHoursGoBy_X1_actAll rfl ⟨rfl, rfl⟩ hy_X1_actAll_V ⟨Nat.le_of_ble_eq_true rfl, Nat.le_of_ble_eq_true rfl⟩ rfl (Nat.le_of_ble_eq_true rfl) dX1_letHoursGoBy_8 ?_
        refine v_aload_n X 0 dX1_letHoursGoBy_11 rfl rfl ?_
        refine v_callVUf X [] (pS w) (pS_lt (by omega)) (c_X1_fightAll l G cI cZ cT o (s_h1 (s_hours S w n i) w n) w n (by omega) (ok_h1 (ok_hours hok i))) (zc_S cI cZ cT o _ (by omega)) (C := RX1) (T := TX1) (N := 4) rfl 0 rfl gX1_letHoursGoBy_X1_fightAll rfl ⟨rfl, rfl⟩ hy_X1_fightAll_V ⟨Nat.le_of_ble_eq_true rfl, Nat.le_of_ble_eq_true rfl⟩ rfl (Nat.le_of_ble_eq_true rfl) dX1_letHoursGoBy_12 ?_
        refine v_aload_n X 0 dX1_letHoursGoBy_15 rfl rfl ?_
        refine v_callVUf X [] (pS w) (pS_lt (by omega)) (c_X1_listenAll l G cI cZ cT o (s_fight (s_h1 (s_hours S w n i) w n) w n) w n (by omega) (ok_h2 (ok_hours hok i))) (zc_S cI cZ cT o _ (by omega)) (C := RX1) (T := TX1) (N := 4) rfl 0 rfl gX1_letHoursGoBy_X1_listenAll rfl ⟨rfl, rfl⟩ hy_X1_listenAll_V ⟨Nat.le_of_ble_eq_true rfl, Nat.le_of_ble_eq_true rfl⟩ rfl (Nat.le_of_ble_eq_true rfl) dX1_letHoursGoBy_16 ?_
        refine v_aload_n X 0 dX1_letHoursGoBy_19 rfl rfl ?_
        refine v_getS X (by omega) 0 (by decide) hi_X1_letHoursGoBy_X1 hl_X1_letHoursGoBy_12 rfl (v := .ref (o + pG w)) rfl dX1_letHoursGoBy_20 ?_
        refine v_callVUf X [] (pG w) (pG_lt (by omega)) (c_X0_spreadSmoke l G cI cZ cT o (s_hear (s_fight (s_h1 (s_hours S w n i) w n) w n) w n n) w (by omega)) (zc_G cI cZ cT o _ (by omega)) (C := RX0) (T := TX0) (N := 12) rfl 0 rfl gX1_letHoursGoBy_X0_spreadSmoke rfl ⟨rfl, rfl⟩ hy_X0_spreadSmoke_V ⟨Nat.le_of_ble_eq_true rfl, Nat.le_of_ble_eq_true rfl⟩ rfl (Nat.le_of_ble_eq_true rfl) dX1_letHoursGoBy_23 ?_
        refine v_aload_n X 0 dX1_letHoursGoBy_26 rfl rfl ?_
        refine v_getS X (by omega) 0 (by decide) hi_X1_letHoursGoBy_X1 hl_X1_letHoursGoBy_12 rfl (v := .ref (o + pG w)) rfl dX1_letHoursGoBy_27 ?_
        refine v_callVUf X [] (pG w) (pG_lt (by omega)) (c_X0_settle l G cI cZ cT o (s_smoke (s_hear (s_fight (s_h1 (s_hours S w n i) w n) w n) w n n) w) w (by omega)) (zc_G cI cZ cT o _ (by omega)) (C := RX0) (T := TX0) (N := 12) rfl 0 rfl gX1_letHoursGoBy_X0_settle rfl ⟨rfl, rfl⟩ hy_X0_settle_V ⟨Nat.le_of_ble_eq_true rfl, Nat.le_of_ble_eq_true rfl⟩ rfl (Nat.le_of_ble_eq_true rfl) dX1_letHoursGoBy_30 ?_
        refine v_aload_n X 0 dX1_letHoursGoBy_33 rfl rfl ?_
        refine v_callVUf X [] (pS w) (pS_lt (by omega)) (c_X1_buryTeams l G cI cZ cT o (s_settle (s_smoke (s_hear (s_fight (s_h1 (s_hours S w n i) w n) w n) w n n) w) w 144) w n (by omega) (ok_h5 (ok_hours hok i))) (zc_S cI cZ cT o _ (by omega)) (C := RX1) (T := TX1) (N := 4) rfl 0 rfl gX1_letHoursGoBy_X1_buryTeams rfl ⟨rfl, rfl⟩ hy_X1_buryTeams_V ⟨Nat.le_of_ble_eq_true rfl, Nat.le_of_ble_eq_true rfl⟩ rfl (Nat.le_of_ble_eq_true rfl) dX1_letHoursGoBy_34 ?_
        refine v_aload_n X 0 dX1_letHoursGoBy_37 rfl rfl ?_
        refine v_dup X rfl dX1_letHoursGoBy_38 ?_
        refine v_getS X (by omega) 3 (by decide) hi_X1_letHoursGoBy_X1 hl_X1_letHoursGoBy_28 rfl (v := .int ((s_bury (s_settle (s_smoke (s_hear (s_fight (s_h1 (s_hours S w n i) w n) w n) w n n) w) w 144) w n) w 13 0)) rfl dX1_letHoursGoBy_39 ?_
        refine v_iconst (v := 1) X (by decide) dX1_letHoursGoBy_42 ?_
        refine v_iadd X dX1_letHoursGoBy_43 ?_
        refine v_putS3 X (by omega) hi_X1_letHoursGoBy_X1 hl_X1_letHoursGoBy_28 dX1_letHoursGoBy_44 ?_
        refine v_iinc (v := nI (i + 1)) (lo' := [(2, .int (nI (i + 1))), (0, .ref (o + pS w)), (1, .int (nI h))]) X 2 dX1_letHoursGoBy_47 rfl (nI_1 i) (by decide) rfl ?_
        refine v_goto (tgt := 2) X dX1_letHoursGoBy_50 (by decide) ?_
        refine v_lo [1, 2, 0] (lo' := [(0, .ref (o + pS w)), (1, .int (nI h)), (2, .int (nI (i + 1)))]) rfl ?_
        refine v_eq (S' := s_hours S w n (i + 1)) (lo' := [(0, .ref (o + pS w)), (1, .int (nI h)), (2, .int (nI (i + 1)))]) (by rfl) (by rfl) ?_
        exact ih_2 (i + 1) (by omega)
  refine v_lo [1, 2, 0] (lo' := [(0, .ref (o + pS w)), (1, .int (nI h)), (2, .int 0)]) rfl ?_
  refine v_eq (S' := s_hours S w n 0) (lo' := [(0, .ref (o + pS w)), (1, .int (nI h)), (2, .int (nI 0))]) (by rfl) (by rfl) ?_
  exact L_2 (h) 0 (by omega)
end ZM4
