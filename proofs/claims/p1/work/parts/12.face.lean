section ZM7
def s_count (S : zS) (n k : Nat) : Int32 :=
  if k = 0 then S 0 13 0 else if k = 1 then nI n else if k = 2 then s_left S 0 0 n else if k = 3 then s_left S 0 1 n else if k = 4 then z_sum (S 0 2) 144 else if k = 5 then s_up S 0
  else if k = 6 then s_down S 0 else if k = 7 then s_allSmoke S 0 else if k = 8 then S 0 10 0 else if k = 9 then z_sum (S 0 18) n else if k = 10 then S 2 1 0 else S 2 3 0
theorem hasTeam_1 {S : zS} {w n t : Nat} (hok : z_ok S w n) (ht : t < n) : s_hasTeam S w (nI t) = 1 := by
  have hn := hok.2.1
  unfold s_hasTeam
  rw [if_neg (nI_pos (by omega)), hok.1, if_pos (nI_lt ht (by omega))]
def s_map (S : zS) (L : Nat) : zS := if s_err S L < 0 then z_up (z_up (s_read S 0 144) 0 12 0 0) 2 1 0 0 else z_up S 2 1 0 0
def s_come (S : zS) (n : Nat) (a c h k : Int32) : zS := z_up (s_start S 0 n a c h k) 0 12 0 (nI (n + 1))
def s_ahead (S : zS) (n h : Nat) : zS := s_hours (s_scopy S n) 1 n h
def s_foresee (S : zS) (n h k : Nat) : Int32 := if k = 0 then s_ahead S n h 1 11 0 - s_ahead S n h 0 11 0 else if k = 1 then s_left (s_ahead S n h) 1 0 n else if k = 2 then s_left (s_ahead S n h) 1 1 n else s_ahead S n h 1 10 0 - s_ahead S n h 0 10 0
def s_targ (S : zS) (t : Nat) : zS := s_srch S 0 (cl (S 0 15 t)) (S 0 17 t)
def s_dg1 (S : zS) (n : Nat) : Nat → Int64
  | 0 => 709
  | k + 1 => s_dg1 S n k * 31 + (s_count S n k).toInt64
def s_dgc (S : zS) (c : Nat) (d : Int64) : Nat → Int64
  | 0 => d
  | k + 1 => s_dgc S c d k * 31 + (s_valueOf S 0 c k).toInt64
def s_dg2 (S : zS) (d : Int64) : Nat → Int64
  | 0 => d
  | c + 1 => s_dgc S c (s_dg2 S d c) 8
def s_dgt (S : zS) (t : Nat) (d : Int64) : Nat → Int64
  | 0 => d
  | k + 1 => s_dgt S t d k * 31 + (s_teamV S 0 t (cl (S 0 15 t)) k).toInt64
def s_dgh (S : zS) (t : Nat) (d : Int64) : Nat → Int64
  | 0 => d
  | k + 1 => s_dgh S t d k * 31 + (s_heardV S 0 t k).toInt64
def s_dg3 (S : zS) (d : Int64) : Nat → Int64
  | 0 => d
  | t + 1 => s_dgh S t (s_dgt S t (s_dg3 S d t) 10) 3
def s_dg4 (S : zS) (d : Int64) : Nat → Int64
  | 0 => d
  | p + 1 => s_dg4 S d p * 31 + (S 2 2 p).toInt64
def s_digest (S : zS) (n P : Nat) : Int64 := s_dg4 S (s_dg3 S (s_dg2 S (s_dg1 S n 12) 144) n) P

set_option maxRecDepth 100000 in
set_option maxHeartbeats 4000000 in
/-- X5_isInside -/
theorem c_X5_isInside (l : Launch) (G : va_G) (cI cZ cT : ClassId) (o : Nat) (S : zS) (x y : Nat) (hx : x < 12) (hy : y < 12) : zI l G cI cZ cT o yX5_isInside wsX5_isInside { frames := 0, cells := 0, slots := 0, locals := 0 } [.int (nI x), .int (nI y)] S (fun r u => r = 1 ∧ u = S) := by
  refine z_ofZb (cc := cX5_isInside) (maxL := 2) (by decide) rfl (by simp [lg_sl, Value.category]) ?_
  intro p9 e9 s9 m9 a9 b9 h9 c9 X
  refine v_lo [0, 1] (lo' := [(0, .int (nI x)), (1, .int (nI y))]) rfl ?_
  refine v_iload_n X 0 dX5_isInside_0 rfl rfl ?_
  refine v_if_lt X (tgt := 24) dX5_isInside_1 (by decide) (fun q => absurd q (nI_pos (by omega))) (fun _ => ?_)
  refine v_iload_n X 0 dX5_isInside_4 rfl rfl ?_
  refine v_bipush (v := 12) X (by decide) dX5_isInside_5 ?_
  refine v_ncmp_ge X x 12 rfl rfl (by omega) (by omega) (tgt := 24) dX5_isInside_7 (by decide) (fun c_7 => ?_) (fun c_7 => ?_)
  ·
    exact absurd c_7 (by omega)
  ·
    refine v_iload_n X 1 dX5_isInside_10 rfl rfl ?_
    refine v_if_lt X (tgt := 24) dX5_isInside_11 (by decide) (fun q => absurd q (nI_pos (by omega))) (fun _ => ?_)
    refine v_iload_n X 1 dX5_isInside_14 rfl rfl ?_
    refine v_bipush (v := 12) X (by decide) dX5_isInside_15 ?_
    refine v_ncmp_ge X y 12 rfl rfl (by omega) (by omega) (tgt := 24) dX5_isInside_17 (by decide) (fun c_17 => ?_) (fun c_17 => ?_)
    ·
      exact absurd c_17 (by omega)
    ·
      refine v_iconst (v := 1) X (by decide) dX5_isInside_20 ?_
      refine v_goto (tgt := 25) X dX5_isInside_21 (by decide) ?_
      exact v_zret X rfl dX5_isInside_25 (by exact ⟨rfl, rfl⟩)
set_option maxRecDepth 100000 in
set_option maxHeartbeats 4000000 in
/-- X5_cellAt -/
theorem c_X5_cellAt (l : Launch) (G : va_G) (cI cZ cT : ClassId) (o : Nat) (S : zS) (x y : Nat) (hx : x < 12) (hy : y < 12) : zI l G cI cZ cT o yX5_cellAt wsX5_cellAt { frames := 0, cells := 0, slots := 0, locals := 0 } [.int (nI x), .int (nI y)] S (fun r u => r = nI (12 * y + x) ∧ u = S) := by
  refine z_ofI (cc := cX5_cellAt) (maxL := 2) (by decide) rfl (by simp [lg_sl, Value.category]) ?_
  intro p9 e9 s9 m9 a9 b9 h9 c9 X
  refine v_lo [0, 1] (lo' := [(0, .int (nI x)), (1, .int (nI y))]) rfl ?_
  refine v_bipush (v := 12) X (by decide) dX5_cellAt_0 ?_
  refine v_iload_n X 1 dX5_cellAt_2 rfl rfl ?_
  refine v_imul X dX5_cellAt_3 ?_
  refine v_top (y := nI (12 * y)) (pk_mul 12 y) ?_
  refine v_iload_n X 0 dX5_cellAt_4 rfl rfl ?_
  refine v_iadd X dX5_cellAt_5 ?_
  refine v_top (y := nI ((12 * y) + x)) (nI_add (12 * y) x) ?_
  exact v_iret X dX5_cellAt_6 (by exact ⟨rfl, rfl⟩)
theorem hy_X5_isInside_S : yX5_isInside.cls ≠ "java/lang/invoke/MethodHandle" ∧ yX5_isInside.cls ≠ "java/lang/invoke/VarHandle" ∧ (parseMethodDescriptor yX5_isInside.desc).map (fun d => d.parameters.length) = some 2 := by decide +kernel
theorem hi_X5_cell_X5 : ∀ w ∈ wsX50, w ∈ wsX5_cell := by decide +kernel
theorem hl_X5_cell_27 : Cond.fieldLink RX5 27 RX5 (TX5 3).2.1 (TX5 3).2.2.1 ∈ wsX5_cell := by decide +kernel
theorem hi_X5_cell_X1 : ∀ w ∈ wsX10, w ∈ wsX5_cell := by decide +kernel
theorem hl_X5_cell_64 : Cond.fieldLink RX5 64 RX1 (TX1 0).2.1 (TX1 0).2.2.1 ∈ wsX5_cell := by decide +kernel
theorem hy_X5_cellAt_S : yX5_cellAt.cls ≠ "java/lang/invoke/MethodHandle" ∧ yX5_cellAt.cls ≠ "java/lang/invoke/VarHandle" ∧ (parseMethodDescriptor yX5_cellAt.desc).map (fun d => d.parameters.length) = some 2 := by decide +kernel
theorem hy_X0_valueOf_V : yX0_valueOf.cls = RX0 ∧ yX0_valueOf.cls ≠ "java/lang/invoke/MethodHandle" ∧ yX0_valueOf.cls ≠ "java/lang/invoke/VarHandle" ∧ (parseMethodDescriptor yX0_valueOf.desc).map (fun d => d.parameters.length) = some 2 := by decide +kernel
set_option maxRecDepth 100000 in
set_option maxHeartbeats 4000000 in
/-- X5_cell -/
theorem c_X5_cell (l : Launch) (G : va_G) (cI cZ cT : ClassId) (o : Nat) (S : zS) (x y k : Nat) (hx : x < 12) (hy : y < 12) (hk : k < 8) : zI l G cI cZ cT o yX5_cell wsX5_cell { frames := 1, cells := 0, slots := 0, locals := 22 } [.ref (o + 0), .int (nI x), .int (nI y), .int (nI k)] S (fun r u => r = s_valueOf S 0 (12 * y + x) k ∧ u = S) := by
  refine z_ofI (cc := cX5_cell) (maxL := 4) (by decide) rfl (by simp [lg_sl, Value.category]) ?_
  intro p9 e9 s9 m9 a9 b9 h9 c9 X
  refine v_lo [0, 1, 2, 3] (lo' := [(0, .ref (o + 0)), (1, .int (nI x)), (2, .int (nI y)), (3, .int (nI k))]) rfl ?_
  refine v_iload_n X 1 dX5_cell_0 rfl rfl ?_
  refine v_iload_n X 2 dX5_cell_1 rfl rfl ?_
  refine v_callSIf X [.int (nI x), .int (nI y)] (c_X5_isInside l G cI cZ cT o S x y (by omega) (by omega)) 2 rfl gX5_cell_X5_isInside rfl ⟨rfl, rfl⟩ hy_X5_isInside_S ⟨Nat.le_of_ble_eq_true rfl, Nat.le_of_ble_eq_true rfl⟩ rfl (Nat.le_of_ble_eq_true rfl) dX5_cell_2 ?_
  refine v_if_eq X (tgt := 18) dX5_cell_5 (by decide) (fun q => absurd q (by decide)) (fun _ => ?_)
  refine v_iload_n X 3 dX5_cell_8 rfl rfl ?_
  refine v_if_lt X (tgt := 18) dX5_cell_9 (by decide) (fun q => absurd q (nI_pos (by omega))) (fun _ => ?_)
  refine v_iload_n X 3 dX5_cell_12 rfl rfl ?_
  refine v_bipush (v := 8) X (by decide) dX5_cell_13 ?_
  refine v_ncmp_lt X k 8 rfl rfl (by omega) (by omega) (tgt := 28) dX5_cell_15 (by decide) (fun c_15 => ?_) (fun c_15 => ?_)
  ·
    refine v_aload_n X 0 dX5_cell_28 rfl rfl ?_
    refine v_getX X 3 (by decide) hi_X5_cell_X5 hl_X5_cell_27 rfl (v := .ref (o + pS 0)) rfl dX5_cell_29 ?_
    refine v_getS X (by omega) 0 (by decide) hi_X5_cell_X1 hl_X5_cell_64 rfl (v := .ref (o + pG 0)) rfl dX5_cell_32 ?_
    refine v_iload_n X 1 dX5_cell_35 rfl rfl ?_
    refine v_iload_n X 2 dX5_cell_36 rfl rfl ?_
    refine v_callSIf X [.int (nI x), .int (nI y)] (c_X5_cellAt l G cI cZ cT o S x y (by omega) (by omega)) 2 rfl gX5_cell_X5_cellAt rfl ⟨rfl, rfl⟩ hy_X5_cellAt_S ⟨Nat.le_of_ble_eq_true rfl, Nat.le_of_ble_eq_true rfl⟩ rfl (Nat.le_of_ble_eq_true rfl) dX5_cell_37 ?_
    refine v_iload_n X 3 dX5_cell_40 rfl rfl ?_
    refine v_callVIf X [.int (nI (12 * y + x)), .int (nI k)] (pG 0) (pG_lt (by omega)) (c_X0_valueOf l G cI cZ cT o S 0 (12 * y + x) k (by omega) (by omega) (by omega)) (zc_G cI cZ cT o _ (by omega)) (C := RX0) (T := TX0) (N := 12) rfl 2 rfl gX5_cell_X0_valueOf rfl ⟨rfl, rfl⟩ hy_X0_valueOf_V ⟨Nat.le_of_ble_eq_true rfl, Nat.le_of_ble_eq_true rfl⟩ rfl (Nat.le_of_ble_eq_true rfl) dX5_cell_41 ?_
    exact v_iret X dX5_cell_44 (by exact ⟨rfl, rfl⟩)
  ·
    exact absurd c_15 (by omega)
def s_feed (S : zS) (L : Nat) (a b c d e : Int32) : zS := s_app (s_app (s_app (s_app (s_app S L a 4) (L + 4) b 4) (L + 4 + 4) c 4) (L + 4 + 4 + 4) d 4) (L + 4 + 4 + 4 + 4) e 4
theorem hi_X5_feed_X5 : ∀ w ∈ wsX50, w ∈ wsX5_feed := by decide +kernel
theorem hl_X5_feed_10 : Cond.fieldLink RX5 10 RX5 (TX5 0).2.1 (TX5 0).2.2.1 ∈ wsX5_feed := by decide +kernel
theorem hi_X5_feed_X2 : ∀ w ∈ wsX20, w ∈ wsX5_feed := by decide +kernel
theorem hl_X5_feed_41 : Cond.fieldLink RX5 41 RX2 (TX2 1).2.1 (TX2 1).2.2.1 ∈ wsX5_feed := by decide +kernel
theorem hy_X2_append_V : yX2_append.cls = RX2 ∧ yX2_append.cls ≠ "java/lang/invoke/MethodHandle" ∧ yX2_append.cls ≠ "java/lang/invoke/VarHandle" ∧ (parseMethodDescriptor yX2_append.desc).map (fun d => d.parameters.length) = some 1 := by decide +kernel
set_option maxRecDepth 100000 in
set_option maxHeartbeats 4000000 in
/-- X5_feed -/
theorem c_X5_feed (l : Launch) (G : va_G) (cI cZ cT : ClassId) (o : Nat) (S : zS) (L : Nat) (a b c d e : Int32) (hL : L + 20 ≤ 200) (eL : S 2 1 0 = nI L) : zI l G cI cZ cT o yX5_feed wsX5_feed { frames := 1, cells := 0, slots := 0, locals := 22 } [.ref (o + 0), .int a, .int b, .int c, .int d, .int e] S (fun r u => r = nI (L + 20) ∧ u = s_feed S L a b c d e) := by
  refine z_ofI (cc := cX5_feed) (maxL := 6) (by decide) rfl (by simp [lg_sl, Value.category]) ?_
  intro p9 e9 s9 m9 a9 b9 h9 c9 X
  refine v_lo [0, 1, 2, 3, 4, 5] (lo' := [(0, .ref (o + 0)), (1, .int a), (2, .int b), (3, .int c), (4, .int d), (5, .int e)]) rfl ?_
  refine v_aload_n X 0 dX5_feed_0 rfl rfl ?_
  refine v_getX X 0 (by decide) hi_X5_feed_X5 hl_X5_feed_10 rfl (v := .ref (o + 1)) rfl dX5_feed_1 ?_
  refine v_getP X 1 (by decide) hi_X5_feed_X2 hl_X5_feed_41 rfl (v := .int (S 2 1 0)) rfl dX5_feed_4 ?_
  refine v_top (y := nI L) (eL) ?_
  refine v_bipush (v := 20) X (by decide) dX5_feed_7 ?_
  refine v_iadd X dX5_feed_9 ?_
  refine v_top (y := nI (L + 20)) (nI_add L 20) ?_
  refine v_sipush (v := 200) X (by decide) dX5_feed_10 ?_
  refine v_ncmp_le X (L + 20) 200 rfl rfl (by omega) (by omega) (tgt := 26) dX5_feed_13 (by decide) (fun c_13 => ?_) (fun c_13 => ?_)
  ·
    refine v_aload_n X 0 dX5_feed_26 rfl rfl ?_
    refine v_getX X 0 (by decide) hi_X5_feed_X5 hl_X5_feed_10 rfl (v := .ref (o + 1)) rfl dX5_feed_27 ?_
    refine v_iload_n X 1 dX5_feed_30 rfl rfl ?_
    refine v_callVUf X [.int a] (1) (by decide) (c_X2_append l G cI cZ cT o S L a (by omega) (eL)) (zc_P cI cZ cT o _) (C := RX2) (T := TX2) (N := 2) rfl 1 rfl gX5_feed_X2_append rfl ⟨rfl, rfl⟩ hy_X2_append_V ⟨Nat.le_of_ble_eq_true rfl, Nat.le_of_ble_eq_true rfl⟩ rfl (Nat.le_of_ble_eq_true rfl) dX5_feed_31 ?_
    refine v_aload_n X 0 dX5_feed_34 rfl rfl ?_
    refine v_getX X 0 (by decide) hi_X5_feed_X5 hl_X5_feed_10 rfl (v := .ref (o + 1)) rfl dX5_feed_35 ?_
    refine v_iload_n X 2 dX5_feed_38 rfl rfl ?_
    refine v_callVUf X [.int b] (1) (by decide) (c_X2_append l G cI cZ cT o (s_app S L a 4) (L + 4) b (by omega) (app_len a (eL) 4)) (zc_P cI cZ cT o _) (C := RX2) (T := TX2) (N := 2) rfl 1 rfl gX5_feed_X2_append rfl ⟨rfl, rfl⟩ hy_X2_append_V ⟨Nat.le_of_ble_eq_true rfl, Nat.le_of_ble_eq_true rfl⟩ rfl (Nat.le_of_ble_eq_true rfl) dX5_feed_39 ?_
    refine v_aload_n X 0 dX5_feed_42 rfl rfl ?_
    refine v_getX X 0 (by decide) hi_X5_feed_X5 hl_X5_feed_10 rfl (v := .ref (o + 1)) rfl dX5_feed_43 ?_
    refine v_iload_n X 3 dX5_feed_46 rfl rfl ?_
    refine v_callVUf X [.int c] (1) (by decide) (c_X2_append l G cI cZ cT o (s_app (s_app S L a 4) (L + 4) b 4) (L + 4 + 4) c (by omega) (app_len b (app_len a (eL) 4) 4)) (zc_P cI cZ cT o _) (C := RX2) (T := TX2) (N := 2) rfl 1 rfl gX5_feed_X2_append rfl ⟨rfl, rfl⟩ hy_X2_append_V ⟨Nat.le_of_ble_eq_true rfl, Nat.le_of_ble_eq_true rfl⟩ rfl (Nat.le_of_ble_eq_true rfl) dX5_feed_47 ?_
    refine v_aload_n X 0 dX5_feed_50 rfl rfl ?_
    refine v_getX X 0 (by decide) hi_X5_feed_X5 hl_X5_feed_10 rfl (v := .ref (o + 1)) rfl dX5_feed_51 ?_
    refine v_iload X 4 dX5_feed_54 rfl ?_
    refine v_callVUf X [.int d] (1) (by decide) (c_X2_append l G cI cZ cT o (s_app (s_app (s_app S L a 4) (L + 4) b 4) (L + 4 + 4) c 4) (L + 4 + 4 + 4) d (by omega) (app_len c (app_len b (app_len a (eL) 4) 4) 4)) (zc_P cI cZ cT o _) (C := RX2) (T := TX2) (N := 2) rfl 1 rfl gX5_feed_X2_append rfl ⟨rfl, rfl⟩ hy_X2_append_V ⟨Nat.le_of_ble_eq_true rfl, Nat.le_of_ble_eq_true rfl⟩ rfl (Nat.le_of_ble_eq_true rfl) dX5_feed_56 ?_
    refine v_aload_n X 0 dX5_feed_59 rfl rfl ?_
    refine v_getX X 0 (by decide) hi_X5_feed_X5 hl_X5_feed_10 rfl (v := .ref (o + 1)) rfl dX5_feed_60 ?_
    refine v_iload X 5 dX5_feed_63 rfl ?_
    refine v_callVUf X [.int e] (1) (by decide) (c_X2_append l G cI cZ cT o (s_app (s_app (s_app (s_app S L a 4) (L + 4) b 4) (L + 4 + 4) c 4) (L + 4 + 4 + 4) d 4) (L + 4 + 4 + 4 + 4) e (by omega) (app_len d (app_len c (app_len b (app_len a (eL) 4) 4) 4) 4)) (zc_P cI cZ cT o _) (C := RX2) (T := TX2) (N := 2) rfl 1 rfl gX5_feed_X2_append rfl ⟨rfl, rfl⟩ hy_X2_append_V ⟨Nat.le_of_ble_eq_true rfl, Nat.le_of_ble_eq_true rfl⟩ rfl (Nat.le_of_ble_eq_true rfl) dX5_feed_65 ?_
    refine v_aload_n X 0 dX5_feed_68 rfl rfl ?_
    refine v_getX X 0 (by decide) hi_X5_feed_X5 hl_X5_feed_10 rfl (v := .ref (o + 1)) rfl dX5_feed_69 ?_
    refine v_getP X 1 (by decide) hi_X5_feed_X2 hl_X5_feed_41 rfl (v := .int ((s_app (s_app (s_app (s_app (s_app S L a 4) (L + 4) b 4) (L + 4 + 4) c 4) (L + 4 + 4 + 4) d 4) (L + 4 + 4 + 4 + 4) e 4) 2 1 0)) rfl dX5_feed_72 ?_
    refine v_top (y := nI (L + 4 + 4 + 4 + 4 + 4)) (app_len e (app_len d (app_len c (app_len b (app_len a (eL) 4) 4) 4) 4) 4) ?_
    exact v_iret X dX5_feed_75 (by exact ⟨rfl, rfl⟩)
  ·
    exact absurd c_13 (by omega)
theorem hi_X5_trim_X5 : ∀ w ∈ wsX50, w ∈ wsX5_trim := by decide +kernel
theorem hl_X5_trim_10 : Cond.fieldLink RX5 10 RX5 (TX5 0).2.1 (TX5 0).2.2.1 ∈ wsX5_trim := by decide +kernel
theorem hi_X5_trim_X2 : ∀ w ∈ wsX20, w ∈ wsX5_trim := by decide +kernel
theorem hl_X5_trim_41 : Cond.fieldLink RX5 41 RX2 (TX2 1).2.1 (TX2 1).2.2.1 ∈ wsX5_trim := by decide +kernel
set_option maxRecDepth 100000 in
set_option maxHeartbeats 4000000 in
/-- X5_trim -/
theorem c_X5_trim (l : Launch) (G : va_G) (cI cZ cT : ClassId) (o : Nat) (S : zS) (L q : Nat) (hq : q ≤ L) (hL : L ≤ 200) (eL : S 2 1 0 = nI L) : zI l G cI cZ cT o yX5_trim wsX5_trim { frames := 0, cells := 0, slots := 0, locals := 0 } [.ref (o + 0), .int (nI q)] S (fun r u => r = nI q ∧ u = z_up S 2 1 0 (nI q)) := by
  refine z_ofI (cc := cX5_trim) (maxL := 2) (by decide) rfl (by simp [lg_sl, Value.category]) ?_
  intro p9 e9 s9 m9 a9 b9 h9 c9 X
  refine v_lo [0, 1] (lo' := [(0, .ref (o + 0)), (1, .int (nI q))]) rfl ?_
  refine v_iload_n X 1 dX5_trim_0 rfl rfl ?_
  refine v_if_lt X (tgt := 15) dX5_trim_1 (by decide) (fun q => absurd q (nI_pos (by omega))) (fun _ => ?_)
  refine v_iload_n X 1 dX5_trim_4 rfl rfl ?_
  refine v_aload_n X 0 dX5_trim_5 rfl rfl ?_
  refine v_getX X 0 (by decide) hi_X5_trim_X5 hl_X5_trim_10 rfl (v := .ref (o + 1)) rfl dX5_trim_6 ?_
  refine v_getP X 1 (by decide) hi_X5_trim_X2 hl_X5_trim_41 rfl (v := .int (S 2 1 0)) rfl dX5_trim_9 ?_
  refine v_top (y := nI L) (eL) ?_
  refine v_ncmp_le X q L rfl rfl (by omega) (by omega) (tgt := 25) dX5_trim_12 (by decide) (fun c_12 => ?_) (fun c_12 => ?_)
  ·
    refine v_aload_n X 0 dX5_trim_25 rfl rfl ?_
    refine v_getX X 0 (by decide) hi_X5_trim_X5 hl_X5_trim_10 rfl (v := .ref (o + 1)) rfl dX5_trim_26 ?_
    refine v_iload_n X 1 dX5_trim_29 rfl rfl ?_
    refine v_putP1 X hi_X5_trim_X2 hl_X5_trim_41 dX5_trim_30 ?_
    refine v_iload_n X 1 dX5_trim_33 rfl rfl ?_
    exact v_iret X dX5_trim_34 (by exact ⟨rfl, rfl⟩)
  ·
    exact absurd c_12 (by omega)
theorem hi_X5_map_X5 : ∀ w ∈ wsX50, w ∈ wsX5_map := by decide +kernel
theorem hl_X5_map_10 : Cond.fieldLink RX5 10 RX5 (TX5 0).2.1 (TX5 0).2.2.1 ∈ wsX5_map := by decide +kernel
theorem hy_X2_placeOfError_V : yX2_placeOfError.cls = RX2 ∧ yX2_placeOfError.cls ≠ "java/lang/invoke/MethodHandle" ∧ yX2_placeOfError.cls ≠ "java/lang/invoke/VarHandle" ∧ (parseMethodDescriptor yX2_placeOfError.desc).map (fun d => d.parameters.length) = some 0 := by decide +kernel
theorem hi_X5_map_X2 : ∀ w ∈ wsX20, w ∈ wsX5_map := by decide +kernel
theorem hl_X5_map_41 : Cond.fieldLink RX5 41 RX2 (TX2 1).2.1 (TX2 1).2.2.1 ∈ wsX5_map := by decide +kernel
theorem hl_X5_map_27 : Cond.fieldLink RX5 27 RX5 (TX5 3).2.1 (TX5 3).2.2.1 ∈ wsX5_map := by decide +kernel
theorem hi_X5_map_X1 : ∀ w ∈ wsX10, w ∈ wsX5_map := by decide +kernel
theorem hl_X5_map_64 : Cond.fieldLink RX5 64 RX1 (TX1 0).2.1 (TX1 0).2.2.1 ∈ wsX5_map := by decide +kernel
theorem hl_X5_map_68 : Cond.fieldLink RX5 68 RX2 (TX2 0).2.1 (TX2 0).2.2.1 ∈ wsX5_map := by decide +kernel
theorem hy_X0_readMap_V : yX0_readMap.cls = RX0 ∧ yX0_readMap.cls ≠ "java/lang/invoke/MethodHandle" ∧ yX0_readMap.cls ≠ "java/lang/invoke/VarHandle" ∧ (parseMethodDescriptor yX0_readMap.desc).map (fun d => d.parameters.length) = some 1 := by decide +kernel
theorem hl_X5_map_77 : Cond.fieldLink RX5 77 RX1 (TX1 2).2.1 (TX1 2).2.2.1 ∈ wsX5_map := by decide +kernel
set_option maxRecDepth 100000 in
set_option maxHeartbeats 4000000 in
/-- X5_map -/
theorem c_X5_map (l : Launch) (G : va_G) (cI cZ cT : ClassId) (o : Nat) (S : zS) (L : Nat) (hL : L ≤ 200) (eL : S 2 1 0 = nI L) : zI l G cI cZ cT o yX5_map wsX5_map { frames := 4, cells := 0, slots := 0, locals := 87 } [.ref (o + 0)] S (fun r u => r = s_err S L ∧ u = s_map S L) := by
  refine z_ofI (cc := cX5_map) (maxL := 2) (by decide) rfl (by simp [lg_sl, Value.category]) ?_
  intro p9 e9 s9 m9 a9 b9 h9 c9 X
  refine v_lo [0] (lo' := [(0, .ref (o + 0))]) rfl ?_
  refine v_aload_n X 0 dX5_map_0 rfl rfl ?_
  refine v_getX X 0 (by decide) hi_X5_map_X5 hl_X5_map_10 rfl (v := .ref (o + 1)) rfl dX5_map_1 ?_
  refine v_callVIf X [] (1) (by decide) (c_X2_placeOfError l G cI cZ cT o S L (by omega) (eL)) (zc_P cI cZ cT o _) (C := RX2) (T := TX2) (N := 2) rfl 0 rfl gX5_map_X2_placeOfError rfl ⟨rfl, rfl⟩ hy_X2_placeOfError_V ⟨Nat.le_of_ble_eq_true rfl, Nat.le_of_ble_eq_true rfl⟩ rfl (Nat.le_of_ble_eq_true rfl) dX5_map_4 ?_
  refine v_istore_n (lo' := [(1, .int (s_err S L)), (0, .ref (o + 0))]) X dX5_map_7 rfl (by decide) rfl ?_
  refine v_iload_n X 0 dX5_map_8 rfl rfl ?_
  refine v_if_ge X (tgt := 37) dX5_map_9 (by decide) (fun c_9 => ?_) (fun c_9 => ?_)
  ·
    refine v_aload_n X 1 dX5_map_37 rfl rfl ?_
    refine v_getX X 0 (by decide) hi_X5_map_X5 hl_X5_map_10 rfl (v := .ref (o + 1)) rfl dX5_map_38 ?_
    refine v_iconst (v := 0) X (by decide) dX5_map_41 ?_
    refine v_putP1 X hi_X5_map_X2 hl_X5_map_41 dX5_map_42 ?_
    refine v_iload_n X 0 dX5_map_45 rfl rfl ?_
    exact v_iret X dX5_map_46 (by simp [s_map, c_9])
  ·
    refine v_aload_n X 1 dX5_map_12 rfl rfl ?_
    refine v_getX X 3 (by decide) hi_X5_map_X5 hl_X5_map_27 rfl (v := .ref (o + pS 0)) rfl dX5_map_13 ?_
    refine v_getS X (by omega) 0 (by decide) hi_X5_map_X1 hl_X5_map_64 rfl (v := .ref (o + pG 0)) rfl dX5_map_16 ?_
    refine v_aload_n X 1 dX5_map_19 rfl rfl ?_
    refine v_getX X 0 (by decide) hi_X5_map_X5 hl_X5_map_10 rfl (v := .ref (o + 1)) rfl dX5_map_20 ?_
    refine v_getP X 0 (by decide) hi_X5_map_X2 hl_X5_map_68 rfl (v := .ref (o + 2)) rfl dX5_map_23 ?_
    refine v_callVUf X [.ref (o + 2)] (pG 0) (pG_lt (by omega)) (c_X0_readMap l G cI cZ cT o S 0 (by omega)) (zc_G cI cZ cT o _ (by omega)) (C := RX0) (T := TX0) (N := 12) rfl 1 rfl gX5_map_X0_readMap rfl ⟨rfl, rfl⟩ hy_X0_readMap_V ⟨Nat.le_of_ble_eq_true rfl, Nat.le_of_ble_eq_true rfl⟩ rfl (Nat.le_of_ble_eq_true rfl) dX5_map_26 ?_
    refine v_aload_n X 1 dX5_map_29 rfl rfl ?_
    refine v_getX X 3 (by decide) hi_X5_map_X5 hl_X5_map_27 rfl (v := .ref (o + pS 0)) rfl dX5_map_30 ?_
    refine v_iconst (v := 0) X (by decide) dX5_map_33 ?_
    refine v_putS2 X (by omega) hi_X5_map_X1 hl_X5_map_77 dX5_map_34 ?_
    refine v_aload_n X 1 dX5_map_37 rfl rfl ?_
    refine v_getX X 0 (by decide) hi_X5_map_X5 hl_X5_map_10 rfl (v := .ref (o + 1)) rfl dX5_map_38 ?_
    refine v_iconst (v := 0) X (by decide) dX5_map_41 ?_
    refine v_putP1 X hi_X5_map_X2 hl_X5_map_41 dX5_map_42 ?_
    refine v_iload_n X 0 dX5_map_45 rfl rfl ?_
    exact v_iret X dX5_map_46 (by simp [s_map, c_9])
theorem hi_X5_openAt_X5 : ∀ w ∈ wsX50, w ∈ wsX5_openAt := by decide +kernel
theorem hl_X5_openAt_27 : Cond.fieldLink RX5 27 RX5 (TX5 3).2.1 (TX5 3).2.2.1 ∈ wsX5_openAt := by decide +kernel
theorem hi_X5_openAt_X1 : ∀ w ∈ wsX10, w ∈ wsX5_openAt := by decide +kernel
theorem hl_X5_openAt_64 : Cond.fieldLink RX5 64 RX1 (TX1 0).2.1 (TX1 0).2.2.1 ∈ wsX5_openAt := by decide +kernel
theorem hi_X5_openAt_X0 : ∀ w ∈ wsX00, w ∈ wsX5_openAt := by decide +kernel
theorem hl_X5_openAt_105 : Cond.fieldLink RX5 105 RX0 (TX0 0).2.1 (TX0 0).2.2.1 ∈ wsX5_openAt := by decide +kernel
set_option maxRecDepth 100000 in
set_option maxHeartbeats 4000000 in
/-- X5_openAt -/
theorem c_X5_openAt (l : Launch) (G : va_G) (cI cZ cT : ClassId) (o : Nat) (S : zS) (x y : Nat) (hx : x < 12) (hy : y < 12) (h1 : s_isRock S 0 (12 * y + x) = 0) (h2 : s_isTunnel S 0 (12 * y + x) = 0) : zI l G cI cZ cT o yX5_openAt wsX5_openAt { frames := 2, cells := 0, slots := 0, locals := 42 } [.ref (o + 0), .int (nI x), .int (nI y)] S (fun r u => r = s_openTunnel S 0 (12 * y + x) 0 0 (12 * y + x) ∧ u = s_openTunnel S 0 (12 * y + x)) := by
  refine z_ofI (cc := cX5_openAt) (maxL := 5) (by decide) rfl (by simp [lg_sl, Value.category]) ?_
  intro p9 e9 s9 m9 a9 b9 h9 c9 X
  refine v_lo [0, 1, 2] (lo' := [(0, .ref (o + 0)), (1, .int (nI x)), (2, .int (nI y))]) rfl ?_
  refine v_iload_n X 1 dX5_openAt_0 rfl rfl ?_
  refine v_iload_n X 2 dX5_openAt_1 rfl rfl ?_
  refine v_callSIf X [.int (nI x), .int (nI y)] (c_X5_isInside l G cI cZ cT o S x y (by omega) (by omega)) 2 rfl gX5_openAt_X5_isInside rfl ⟨rfl, rfl⟩ hy_X5_isInside_S ⟨Nat.le_of_ble_eq_true rfl, Nat.le_of_ble_eq_true rfl⟩ rfl (Nat.le_of_ble_eq_true rfl) dX5_openAt_2 ?_
  refine v_if_ne X (tgt := 18) dX5_openAt_5 (by decide) (fun _ => ?_) (fun q => absurd q (by decide))
  refine v_iload_n X 1 dX5_openAt_18 rfl rfl ?_
  refine v_iload_n X 2 dX5_openAt_19 rfl rfl ?_
  refine v_callSIf X [.int (nI x), .int (nI y)] (c_X5_cellAt l G cI cZ cT o S x y (by omega) (by omega)) 2 rfl gX5_openAt_X5_cellAt rfl ⟨rfl, rfl⟩ hy_X5_cellAt_S ⟨Nat.le_of_ble_eq_true rfl, Nat.le_of_ble_eq_true rfl⟩ rfl (Nat.le_of_ble_eq_true rfl) dX5_openAt_20 ?_
  refine v_istore_n (lo' := [(3, .int (nI (12 * y + x))), (0, .ref (o + 0)), (1, .int (nI x)), (2, .int (nI y))]) X dX5_openAt_23 rfl (by decide) rfl ?_
  refine v_aload_n X 1 dX5_openAt_24 rfl rfl ?_
  refine v_getX X 3 (by decide) hi_X5_openAt_X5 hl_X5_openAt_27 rfl (v := .ref (o + pS 0)) rfl dX5_openAt_25 ?_
  refine v_getS X (by omega) 0 (by decide) hi_X5_openAt_X1 hl_X5_openAt_64 rfl (v := .ref (o + pG 0)) rfl dX5_openAt_28 ?_
  refine v_astore (lo' := [(4, .ref (o + pG 0)), (3, .int (nI (12 * y + x))), (0, .ref (o + 0)), (1, .int (nI x)), (2, .int (nI y))]) X dX5_openAt_31 (by decide) rfl ?_
  refine v_aload X 0 dX5_openAt_33 rfl ?_
  refine v_iload_n X 1 dX5_openAt_35 rfl rfl ?_
  refine v_callVIf X [.int (nI (12 * y + x))] (pG 0) (pG_lt (by omega)) (c_X0_isRock l G cI cZ cT o S 0 (12 * y + x) (by omega) (by omega)) (zc_G cI cZ cT o _ (by omega)) (C := RX0) (T := TX0) (N := 12) rfl 1 rfl gX5_openAt_X0_isRock rfl ⟨rfl, rfl⟩ hy_X0_isRock_V ⟨Nat.le_of_ble_eq_true rfl, Nat.le_of_ble_eq_true rfl⟩ rfl (Nat.le_of_ble_eq_true rfl) dX5_openAt_36 ?_
  refine v_top (y := 0) (h1) ?_
  refine v_if_ne X (tgt := 51) dX5_openAt_39 (by decide) (fun q => absurd q (by decide)) (fun _ => ?_)
  refine v_aload X 0 dX5_openAt_42 rfl ?_
  refine v_iload_n X 1 dX5_openAt_44 rfl rfl ?_
  refine v_callVIf X [.int (nI (12 * y + x))] (pG 0) (pG_lt (by omega)) (c_X0_isTunnel l G cI cZ cT o S 0 (12 * y + x) (by omega) (by omega)) (zc_G cI cZ cT o _ (by omega)) (C := RX0) (T := TX0) (N := 12) rfl 1 rfl gX5_openAt_X0_isTunnel rfl ⟨rfl, rfl⟩ hy_X0_isTunnel_V ⟨Nat.le_of_ble_eq_true rfl, Nat.le_of_ble_eq_true rfl⟩ rfl (Nat.le_of_ble_eq_true rfl) dX5_openAt_45 ?_
  refine v_top (y := 0) (h2) ?_
  refine v_if_eq X (tgt := 61) dX5_openAt_48 (by decide) (fun _ => ?_) (fun q => absurd q (by decide))
  refine v_aload X 0 dX5_openAt_61 rfl ?_
  refine v_iload_n X 1 dX5_openAt_63 rfl rfl ?_
  refine v_callVUf X [.int (nI (12 * y + x))] (pG 0) (pG_lt (by omega)) (c_X0_openTunnel l G cI cZ cT o S 0 (12 * y + x) (by omega) (by omega)) (zc_G cI cZ cT o _ (by omega)) (C := RX0) (T := TX0) (N := 12) rfl 1 rfl gX5_openAt_X0_openTunnel rfl ⟨rfl, rfl⟩ hy_X0_openTunnel_V ⟨Nat.le_of_ble_eq_true rfl, Nat.le_of_ble_eq_true rfl⟩ rfl (Nat.le_of_ble_eq_true rfl) dX5_openAt_64 ?_
  refine v_aload X 0 dX5_openAt_67 rfl ?_
  refine v_getG X (by omega) 0 (by decide) hi_X5_openAt_X0 hl_X5_openAt_105 rfl (v := .ref (o + pA 0 0)) rfl dX5_openAt_69 ?_
  refine v_iload_n X 1 dX5_openAt_72 rfl rfl ?_
  refine v_ialdA X (w := 0) (by omega) 0 (by omega) (12 * y + x) rfl (by omega) dX5_openAt_73 ?_
  exact v_iret X dX5_openAt_74 (by exact ⟨rfl, rfl⟩)
theorem hi_X5_come_X5 : ∀ w ∈ wsX50, w ∈ wsX5_come := by decide +kernel
theorem hl_X5_come_27 : Cond.fieldLink RX5 27 RX5 (TX5 3).2.1 (TX5 3).2.2.1 ∈ wsX5_come := by decide +kernel
theorem hi_X5_come_X1 : ∀ w ∈ wsX10, w ∈ wsX5_come := by decide +kernel
theorem hl_X5_come_77 : Cond.fieldLink RX5 77 RX1 (TX1 2).2.1 (TX1 2).2.2.1 ∈ wsX5_come := by decide +kernel
theorem hl_X5_come_64 : Cond.fieldLink RX5 64 RX1 (TX1 0).2.1 (TX1 0).2.2.1 ∈ wsX5_come := by decide +kernel
theorem hl_X5_come_117 : Cond.fieldLink RX5 117 RX1 (TX1 1).2.1 (TX1 1).2.2.1 ∈ wsX5_come := by decide +kernel
theorem hy_X3_start_V : yX3_start.cls = RX3 ∧ yX3_start.cls ≠ "java/lang/invoke/MethodHandle" ∧ yX3_start.cls ≠ "java/lang/invoke/VarHandle" ∧ (parseMethodDescriptor yX3_start.desc).map (fun d => d.parameters.length) = some 4 := by decide +kernel
set_option maxRecDepth 100000 in
set_option maxHeartbeats 4000000 in
/-- X5_come -/
theorem c_X5_come (l : Launch) (G : va_G) (cI cZ cT : ClassId) (o : Nat) (S : zS) (n sd x y hh kk : Nat) (hok : z_ok S 0 n) (hn : n < 8) (hsd : sd < 2) (hx : x < 12) (hy : y < 12) (hh1 : 1 ≤ hh) (hh9 : hh ≤ 9) (hk1 : 1 ≤ kk) (hk5 : kk ≤ 5) (ht : s_isTunnel S 0 (12 * y + x) = 1) : zI l G cI cZ cT o yX5_come wsX5_come { frames := 2, cells := 0, slots := 0, locals := 44 } [.ref (o + 0), .int (nI sd), .int (nI x), .int (nI y), .int (nI hh), .int (nI kk)] S (fun r u => r = nI n ∧ u = s_come S n (nI sd) (nI (12 * y + x)) (nI hh) (nI kk)) := by
  refine z_ofI (cc := cX5_come) (maxL := 8) (by decide) rfl (by simp [lg_sl, Value.category]) ?_
  intro p9 e9 s9 m9 a9 b9 h9 c9 X
  refine v_lo [0, 1, 2, 3, 4, 5] (lo' := [(0, .ref (o + 0)), (1, .int (nI sd)), (2, .int (nI x)), (3, .int (nI y)), (4, .int (nI hh)), (5, .int (nI kk))]) rfl ?_
  refine v_iload_n X 2 dX5_come_0 rfl rfl ?_
  refine v_iload_n X 3 dX5_come_1 rfl rfl ?_
  refine v_callSIf X [.int (nI x), .int (nI y)] (c_X5_isInside l G cI cZ cT o S x y (by omega) (by omega)) 2 rfl gX5_come_X5_isInside rfl ⟨rfl, rfl⟩ hy_X5_isInside_S ⟨Nat.le_of_ble_eq_true rfl, Nat.le_of_ble_eq_true rfl⟩ rfl (Nat.le_of_ble_eq_true rfl) dX5_come_2 ?_
  refine v_if_ne X (tgt := 18) dX5_come_5 (by decide) (fun _ => ?_) (fun q => absurd q (by decide))
  refine v_iload_n X 1 dX5_come_18 rfl rfl ?_
  refine v_if_lt X (tgt := 52) dX5_come_19 (by decide) (fun q => absurd q (nI_pos (by omega))) (fun _ => ?_)
  refine v_iload_n X 1 dX5_come_22 rfl rfl ?_
  refine v_iconst (v := 1) X (by decide) dX5_come_23 ?_
  refine v_ncmp_gt X sd 1 rfl rfl (by omega) (by omega) (tgt := 52) dX5_come_24 (by decide) (fun c_24 => ?_) (fun c_24 => ?_)
  ·
    exact absurd c_24 (by omega)
  ·
    refine v_iload X 4 dX5_come_27 rfl ?_
    refine v_iconst (v := 1) X (by decide) dX5_come_29 ?_
    refine v_ncmp_lt X hh 1 rfl rfl (by omega) (by omega) (tgt := 52) dX5_come_30 (by decide) (fun c_30 => ?_) (fun c_30 => ?_)
    ·
      exact absurd c_30 (by omega)
    ·
      refine v_iload X 4 dX5_come_33 rfl ?_
      refine v_bipush (v := 9) X (by decide) dX5_come_35 ?_
      refine v_ncmp_gt X hh 9 rfl rfl (by omega) (by omega) (tgt := 52) dX5_come_37 (by decide) (fun c_37 => ?_) (fun c_37 => ?_)
      ·
        exact absurd c_37 (by omega)
      ·
        refine v_iload X 5 dX5_come_40 rfl ?_
        refine v_iconst (v := 1) X (by decide) dX5_come_42 ?_
        refine v_ncmp_lt X kk 1 rfl rfl (by omega) (by omega) (tgt := 52) dX5_come_43 (by decide) (fun c_43 => ?_) (fun c_43 => ?_)
        ·
          exact absurd c_43 (by omega)
        ·
          refine v_iload X 5 dX5_come_46 rfl ?_
          refine v_iconst (v := 5) X (by decide) dX5_come_48 ?_
          refine v_ncmp_le X kk 5 rfl rfl (by omega) (by omega) (tgt := 62) dX5_come_49 (by decide) (fun c_49 => ?_) (fun c_49 => ?_)
          ·
            refine v_iload_n X 2 dX5_come_62 rfl rfl ?_
            refine v_iload_n X 3 dX5_come_63 rfl rfl ?_
            refine v_callSIf X [.int (nI x), .int (nI y)] (c_X5_cellAt l G cI cZ cT o S x y (by omega) (by omega)) 2 rfl gX5_come_X5_cellAt rfl ⟨rfl, rfl⟩ hy_X5_cellAt_S ⟨Nat.le_of_ble_eq_true rfl, Nat.le_of_ble_eq_true rfl⟩ rfl (Nat.le_of_ble_eq_true rfl) dX5_come_64 ?_
            refine v_istore (lo' := [(6, .int (nI (12 * y + x))), (0, .ref (o + 0)), (1, .int (nI sd)), (2, .int (nI x)), (3, .int (nI y)), (4, .int (nI hh)), (5, .int (nI kk))]) X dX5_come_67 (by decide) rfl ?_
            refine v_aload_n X 1 dX5_come_69 rfl rfl ?_
            refine v_getX X 3 (by decide) hi_X5_come_X5 hl_X5_come_27 rfl (v := .ref (o + pS 0)) rfl dX5_come_70 ?_
            refine v_getS X (by omega) 2 (by decide) hi_X5_come_X1 hl_X5_come_77 rfl (v := .int (S 0 12 0)) rfl dX5_come_73 ?_
            refine v_top (y := nI n) (hok.1) ?_
            refine v_bipush (v := 8) X (by decide) dX5_come_76 ?_
            refine v_ncmp_ge X n 8 rfl rfl (by omega) (by omega) (tgt := 96) dX5_come_78 (by decide) (fun c_78 => ?_) (fun c_78 => ?_)
            ·
              exact absurd c_78 (by omega)
            ·
              refine v_aload_n X 1 dX5_come_81 rfl rfl ?_
              refine v_getX X 3 (by decide) hi_X5_come_X5 hl_X5_come_27 rfl (v := .ref (o + pS 0)) rfl dX5_come_82 ?_
              refine v_getS X (by omega) 0 (by decide) hi_X5_come_X1 hl_X5_come_64 rfl (v := .ref (o + pG 0)) rfl dX5_come_85 ?_
              refine v_iload X 0 dX5_come_88 rfl ?_
              refine v_callVIf X [.int (nI (12 * y + x))] (pG 0) (pG_lt (by omega)) (c_X0_isTunnel l G cI cZ cT o S 0 (12 * y + x) (by omega) (by omega)) (zc_G cI cZ cT o _ (by omega)) (C := RX0) (T := TX0) (N := 12) rfl 1 rfl gX5_come_X0_isTunnel rfl ⟨rfl, rfl⟩ hy_X0_isTunnel_V ⟨Nat.le_of_ble_eq_true rfl, Nat.le_of_ble_eq_true rfl⟩ rfl (Nat.le_of_ble_eq_true rfl) dX5_come_90 ?_
              refine v_top (y := 1) (ht) ?_
              refine v_if_ne X (tgt := 106) dX5_come_93 (by decide) (fun _ => ?_) (fun q => absurd q (by decide))
              refine v_aload_n X 1 dX5_come_106 rfl rfl ?_
              refine v_getX X 3 (by decide) hi_X5_come_X5 hl_X5_come_27 rfl (v := .ref (o + pS 0)) rfl dX5_come_107 ?_
              refine v_getS X (by omega) 2 (by decide) hi_X5_come_X1 hl_X5_come_77 rfl (v := .int (S 0 12 0)) rfl dX5_come_110 ?_
              refine v_top (y := nI n) (hok.1) ?_
              refine v_istore (lo' := [(7, .int (nI n)), (6, .int (nI (12 * y + x))), (0, .ref (o + 0)), (1, .int (nI sd)), (2, .int (nI x)), (3, .int (nI y)), (4, .int (nI hh)), (5, .int (nI kk))]) X dX5_come_113 (by decide) rfl ?_
              refine v_aload_n X 2 dX5_come_115 rfl rfl ?_
              refine v_getX X 3 (by decide) hi_X5_come_X5 hl_X5_come_27 rfl (v := .ref (o + pS 0)) rfl dX5_come_116 ?_
              refine v_getS X (by omega) 1 (by decide) hi_X5_come_X1 hl_X5_come_117 rfl (v := .ref (o + pL 0)) rfl dX5_come_119 ?_
              refine v_iload X 0 dX5_come_122 rfl ?_
              refine v_aald X (w := 0) (by omega) n rfl (by omega) dX5_come_124 ?_
              refine v_iload_n X 3 dX5_come_125 rfl rfl ?_
              refine v_iload X 1 dX5_come_126 rfl ?_
              refine v_iload X 6 dX5_come_128 rfl ?_
              refine v_iload X 7 dX5_come_130 rfl ?_
              refine v_callVUf X [.int (nI sd), .int (nI (12 * y + x)), .int (nI hh), .int (nI kk)] (pT 0 n) (pT_lt (by omega) (by omega)) (c_X3_start l G cI cZ cT o S 0 n (nI sd) (nI (12 * y + x)) (nI hh) (nI kk) (by omega) (by omega)) (zc_T cI cZ cT o _ (by omega) (by omega)) (C := RX3) (T := TX3) (N := 16) rfl 4 rfl gX5_come_X3_start rfl ⟨rfl, rfl⟩ hy_X3_start_V ⟨Nat.le_of_ble_eq_true rfl, Nat.le_of_ble_eq_true rfl⟩ rfl (Nat.le_of_ble_eq_true rfl) dX5_come_132 ?_
              refine v_aload_n X 2 dX5_come_135 rfl rfl ?_
              refine v_getX X 3 (by decide) hi_X5_come_X5 hl_X5_come_27 rfl (v := .ref (o + pS 0)) rfl dX5_come_136 ?_
              refine v_dup X rfl dX5_come_139 ?_
              refine v_getS X (by omega) 2 (by decide) hi_X5_come_X1 hl_X5_come_77 rfl (v := .int ((s_start S 0 n (nI sd) (nI (12 * y + x)) (nI hh) (nI kk)) 0 12 0)) rfl dX5_come_140 ?_
              refine v_top (y := nI n) ((by unfold s_start s_begin; repeat rw [z_up_ne _ _ (by omega)]; exact hok.1)) ?_
              refine v_iconst (v := 1) X (by decide) dX5_come_143 ?_
              refine v_iadd X dX5_come_144 ?_
              refine v_top (y := nI (n + 1)) (nI_add n 1) ?_
              refine v_putS2 X (by omega) hi_X5_come_X1 hl_X5_come_77 dX5_come_145 ?_
              refine v_iload X 0 dX5_come_148 rfl ?_
              exact v_iret X dX5_come_150 (by exact ⟨rfl, rfl⟩)
          ·
            exact absurd c_49 (by omega)
theorem hi_X5_order_X5 : ∀ w ∈ wsX50, w ∈ wsX5_order := by decide +kernel
theorem hl_X5_order_27 : Cond.fieldLink RX5 27 RX5 (TX5 3).2.1 (TX5 3).2.2.1 ∈ wsX5_order := by decide +kernel
theorem hy_X1_hasTeam_V : yX1_hasTeam.cls = RX1 ∧ yX1_hasTeam.cls ≠ "java/lang/invoke/MethodHandle" ∧ yX1_hasTeam.cls ≠ "java/lang/invoke/VarHandle" ∧ (parseMethodDescriptor yX1_hasTeam.desc).map (fun d => d.parameters.length) = some 1 := by decide +kernel
theorem hi_X5_order_X1 : ∀ w ∈ wsX10, w ∈ wsX5_order := by decide +kernel
theorem hl_X5_order_117 : Cond.fieldLink RX5 117 RX1 (TX1 1).2.1 (TX1 1).2.2.1 ∈ wsX5_order := by decide +kernel
theorem hi_X5_order_X3 : ∀ w ∈ wsX30, w ∈ wsX5_order := by decide +kernel
theorem hl_X5_order_138 : Cond.fieldLink RX5 138 RX3 (TX3 12).2.1 (TX3 12).2.2.1 ∈ wsX5_order := by decide +kernel
theorem hy_X3_addOrder_V : yX3_addOrder.cls = RX3 ∧ yX3_addOrder.cls ≠ "java/lang/invoke/MethodHandle" ∧ yX3_addOrder.cls ≠ "java/lang/invoke/VarHandle" ∧ (parseMethodDescriptor yX3_addOrder.desc).map (fun d => d.parameters.length) = some 3 := by decide +kernel
set_option maxRecDepth 100000 in
set_option maxHeartbeats 4000000 in
/-- X5_order -/
theorem c_X5_order (l : Launch) (G : va_G) (cI cZ cT : ClassId) (o : Nat) (S : zS) (n t k d q m : Nat) (hok : z_ok S 0 n) (ht : t < n) (hk : k < 7) (hd : d < 4) (hq1 : 1 ≤ q) (hq : q ≤ 20) (hm : m < 12) (em : S 0 26 t = nI m) (hg : s_isGone S 0 t = 0) : zI l G cI cZ cT o yX5_order wsX5_order { frames := 1, cells := 0, slots := 0, locals := 23 } [.ref (o + 0), .int (nI t), .int (nI k), .int (nI d), .int (nI q)] S (fun r u => r = nI (m + 1) ∧ u = s_addOrder S 0 t m (nI k) (nI d) (nI q)) := by
  refine z_ofI (cc := cX5_order) (maxL := 6) (by decide) rfl (by simp [lg_sl, Value.category]) ?_
  intro p9 e9 s9 m9 a9 b9 h9 c9 X
  refine v_lo [0, 1, 2, 3, 4] (lo' := [(0, .ref (o + 0)), (1, .int (nI t)), (2, .int (nI k)), (3, .int (nI d)), (4, .int (nI q))]) rfl ?_
  have hn8 := hok.2.1
  refine v_aload_n X 0 dX5_order_0 rfl rfl ?_
  refine v_getX X 3 (by decide) hi_X5_order_X5 hl_X5_order_27 rfl (v := .ref (o + pS 0)) rfl dX5_order_1 ?_
  refine v_iload_n X 1 dX5_order_4 rfl rfl ?_
  refine v_callVIf X [.int (nI t)] (pS 0) (pS_lt (by omega)) (c_X1_hasTeam l G cI cZ cT o S 0 (nI t) (by omega)) (zc_S cI cZ cT o _ (by omega)) (C := RX1) (T := TX1) (N := 4) rfl 1 rfl gX5_order_X1_hasTeam rfl ⟨rfl, rfl⟩ hy_X1_hasTeam_V ⟨Nat.le_of_ble_eq_true rfl, Nat.le_of_ble_eq_true rfl⟩ rfl (Nat.le_of_ble_eq_true rfl) dX5_order_5 ?_
  refine v_top (y := 1) (hasTeam_1 hok (by omega)) ?_
  refine v_if_ne X (tgt := 21) dX5_order_8 (by decide) (fun _ => ?_) (fun q => absurd q (by decide))
  refine v_iload_n X 2 dX5_order_21 rfl rfl ?_
  refine v_if_lt X (tgt := 53) dX5_order_22 (by decide) (fun q => absurd q (nI_pos (by omega))) (fun _ => ?_)
  refine v_iload_n X 2 dX5_order_25 rfl rfl ?_
  refine v_bipush (v := 7) X (by decide) dX5_order_26 ?_
  refine v_ncmp_ge X k 7 rfl rfl (by omega) (by omega) (tgt := 53) dX5_order_28 (by decide) (fun c_28 => ?_) (fun c_28 => ?_)
  ·
    exact absurd c_28 (by omega)
  ·
    refine v_iload_n X 3 dX5_order_31 rfl rfl ?_
    refine v_if_lt X (tgt := 53) dX5_order_32 (by decide) (fun q => absurd q (nI_pos (by omega))) (fun _ => ?_)
    refine v_iload_n X 3 dX5_order_35 rfl rfl ?_
    refine v_iconst (v := 4) X (by decide) dX5_order_36 ?_
    refine v_ncmp_ge X d 4 rfl rfl (by omega) (by omega) (tgt := 53) dX5_order_37 (by decide) (fun c_37 => ?_) (fun c_37 => ?_)
    ·
      exact absurd c_37 (by omega)
    ·
      refine v_iload X 4 dX5_order_40 rfl ?_
      refine v_iconst (v := 1) X (by decide) dX5_order_42 ?_
      refine v_ncmp_lt X q 1 rfl rfl (by omega) (by omega) (tgt := 53) dX5_order_43 (by decide) (fun c_43 => ?_) (fun c_43 => ?_)
      ·
        exact absurd c_43 (by omega)
      ·
        refine v_iload X 4 dX5_order_46 rfl ?_
        refine v_bipush (v := 20) X (by decide) dX5_order_48 ?_
        refine v_ncmp_le X q 20 rfl rfl (by omega) (by omega) (tgt := 63) dX5_order_50 (by decide) (fun c_50 => ?_) (fun c_50 => ?_)
        ·
          refine v_aload_n X 0 dX5_order_63 rfl rfl ?_
          refine v_getX X 3 (by decide) hi_X5_order_X5 hl_X5_order_27 rfl (v := .ref (o + pS 0)) rfl dX5_order_64 ?_
          refine v_getS X (by omega) 1 (by decide) hi_X5_order_X1 hl_X5_order_117 rfl (v := .ref (o + pL 0)) rfl dX5_order_67 ?_
          refine v_iload_n X 1 dX5_order_70 rfl rfl ?_
          refine v_aald X (w := 0) (by omega) t rfl (by omega) dX5_order_71 ?_
          refine v_astore (lo' := [(5, .ref (o + pT 0 t)), (0, .ref (o + 0)), (1, .int (nI t)), (2, .int (nI k)), (3, .int (nI d)), (4, .int (nI q))]) X dX5_order_72 (by decide) rfl ?_
          refine v_aload X 0 dX5_order_74 rfl ?_
          refine v_callVIf X [] (pT 0 t) (pT_lt (by omega) (by omega)) (c_X3_isGone l G cI cZ cT o S 0 t (by omega) (by omega)) (zc_T cI cZ cT o _ (by omega) (by omega)) (C := RX3) (T := TX3) (N := 16) rfl 0 rfl gX5_order_X3_isGone rfl ⟨rfl, rfl⟩ hy_X3_isGone_V ⟨Nat.le_of_ble_eq_true rfl, Nat.le_of_ble_eq_true rfl⟩ rfl (Nat.le_of_ble_eq_true rfl) dX5_order_76 ?_
          refine v_top (y := 0) (hg) ?_
          refine v_if_ne X (tgt := 92) dX5_order_79 (by decide) (fun q => absurd q (by decide)) (fun _ => ?_)
          refine v_aload X 0 dX5_order_82 rfl ?_
          refine v_getT X (by omega) (by omega) 12 (by decide) hi_X5_order_X3 hl_X5_order_138 rfl (v := .int (S 0 26 t)) rfl dX5_order_84 ?_
          refine v_top (y := nI m) (em) ?_
          refine v_bipush (v := 12) X (by decide) dX5_order_87 ?_
          refine v_ncmp_lt X m 12 rfl rfl (by omega) (by omega) (tgt := 102) dX5_order_89 (by decide) (fun c_89 => ?_) (fun c_89 => ?_)
          ·
            refine v_aload X 0 dX5_order_102 rfl ?_
            refine v_iload_n X 3 dX5_order_104 rfl rfl ?_
            refine v_iload_n X 4 dX5_order_105 rfl rfl ?_
            refine v_iload X 5 dX5_order_106 rfl ?_
            refine v_callVUf X [.int (nI k), .int (nI d), .int (nI q)] (pT 0 t) (pT_lt (by omega) (by omega)) (c_X3_addOrder l G cI cZ cT o S 0 t m (nI k) (nI d) (nI q) (by omega) (by omega) (by omega) (em)) (zc_T cI cZ cT o _ (by omega) (by omega)) (C := RX3) (T := TX3) (N := 16) rfl 3 rfl gX5_order_X3_addOrder rfl ⟨rfl, rfl⟩ hy_X3_addOrder_V ⟨Nat.le_of_ble_eq_true rfl, Nat.le_of_ble_eq_true rfl⟩ rfl (Nat.le_of_ble_eq_true rfl) dX5_order_108 ?_
            refine v_aload X 0 dX5_order_111 rfl ?_
            refine v_getT X (by omega) (by omega) 12 (by decide) hi_X5_order_X3 hl_X5_order_138 rfl (v := .int ((s_addOrder S 0 t m (nI k) (nI d) (nI q)) 0 26 t)) rfl dX5_order_113 ?_
            refine v_top (y := nI (m + 1)) (z_up_at _ _ _ _ _) ?_
            exact v_iret X dX5_order_116 (by exact ⟨rfl, rfl⟩)
          ·
            exact absurd c_89 (by omega)
        ·
          exact absurd c_50 (by omega)
theorem hi_X5_team_X5 : ∀ w ∈ wsX50, w ∈ wsX5_team := by decide +kernel
theorem hl_X5_team_27 : Cond.fieldLink RX5 27 RX5 (TX5 3).2.1 (TX5 3).2.2.1 ∈ wsX5_team := by decide +kernel
theorem hi_X5_team_X1 : ∀ w ∈ wsX10, w ∈ wsX5_team := by decide +kernel
theorem hl_X5_team_117 : Cond.fieldLink RX5 117 RX1 (TX1 1).2.1 (TX1 1).2.2.1 ∈ wsX5_team := by decide +kernel
theorem hy_X3_valueOf_V : yX3_valueOf.cls = RX3 ∧ yX3_valueOf.cls ≠ "java/lang/invoke/MethodHandle" ∧ yX3_valueOf.cls ≠ "java/lang/invoke/VarHandle" ∧ (parseMethodDescriptor yX3_valueOf.desc).map (fun d => d.parameters.length) = some 1 := by decide +kernel
set_option maxRecDepth 100000 in
set_option maxHeartbeats 4000000 in
/-- X5_team -/
theorem c_X5_team (l : Launch) (G : va_G) (cI cZ cT : ClassId) (o : Nat) (S : zS) (n t k : Nat) (hok : z_ok S 0 n) (ht : t < n) (hk : k < 10) : zI l G cI cZ cT o yX5_team wsX5_team { frames := 2, cells := 0, slots := 0, locals := 41 } [.ref (o + 0), .int (nI t), .int (nI k)] S (fun r u => r = s_teamV S 0 t (cl (S 0 15 t)) k ∧ u = S) := by
  refine z_ofI (cc := cX5_team) (maxL := 3) (by decide) rfl (by simp [lg_sl, Value.category]) ?_
  intro p9 e9 s9 m9 a9 b9 h9 c9 X
  refine v_lo [0, 1, 2] (lo' := [(0, .ref (o + 0)), (1, .int (nI t)), (2, .int (nI k))]) rfl ?_
  have hn8 := hok.2.1
  have hc9 := (hok.2.2 t (by omega)).1.2
  refine v_aload_n X 0 dX5_team_0 rfl rfl ?_
  refine v_getX X 3 (by decide) hi_X5_team_X5 hl_X5_team_27 rfl (v := .ref (o + pS 0)) rfl dX5_team_1 ?_
  refine v_iload_n X 1 dX5_team_4 rfl rfl ?_
  refine v_callVIf X [.int (nI t)] (pS 0) (pS_lt (by omega)) (c_X1_hasTeam l G cI cZ cT o S 0 (nI t) (by omega)) (zc_S cI cZ cT o _ (by omega)) (C := RX1) (T := TX1) (N := 4) rfl 1 rfl gX5_team_X1_hasTeam rfl ⟨rfl, rfl⟩ hy_X1_hasTeam_V ⟨Nat.le_of_ble_eq_true rfl, Nat.le_of_ble_eq_true rfl⟩ rfl (Nat.le_of_ble_eq_true rfl) dX5_team_5 ?_
  refine v_top (y := 1) (hasTeam_1 hok (by omega)) ?_
  refine v_if_eq X (tgt := 21) dX5_team_8 (by decide) (fun q => absurd q (by decide)) (fun _ => ?_)
  refine v_iload_n X 2 dX5_team_11 rfl rfl ?_
  refine v_if_lt X (tgt := 21) dX5_team_12 (by decide) (fun q => absurd q (nI_pos (by omega))) (fun _ => ?_)
  refine v_iload_n X 2 dX5_team_15 rfl rfl ?_
  refine v_bipush (v := 10) X (by decide) dX5_team_16 ?_
  refine v_ncmp_lt X k 10 rfl rfl (by omega) (by omega) (tgt := 31) dX5_team_18 (by decide) (fun c_18 => ?_) (fun c_18 => ?_)
  ·
    refine v_aload_n X 0 dX5_team_31 rfl rfl ?_
    refine v_getX X 3 (by decide) hi_X5_team_X5 hl_X5_team_27 rfl (v := .ref (o + pS 0)) rfl dX5_team_32 ?_
    refine v_getS X (by omega) 1 (by decide) hi_X5_team_X1 hl_X5_team_117 rfl (v := .ref (o + pL 0)) rfl dX5_team_35 ?_
    refine v_iload_n X 1 dX5_team_38 rfl rfl ?_
    refine v_aald X (w := 0) (by omega) t rfl (by omega) dX5_team_39 ?_
    refine v_iload_n X 2 dX5_team_40 rfl rfl ?_
    refine v_callVIf X [.int (nI k)] (pT 0 t) (pT_lt (by omega) (by omega)) (c_X3_valueOf l G cI cZ cT o S 0 t (cl (S 0 15 t)) k (by omega) (by omega) (by omega) (by omega) ((hok.2.2 t (by omega)).1.1)) (zc_T cI cZ cT o _ (by omega) (by omega)) (C := RX3) (T := TX3) (N := 16) rfl 1 rfl gX5_team_X3_valueOf rfl ⟨rfl, rfl⟩ hy_X3_valueOf_V ⟨Nat.le_of_ble_eq_true rfl, Nat.le_of_ble_eq_true rfl⟩ rfl (Nat.le_of_ble_eq_true rfl) dX5_team_41 ?_
    exact v_iret X dX5_team_44 (by exact ⟨rfl, rfl⟩)
  ·
    exact absurd c_18 (by omega)
theorem hi_X5_heard_X5 : ∀ w ∈ wsX50, w ∈ wsX5_heard := by decide +kernel
theorem hl_X5_heard_27 : Cond.fieldLink RX5 27 RX5 (TX5 3).2.1 (TX5 3).2.2.1 ∈ wsX5_heard := by decide +kernel
theorem hi_X5_heard_X1 : ∀ w ∈ wsX10, w ∈ wsX5_heard := by decide +kernel
theorem hl_X5_heard_117 : Cond.fieldLink RX5 117 RX1 (TX1 1).2.1 (TX1 1).2.2.1 ∈ wsX5_heard := by decide +kernel
theorem hy_X3_heardValue_V : yX3_heardValue.cls = RX3 ∧ yX3_heardValue.cls ≠ "java/lang/invoke/MethodHandle" ∧ yX3_heardValue.cls ≠ "java/lang/invoke/VarHandle" ∧ (parseMethodDescriptor yX3_heardValue.desc).map (fun d => d.parameters.length) = some 1 := by decide +kernel
set_option maxRecDepth 100000 in
set_option maxHeartbeats 4000000 in
/-- X5_heard -/
theorem c_X5_heard (l : Launch) (G : va_G) (cI cZ cT : ClassId) (o : Nat) (S : zS) (n t k : Nat) (hok : z_ok S 0 n) (ht : t < n) (hk : k < 3) : zI l G cI cZ cT o yX5_heard wsX5_heard { frames := 1, cells := 0, slots := 0, locals := 21 } [.ref (o + 0), .int (nI t), .int (nI k)] S (fun r u => r = s_heardV S 0 t k ∧ u = S) := by
  refine z_ofI (cc := cX5_heard) (maxL := 3) (by decide) rfl (by simp [lg_sl, Value.category]) ?_
  intro p9 e9 s9 m9 a9 b9 h9 c9 X
  refine v_lo [0, 1, 2] (lo' := [(0, .ref (o + 0)), (1, .int (nI t)), (2, .int (nI k))]) rfl ?_
  have hn8 := hok.2.1
  refine v_aload_n X 0 dX5_heard_0 rfl rfl ?_
  refine v_getX X 3 (by decide) hi_X5_heard_X5 hl_X5_heard_27 rfl (v := .ref (o + pS 0)) rfl dX5_heard_1 ?_
  refine v_iload_n X 1 dX5_heard_4 rfl rfl ?_
  refine v_callVIf X [.int (nI t)] (pS 0) (pS_lt (by omega)) (c_X1_hasTeam l G cI cZ cT o S 0 (nI t) (by omega)) (zc_S cI cZ cT o _ (by omega)) (C := RX1) (T := TX1) (N := 4) rfl 1 rfl gX5_heard_X1_hasTeam rfl ⟨rfl, rfl⟩ hy_X1_hasTeam_V ⟨Nat.le_of_ble_eq_true rfl, Nat.le_of_ble_eq_true rfl⟩ rfl (Nat.le_of_ble_eq_true rfl) dX5_heard_5 ?_
  refine v_top (y := 1) (hasTeam_1 hok (by omega)) ?_
  refine v_if_eq X (tgt := 20) dX5_heard_8 (by decide) (fun q => absurd q (by decide)) (fun _ => ?_)
  refine v_iload_n X 2 dX5_heard_11 rfl rfl ?_
  refine v_if_lt X (tgt := 20) dX5_heard_12 (by decide) (fun q => absurd q (nI_pos (by omega))) (fun _ => ?_)
  refine v_iload_n X 2 dX5_heard_15 rfl rfl ?_
  refine v_iconst (v := 3) X (by decide) dX5_heard_16 ?_
  refine v_ncmp_lt X k 3 rfl rfl (by omega) (by omega) (tgt := 30) dX5_heard_17 (by decide) (fun c_17 => ?_) (fun c_17 => ?_)
  ·
    refine v_aload_n X 0 dX5_heard_30 rfl rfl ?_
    refine v_getX X 3 (by decide) hi_X5_heard_X5 hl_X5_heard_27 rfl (v := .ref (o + pS 0)) rfl dX5_heard_31 ?_
    refine v_getS X (by omega) 1 (by decide) hi_X5_heard_X1 hl_X5_heard_117 rfl (v := .ref (o + pL 0)) rfl dX5_heard_34 ?_
    refine v_iload_n X 1 dX5_heard_37 rfl rfl ?_
    refine v_aald X (w := 0) (by omega) t rfl (by omega) dX5_heard_38 ?_
    refine v_iload_n X 2 dX5_heard_39 rfl rfl ?_
    refine v_callVIf X [.int (nI k)] (pT 0 t) (pT_lt (by omega) (by omega)) (c_X3_heardValue l G cI cZ cT o S 0 t k (by omega) (by omega) (by omega)) (zc_T cI cZ cT o _ (by omega) (by omega)) (C := RX3) (T := TX3) (N := 16) rfl 1 rfl gX5_heard_X3_heardValue rfl ⟨rfl, rfl⟩ hy_X3_heardValue_V ⟨Nat.le_of_ble_eq_true rfl, Nat.le_of_ble_eq_true rfl⟩ rfl (Nat.le_of_ble_eq_true rfl) dX5_heard_40 ?_
    exact v_iret X dX5_heard_43 (by exact ⟨rfl, rfl⟩)
  ·
    exact absurd c_17 (by omega)
theorem hi_X5_pass_X5 : ∀ w ∈ wsX50, w ∈ wsX5_pass := by decide +kernel
theorem hl_X5_pass_27 : Cond.fieldLink RX5 27 RX5 (TX5 3).2.1 (TX5 3).2.2.1 ∈ wsX5_pass := by decide +kernel
theorem hi_X5_pass_X1 : ∀ w ∈ wsX10, w ∈ wsX5_pass := by decide +kernel
theorem hl_X5_pass_64 : Cond.fieldLink RX5 64 RX1 (TX1 0).2.1 (TX1 0).2.2.1 ∈ wsX5_pass := by decide +kernel
theorem hi_X5_pass_X0 : ∀ w ∈ wsX00, w ∈ wsX5_pass := by decide +kernel
theorem hl_X5_pass_157 : Cond.fieldLink RX5 157 RX0 (TX0 11).2.1 (TX0 11).2.2.1 ∈ wsX5_pass := by decide +kernel
theorem hy_X1_letHoursGoBy_V : yX1_letHoursGoBy.cls = RX1 ∧ yX1_letHoursGoBy.cls ≠ "java/lang/invoke/MethodHandle" ∧ yX1_letHoursGoBy.cls ≠ "java/lang/invoke/VarHandle" ∧ (parseMethodDescriptor yX1_letHoursGoBy.desc).map (fun d => d.parameters.length) = some 1 := by decide +kernel
set_option maxRecDepth 100000 in
set_option maxHeartbeats 4000000 in
/-- X5_pass -/
theorem c_X5_pass (l : Launch) (G : va_G) (cI cZ cT : ClassId) (o : Nat) (S : zS) (n h : Nat) (hok : z_ok S 0 n) (h1 : 1 ≤ h) (h2 : h ≤ 200) : zI l G cI cZ cT o yX5_pass wsX5_pass { frames := 6, cells := 0, slots := 0, locals := 135 } [.ref (o + 0), .int (nI h)] S (fun r u => r = s_hours S 0 n h 0 11 0 - S 0 11 0 ∧ u = s_hours S 0 n h) := by
  refine z_ofI (cc := cX5_pass) (maxL := 3) (by decide) rfl (by simp [lg_sl, Value.category]) ?_
  intro p9 e9 s9 m9 a9 b9 h9 c9 X
  refine v_lo [0, 1] (lo' := [(0, .ref (o + 0)), (1, .int (nI h))]) rfl ?_
  refine v_iload_n X 1 dX5_pass_0 rfl rfl ?_
  refine v_iconst (v := 1) X (by decide) dX5_pass_1 ?_
  refine v_ncmp_lt X h 1 rfl rfl (by omega) (by omega) (tgt := 12) dX5_pass_2 (by decide) (fun c_2 => ?_) (fun c_2 => ?_)
  ·
    exact absurd c_2 (by omega)
  ·
    refine v_iload_n X 1 dX5_pass_5 rfl rfl ?_
    refine v_sipush (v := 200) X (by decide) dX5_pass_6 ?_
    refine v_ncmp_le X h 200 rfl rfl (by omega) (by omega) (tgt := 22) dX5_pass_9 (by decide) (fun c_9 => ?_) (fun c_9 => ?_)
    ·
      refine v_aload_n X 0 dX5_pass_22 rfl rfl ?_
      refine v_getX X 3 (by decide) hi_X5_pass_X5 hl_X5_pass_27 rfl (v := .ref (o + pS 0)) rfl dX5_pass_23 ?_
      refine v_getS X (by omega) 0 (by decide) hi_X5_pass_X1 hl_X5_pass_64 rfl (v := .ref (o + pG 0)) rfl dX5_pass_26 ?_
      refine v_getG X (by omega) 11 (by decide) hi_X5_pass_X0 hl_X5_pass_157 rfl (v := .int (S 0 11 0)) rfl dX5_pass_29 ?_
      refine v_istore_n (lo' := [(2, .int (S 0 11 0)), (0, .ref (o + 0)), (1, .int (nI h))]) X dX5_pass_32 rfl (by decide) rfl ?_
      refine v_aload_n X 1 dX5_pass_33 rfl rfl ?_
      refine v_getX X 3 (by decide) hi_X5_pass_X5 hl_X5_pass_27 rfl (v := .ref (o + pS 0)) rfl dX5_pass_34 ?_
      refine v_iload_n X 2 dX5_pass_37 rfl rfl ?_
      refine v_callVUf X [.int (nI h)] (pS 0) (pS_lt (by omega)) (c_X1_letHoursGoBy l G cI cZ cT o S 0 n h (by omega) (by omega) (hok)) (zc_S cI cZ cT o _ (by omega)) (C := RX1) (T := TX1) (N := 4) rfl 1 rfl gX5_pass_X1_letHoursGoBy rfl ⟨rfl, rfl⟩ hy_X1_letHoursGoBy_V ⟨Nat.le_of_ble_eq_true rfl, Nat.le_of_ble_eq_true rfl⟩ rfl (Nat.le_of_ble_eq_true rfl) dX5_pass_38 ?_
      refine v_aload_n X 1 dX5_pass_41 rfl rfl ?_
      refine v_getX X 3 (by decide) hi_X5_pass_X5 hl_X5_pass_27 rfl (v := .ref (o + pS 0)) rfl dX5_pass_42 ?_
      refine v_getS X (by omega) 0 (by decide) hi_X5_pass_X1 hl_X5_pass_64 rfl (v := .ref (o + pG 0)) rfl dX5_pass_45 ?_
      refine v_getG X (by omega) 11 (by decide) hi_X5_pass_X0 hl_X5_pass_157 rfl (v := .int ((s_hours S 0 n h) 0 11 0)) rfl dX5_pass_48 ?_
      refine v_iload_n X 0 dX5_pass_51 rfl rfl ?_
      refine v_isub X dX5_pass_52 ?_
      exact v_iret X dX5_pass_53 (by exact ⟨rfl, rfl⟩)
    ·
      exact absurd c_9 (by omega)
theorem hi_X5_countOf_X5 : ∀ w ∈ wsX50, w ∈ wsX5_countOf := by decide +kernel
theorem hl_X5_countOf_27 : Cond.fieldLink RX5 27 RX5 (TX5 3).2.1 (TX5 3).2.2.1 ∈ wsX5_countOf := by decide +kernel
theorem hi_X5_countOf_X1 : ∀ w ∈ wsX10, w ∈ wsX5_countOf := by decide +kernel
theorem hl_X5_countOf_64 : Cond.fieldLink RX5 64 RX1 (TX1 0).2.1 (TX1 0).2.2.1 ∈ wsX5_countOf := by decide +kernel
theorem hl_X5_countOf_221 : Cond.fieldLink RX5 221 RX1 (TX1 3).2.1 (TX1 3).2.2.1 ∈ wsX5_countOf := by decide +kernel
theorem hl_X5_countOf_77 : Cond.fieldLink RX5 77 RX1 (TX1 2).2.1 (TX1 2).2.2.1 ∈ wsX5_countOf := by decide +kernel
theorem hy_X1_teamsLeft_V : yX1_teamsLeft.cls = RX1 ∧ yX1_teamsLeft.cls ≠ "java/lang/invoke/MethodHandle" ∧ yX1_teamsLeft.cls ≠ "java/lang/invoke/VarHandle" ∧ (parseMethodDescriptor yX1_teamsLeft.desc).map (fun d => d.parameters.length) = some 1 := by decide +kernel
theorem hy_X0_tunnels_V : yX0_tunnels.cls = RX0 ∧ yX0_tunnels.cls ≠ "java/lang/invoke/MethodHandle" ∧ yX0_tunnels.cls ≠ "java/lang/invoke/VarHandle" ∧ (parseMethodDescriptor yX0_tunnels.desc).map (fun d => d.parameters.length) = some 0 := by decide +kernel
theorem hy_X0_wallsStanding_V : yX0_wallsStanding.cls = RX0 ∧ yX0_wallsStanding.cls ≠ "java/lang/invoke/MethodHandle" ∧ yX0_wallsStanding.cls ≠ "java/lang/invoke/VarHandle" ∧ (parseMethodDescriptor yX0_wallsStanding.desc).map (fun d => d.parameters.length) = some 0 := by decide +kernel
theorem hy_X0_wallsFallen_V : yX0_wallsFallen.cls = RX0 ∧ yX0_wallsFallen.cls ≠ "java/lang/invoke/MethodHandle" ∧ yX0_wallsFallen.cls ≠ "java/lang/invoke/VarHandle" ∧ (parseMethodDescriptor yX0_wallsFallen.desc).map (fun d => d.parameters.length) = some 0 := by decide +kernel
theorem hi_X5_countOf_X0 : ∀ w ∈ wsX00, w ∈ wsX5_countOf := by decide +kernel
theorem hl_X5_countOf_196 : Cond.fieldLink RX5 196 RX0 (TX0 10).2.1 (TX0 10).2.2.1 ∈ wsX5_countOf := by decide +kernel
theorem hy_X1_missedOrders_V : yX1_missedOrders.cls = RX1 ∧ yX1_missedOrders.cls ≠ "java/lang/invoke/MethodHandle" ∧ yX1_missedOrders.cls ≠ "java/lang/invoke/VarHandle" ∧ (parseMethodDescriptor yX1_missedOrders.desc).map (fun d => d.parameters.length) = some 0 := by decide +kernel
theorem hl_X5_countOf_10 : Cond.fieldLink RX5 10 RX5 (TX5 0).2.1 (TX5 0).2.2.1 ∈ wsX5_countOf := by decide +kernel
theorem hi_X5_countOf_X2 : ∀ w ∈ wsX20, w ∈ wsX5_countOf := by decide +kernel
theorem hl_X5_countOf_41 : Cond.fieldLink RX5 41 RX2 (TX2 1).2.1 (TX2 1).2.2.1 ∈ wsX5_countOf := by decide +kernel
theorem hl_X5_countOf_20 : Cond.fieldLink RX5 20 RX5 (TX5 2).2.1 (TX5 2).2.2.1 ∈ wsX5_countOf := by decide +kernel
set_option maxRecDepth 100000 in
set_option maxHeartbeats 4000000 in
/-- X5_countOf -/
theorem c_X5_countOf (l : Launch) (G : va_G) (cI cZ cT : ClassId) (o : Nat) (S : zS) (n k : Nat) (hok : z_ok S 0 n) (hk : k < 12) : zI l G cI cZ cT o yX5_countOf wsX5_countOf { frames := 2, cells := 0, slots := 0, locals := 43 } [.ref (o + 0), .int (nI k)] S (fun r u => r = s_count S n k ∧ u = S) := by
  refine z_ofI (cc := cX5_countOf) (maxL := 3) (by decide) rfl (by simp [lg_sl, Value.category]) ?_
  intro p9 e9 s9 m9 a9 b9 h9 c9 X
  refine v_lo [0, 1] (lo' := [(0, .ref (o + 0)), (1, .int (nI k))]) rfl ?_
  refine v_aload_n X 0 dX5_countOf_0 rfl rfl ?_
  refine v_getX X 3 (by decide) hi_X5_countOf_X5 hl_X5_countOf_27 rfl (v := .ref (o + pS 0)) rfl dX5_countOf_1 ?_
  refine v_getS X (by omega) 0 (by decide) hi_X5_countOf_X1 hl_X5_countOf_64 rfl (v := .ref (o + pG 0)) rfl dX5_countOf_4 ?_
  refine v_astore_n (lo' := [(2, .ref (o + pG 0)), (0, .ref (o + 0)), (1, .int (nI k))]) X dX5_countOf_7 rfl (by decide) rfl ?_
  refine v_iload_n X 2 dX5_countOf_8 rfl rfl ?_
  rcases (show k = 0 ∨ k = 1 ∨ k = 2 ∨ k = 3 ∨ k = 4 ∨ k = 5 ∨ k = 6 ∨ k = 7 ∨ k = 8 ∨ k = 9 ∨ k = 10 ∨ k = 11 by omega) with rfl | rfl | rfl | rfl | rfl | rfl | rfl | rfl | rfl | rfl | rfl | rfl
  ·
    refine v_tsw X (off := 59) (tgt := 68) dX5_countOf_9 (by decide) (by decide) (by decide) (by decide) ?_
    refine v_aload_n X 1 dX5_countOf_68 rfl rfl ?_
    refine v_getX X 3 (by decide) hi_X5_countOf_X5 hl_X5_countOf_27 rfl (v := .ref (o + pS 0)) rfl dX5_countOf_69 ?_
    refine v_getS X (by omega) 3 (by decide) hi_X5_countOf_X1 hl_X5_countOf_221 rfl (v := .int (S 0 13 0)) rfl dX5_countOf_72 ?_
    exact v_iret X dX5_countOf_75 (by simp [s_count])
  ·
    refine v_tsw X (off := 67) (tgt := 76) dX5_countOf_9 (by decide) (by decide) (by decide) (by decide) ?_
    refine v_aload_n X 1 dX5_countOf_76 rfl rfl ?_
    refine v_getX X 3 (by decide) hi_X5_countOf_X5 hl_X5_countOf_27 rfl (v := .ref (o + pS 0)) rfl dX5_countOf_77 ?_
    refine v_getS X (by omega) 2 (by decide) hi_X5_countOf_X1 hl_X5_countOf_77 rfl (v := .int (S 0 12 0)) rfl dX5_countOf_80 ?_
    refine v_top (y := nI n) (hok.1) ?_
    exact v_iret X dX5_countOf_83 (by simp [s_count])
  ·
    refine v_tsw X (off := 75) (tgt := 84) dX5_countOf_9 (by decide) (by decide) (by decide) (by decide) ?_
    refine v_aload_n X 1 dX5_countOf_84 rfl rfl ?_
    refine v_getX X 3 (by decide) hi_X5_countOf_X5 hl_X5_countOf_27 rfl (v := .ref (o + pS 0)) rfl dX5_countOf_85 ?_
    refine v_iconst (v := 0) X (by decide) dX5_countOf_88 ?_
    refine v_callVIf X [.int 0] (pS 0) (pS_lt (by omega)) (c_X1_teamsLeft l G cI cZ cT o S 0 n 0 (by omega) (hok)) (zc_S cI cZ cT o _ (by omega)) (C := RX1) (T := TX1) (N := 4) rfl 1 rfl gX5_countOf_X1_teamsLeft rfl ⟨rfl, rfl⟩ hy_X1_teamsLeft_V ⟨Nat.le_of_ble_eq_true rfl, Nat.le_of_ble_eq_true rfl⟩ rfl (Nat.le_of_ble_eq_true rfl) dX5_countOf_89 ?_
    exact v_iret X dX5_countOf_92 (by simp [s_count])
  ·
    refine v_tsw X (off := 84) (tgt := 93) dX5_countOf_9 (by decide) (by decide) (by decide) (by decide) ?_
    refine v_aload_n X 1 dX5_countOf_93 rfl rfl ?_
    refine v_getX X 3 (by decide) hi_X5_countOf_X5 hl_X5_countOf_27 rfl (v := .ref (o + pS 0)) rfl dX5_countOf_94 ?_
    refine v_iconst (v := 1) X (by decide) dX5_countOf_97 ?_
    refine v_callVIf X [.int 1] (pS 0) (pS_lt (by omega)) (c_X1_teamsLeft l G cI cZ cT o S 0 n 1 (by omega) (hok)) (zc_S cI cZ cT o _ (by omega)) (C := RX1) (T := TX1) (N := 4) rfl 1 rfl gX5_countOf_X1_teamsLeft rfl ⟨rfl, rfl⟩ hy_X1_teamsLeft_V ⟨Nat.le_of_ble_eq_true rfl, Nat.le_of_ble_eq_true rfl⟩ rfl (Nat.le_of_ble_eq_true rfl) dX5_countOf_98 ?_
    exact v_iret X dX5_countOf_101 (by simp [s_count])
  ·
    refine v_tsw X (off := 93) (tgt := 102) dX5_countOf_9 (by decide) (by decide) (by decide) (by decide) ?_
    refine v_aload_n X 0 dX5_countOf_102 rfl rfl ?_
    refine v_callVIf X [] (pG 0) (pG_lt (by omega)) (c_X0_tunnels l G cI cZ cT o S 0 (by omega)) (zc_G cI cZ cT o _ (by omega)) (C := RX0) (T := TX0) (N := 12) rfl 0 rfl gX5_countOf_X0_tunnels rfl ⟨rfl, rfl⟩ hy_X0_tunnels_V ⟨Nat.le_of_ble_eq_true rfl, Nat.le_of_ble_eq_true rfl⟩ rfl (Nat.le_of_ble_eq_true rfl) dX5_countOf_103 ?_
    exact v_iret X dX5_countOf_106 (by simp [s_count])
  ·
    refine v_tsw X (off := 98) (tgt := 107) dX5_countOf_9 (by decide) (by decide) (by decide) (by decide) ?_
    refine v_aload_n X 0 dX5_countOf_107 rfl rfl ?_
    refine v_callVIf X [] (pG 0) (pG_lt (by omega)) (c_X0_wallsStanding l G cI cZ cT o S 0 (by omega)) (zc_G cI cZ cT o _ (by omega)) (C := RX0) (T := TX0) (N := 12) rfl 0 rfl gX5_countOf_X0_wallsStanding rfl ⟨rfl, rfl⟩ hy_X0_wallsStanding_V ⟨Nat.le_of_ble_eq_true rfl, Nat.le_of_ble_eq_true rfl⟩ rfl (Nat.le_of_ble_eq_true rfl) dX5_countOf_108 ?_
    exact v_iret X dX5_countOf_111 (by simp [s_count])
  ·
    refine v_tsw X (off := 103) (tgt := 112) dX5_countOf_9 (by decide) (by decide) (by decide) (by decide) ?_
    refine v_aload_n X 0 dX5_countOf_112 rfl rfl ?_
    refine v_callVIf X [] (pG 0) (pG_lt (by omega)) (c_X0_wallsFallen l G cI cZ cT o S 0 (by omega)) (zc_G cI cZ cT o _ (by omega)) (C := RX0) (T := TX0) (N := 12) rfl 0 rfl gX5_countOf_X0_wallsFallen rfl ⟨rfl, rfl⟩ hy_X0_wallsFallen_V ⟨Nat.le_of_ble_eq_true rfl, Nat.le_of_ble_eq_true rfl⟩ rfl (Nat.le_of_ble_eq_true rfl) dX5_countOf_113 ?_
    exact v_iret X dX5_countOf_116 (by simp [s_count])
  ·
    refine v_tsw X (off := 108) (tgt := 117) dX5_countOf_9 (by decide) (by decide) (by decide) (by decide) ?_
    refine v_aload_n X 0 dX5_countOf_117 rfl rfl ?_
    refine v_callVIf X [] (pG 0) (pG_lt (by omega)) (c_X0_allSmoke l G cI cZ cT o S 0 (by omega)) (zc_G cI cZ cT o _ (by omega)) (C := RX0) (T := TX0) (N := 12) rfl 0 rfl gX5_countOf_X0_allSmoke rfl ⟨rfl, rfl⟩ hy_X0_allSmoke_V ⟨Nat.le_of_ble_eq_true rfl, Nat.le_of_ble_eq_true rfl⟩ rfl (Nat.le_of_ble_eq_true rfl) dX5_countOf_118 ?_
    exact v_iret X dX5_countOf_121 (by simp [s_count])
  ·
    refine v_tsw X (off := 113) (tgt := 122) dX5_countOf_9 (by decide) (by decide) (by decide) (by decide) ?_
    refine v_aload_n X 0 dX5_countOf_122 rfl rfl ?_
    refine v_getG X (by omega) 10 (by decide) hi_X5_countOf_X0 hl_X5_countOf_196 rfl (v := .int (S 0 10 0)) rfl dX5_countOf_123 ?_
    exact v_iret X dX5_countOf_126 (by simp [s_count])
  ·
    refine v_tsw X (off := 118) (tgt := 127) dX5_countOf_9 (by decide) (by decide) (by decide) (by decide) ?_
    refine v_aload_n X 1 dX5_countOf_127 rfl rfl ?_
    refine v_getX X 3 (by decide) hi_X5_countOf_X5 hl_X5_countOf_27 rfl (v := .ref (o + pS 0)) rfl dX5_countOf_128 ?_
    refine v_callVIf X [] (pS 0) (pS_lt (by omega)) (c_X1_missedOrders l G cI cZ cT o S 0 n (by omega) (hok)) (zc_S cI cZ cT o _ (by omega)) (C := RX1) (T := TX1) (N := 4) rfl 0 rfl gX5_countOf_X1_missedOrders rfl ⟨rfl, rfl⟩ hy_X1_missedOrders_V ⟨Nat.le_of_ble_eq_true rfl, Nat.le_of_ble_eq_true rfl⟩ rfl (Nat.le_of_ble_eq_true rfl) dX5_countOf_131 ?_
    exact v_iret X dX5_countOf_134 (by simp [s_count])
  ·
    refine v_tsw X (off := 126) (tgt := 135) dX5_countOf_9 (by decide) (by decide) (by decide) (by decide) ?_
    refine v_aload_n X 1 dX5_countOf_135 rfl rfl ?_
    refine v_getX X 0 (by decide) hi_X5_countOf_X5 hl_X5_countOf_10 rfl (v := .ref (o + 1)) rfl dX5_countOf_136 ?_
    refine v_getP X 1 (by decide) hi_X5_countOf_X2 hl_X5_countOf_41 rfl (v := .int (S 2 1 0)) rfl dX5_countOf_139 ?_
    exact v_iret X dX5_countOf_142 (by simp [s_count])
  ·
    refine v_tswO X (tgt := 143) dX5_countOf_9 (by decide) (by decide) ?_
    refine v_aload_n X 1 dX5_countOf_143 rfl rfl ?_
    refine v_getX X 2 (by decide) hi_X5_countOf_X5 hl_X5_countOf_20 rfl (v := .int (S 2 3 0)) rfl dX5_countOf_144 ?_
    exact v_iret X dX5_countOf_147 (by simp [s_count])
theorem hy_X5_countOf_V : yX5_countOf.cls = RX5 ∧ yX5_countOf.cls ≠ "java/lang/invoke/MethodHandle" ∧ yX5_countOf.cls ≠ "java/lang/invoke/VarHandle" ∧ (parseMethodDescriptor yX5_countOf.desc).map (fun d => d.parameters.length) = some 1 := by decide +kernel
set_option maxRecDepth 100000 in
set_option maxHeartbeats 4000000 in
/-- X5_count -/
theorem c_X5_count (l : Launch) (G : va_G) (cI cZ cT : ClassId) (o : Nat) (S : zS) (n k : Nat) (hok : z_ok S 0 n) (hk : k < 12) : zI l G cI cZ cT o yX5_count wsX5_count { frames := 3, cells := 0, slots := 0, locals := 65 } [.ref (o + 0), .int (nI k)] S (fun r u => r = s_count S n k ∧ u = S) := by
  refine z_ofI (cc := cX5_count) (maxL := 2) (by decide) rfl (by simp [lg_sl, Value.category]) ?_
  intro p9 e9 s9 m9 a9 b9 h9 c9 X
  refine v_lo [0, 1] (lo' := [(0, .ref (o + 0)), (1, .int (nI k))]) rfl ?_
  refine v_iload_n X 1 dX5_count_0 rfl rfl ?_
  refine v_if_lt X (tgt := 10) dX5_count_1 (by decide) (fun q => absurd q (nI_pos (by omega))) (fun _ => ?_)
  refine v_iload_n X 1 dX5_count_4 rfl rfl ?_
  refine v_bipush (v := 12) X (by decide) dX5_count_5 ?_
  refine v_ncmp_lt X k 12 rfl rfl (by omega) (by omega) (tgt := 20) dX5_count_7 (by decide) (fun c_7 => ?_) (fun c_7 => ?_)
  ·
    refine v_aload_n X 0 dX5_count_20 rfl rfl ?_
    refine v_iload_n X 1 dX5_count_21 rfl rfl ?_
    refine v_callVIf X [.int (nI k)] (0) (by decide) (c_X5_countOf l G cI cZ cT o S n k (hok) (by omega)) (zc_X cI cZ cT o _) (C := RX5) (T := TX5) (N := 6) rfl 1 rfl gX5_count_X5_countOf rfl ⟨rfl, rfl⟩ hy_X5_countOf_V ⟨Nat.le_of_ble_eq_true rfl, Nat.le_of_ble_eq_true rfl⟩ rfl (Nat.le_of_ble_eq_true rfl) dX5_count_22 ?_
    exact v_iret X dX5_count_25 (by exact ⟨rfl, rfl⟩)
  ·
    exact absurd c_7 (by omega)
theorem hi_X5_target_X5 : ∀ w ∈ wsX50, w ∈ wsX5_target := by decide +kernel
theorem hl_X5_target_27 : Cond.fieldLink RX5 27 RX5 (TX5 3).2.1 (TX5 3).2.2.1 ∈ wsX5_target := by decide +kernel
theorem hi_X5_target_X1 : ∀ w ∈ wsX10, w ∈ wsX5_target := by decide +kernel
theorem hl_X5_target_117 : Cond.fieldLink RX5 117 RX1 (TX1 1).2.1 (TX1 1).2.2.1 ∈ wsX5_target := by decide +kernel
theorem hl_X5_target_37 : Cond.fieldLink RX5 37 RX5 (TX5 5).2.1 (TX5 5).2.2.1 ∈ wsX5_target := by decide +kernel
theorem hl_X5_target_64 : Cond.fieldLink RX5 64 RX1 (TX1 0).2.1 (TX1 0).2.2.1 ∈ wsX5_target := by decide +kernel
theorem hi_X5_target_X3 : ∀ w ∈ wsX30, w ∈ wsX5_target := by decide +kernel
theorem hl_X5_target_177 : Cond.fieldLink RX5 177 RX3 (TX3 1).2.1 (TX3 1).2.2.1 ∈ wsX5_target := by decide +kernel
theorem hl_X5_target_180 : Cond.fieldLink RX5 180 RX3 (TX3 3).2.1 (TX3 3).2.2.1 ∈ wsX5_target := by decide +kernel
theorem hy_X4_searchFrom_V : yX4_searchFrom.cls = RX4 ∧ yX4_searchFrom.cls ≠ "java/lang/invoke/MethodHandle" ∧ yX4_searchFrom.cls ≠ "java/lang/invoke/VarHandle" ∧ (parseMethodDescriptor yX4_searchFrom.desc).map (fun d => d.parameters.length) = some 3 := by decide +kernel
theorem hy_X4_nearestWall_V : yX4_nearestWall.cls = RX4 ∧ yX4_nearestWall.cls ≠ "java/lang/invoke/MethodHandle" ∧ yX4_nearestWall.cls ≠ "java/lang/invoke/VarHandle" ∧ (parseMethodDescriptor yX4_nearestWall.desc).map (fun d => d.parameters.length) = some 1 := by decide +kernel
set_option maxRecDepth 100000 in
set_option maxHeartbeats 4000000 in
/-- X5_target -/
theorem c_X5_target (l : Launch) (G : va_G) (cI cZ cT : ClassId) (o : Nat) (S : zS) (n t : Nat) (hok : z_ok S 0 n) (ht : t < n) : zI l G cI cZ cT o yX5_target wsX5_target { frames := 4, cells := 0, slots := 0, locals := 94 } [.ref (o + 0), .int (nI t)] S (fun r u => r = z_oi (s_nwN (s_targ S t) 0 144) ∧ u = s_targ S t) := by
  refine z_ofI (cc := cX5_target) (maxL := 3) (by decide) rfl (by simp [lg_sl, Value.category]) ?_
  intro p9 e9 s9 m9 a9 b9 h9 c9 X
  refine v_lo [0, 1] (lo' := [(0, .ref (o + 0)), (1, .int (nI t))]) rfl ?_
  have hn8 := hok.2.1
  have hc9 := (hok.2.2 t (by omega)).1.2
  refine v_aload_n X 0 dX5_target_0 rfl rfl ?_
  refine v_getX X 3 (by decide) hi_X5_target_X5 hl_X5_target_27 rfl (v := .ref (o + pS 0)) rfl dX5_target_1 ?_
  refine v_iload_n X 1 dX5_target_4 rfl rfl ?_
  refine v_callVIf X [.int (nI t)] (pS 0) (pS_lt (by omega)) (c_X1_hasTeam l G cI cZ cT o S 0 (nI t) (by omega)) (zc_S cI cZ cT o _ (by omega)) (C := RX1) (T := TX1) (N := 4) rfl 1 rfl gX5_target_X1_hasTeam rfl ⟨rfl, rfl⟩ hy_X1_hasTeam_V ⟨Nat.le_of_ble_eq_true rfl, Nat.le_of_ble_eq_true rfl⟩ rfl (Nat.le_of_ble_eq_true rfl) dX5_target_5 ?_
  refine v_top (y := 1) (hasTeam_1 hok (by omega)) ?_
  refine v_if_ne X (tgt := 21) dX5_target_8 (by decide) (fun _ => ?_) (fun q => absurd q (by decide))
  refine v_aload_n X 0 dX5_target_21 rfl rfl ?_
  refine v_getX X 3 (by decide) hi_X5_target_X5 hl_X5_target_27 rfl (v := .ref (o + pS 0)) rfl dX5_target_22 ?_
  refine v_getS X (by omega) 1 (by decide) hi_X5_target_X1 hl_X5_target_117 rfl (v := .ref (o + pL 0)) rfl dX5_target_25 ?_
  refine v_iload_n X 1 dX5_target_28 rfl rfl ?_
  refine v_aald X (w := 0) (by omega) t rfl (by omega) dX5_target_29 ?_
  refine v_astore_n (lo' := [(2, .ref (o + pT 0 t)), (0, .ref (o + 0)), (1, .int (nI t))]) X dX5_target_30 rfl (by decide) rfl ?_
  refine v_aload_n X 1 dX5_target_31 rfl rfl ?_
  refine v_getX X 5 (by decide) hi_X5_target_X5 hl_X5_target_37 rfl (v := .ref (o + 94)) rfl dX5_target_32 ?_
  refine v_aload_n X 1 dX5_target_35 rfl rfl ?_
  refine v_getX X 3 (by decide) hi_X5_target_X5 hl_X5_target_27 rfl (v := .ref (o + pS 0)) rfl dX5_target_36 ?_
  refine v_getS X (by omega) 0 (by decide) hi_X5_target_X1 hl_X5_target_64 rfl (v := .ref (o + pG 0)) rfl dX5_target_39 ?_
  refine v_aload_n X 0 dX5_target_42 rfl rfl ?_
  refine v_getT X (by omega) (by omega) 1 (by decide) hi_X5_target_X3 hl_X5_target_177 rfl (v := .int (S 0 15 t)) rfl dX5_target_43 ?_
  refine v_top (y := nI (cl (S 0 15 t))) ((hok.2.2 t (by omega)).1.1) ?_
  refine v_aload_n X 0 dX5_target_46 rfl rfl ?_
  refine v_getT X (by omega) (by omega) 3 (by decide) hi_X5_target_X3 hl_X5_target_180 rfl (v := .int (S 0 17 t)) rfl dX5_target_47 ?_
  refine v_callVUf X [.ref (o + pG 0), .int (nI (cl (S 0 15 t))), .int (S 0 17 t)] (94) (by decide) (c_X4_searchFrom l G cI cZ cT o S 0 (cl (S 0 15 t)) (S 0 17 t) (by omega) (by omega)) (zc_W cI cZ cT o _) (C := RX4) (T := TX4) (N := 2) rfl 3 rfl gX5_target_X4_searchFrom rfl ⟨rfl, rfl⟩ hy_X4_searchFrom_V ⟨Nat.le_of_ble_eq_true rfl, Nat.le_of_ble_eq_true rfl⟩ rfl (Nat.le_of_ble_eq_true rfl) dX5_target_50 ?_
  refine v_aload_n X 1 dX5_target_53 rfl rfl ?_
  refine v_getX X 5 (by decide) hi_X5_target_X5 hl_X5_target_37 rfl (v := .ref (o + 94)) rfl dX5_target_54 ?_
  refine v_aload_n X 1 dX5_target_57 rfl rfl ?_
  refine v_getX X 3 (by decide) hi_X5_target_X5 hl_X5_target_27 rfl (v := .ref (o + pS 0)) rfl dX5_target_58 ?_
  refine v_getS X (by omega) 0 (by decide) hi_X5_target_X1 hl_X5_target_64 rfl (v := .ref (o + pG 0)) rfl dX5_target_61 ?_
  refine v_callVIf X [.ref (o + pG 0)] (94) (by decide) (c_X4_nearestWall l G cI cZ cT o (s_srch S 0 (cl (S 0 15 t)) (S 0 17 t)) 0 (by omega)) (zc_W cI cZ cT o _) (C := RX4) (T := TX4) (N := 2) rfl 1 rfl gX5_target_X4_nearestWall rfl ⟨rfl, rfl⟩ hy_X4_nearestWall_V ⟨Nat.le_of_ble_eq_true rfl, Nat.le_of_ble_eq_true rfl⟩ rfl (Nat.le_of_ble_eq_true rfl) dX5_target_64 ?_
  exact v_iret X dX5_target_67 (by exact ⟨rfl, rfl⟩)
theorem hi_X5_foresee_X5 : ∀ w ∈ wsX50, w ∈ wsX5_foresee := by decide +kernel
theorem hl_X5_foresee_31 : Cond.fieldLink RX5 31 RX5 (TX5 4).2.1 (TX5 4).2.2.1 ∈ wsX5_foresee := by decide +kernel
theorem hl_X5_foresee_27 : Cond.fieldLink RX5 27 RX5 (TX5 3).2.1 (TX5 3).2.2.1 ∈ wsX5_foresee := by decide +kernel
theorem hy_X1_copyFrom_V : yX1_copyFrom.cls = RX1 ∧ yX1_copyFrom.cls ≠ "java/lang/invoke/MethodHandle" ∧ yX1_copyFrom.cls ≠ "java/lang/invoke/VarHandle" ∧ (parseMethodDescriptor yX1_copyFrom.desc).map (fun d => d.parameters.length) = some 1 := by decide +kernel
theorem hi_X5_foresee_X1 : ∀ w ∈ wsX10, w ∈ wsX5_foresee := by decide +kernel
theorem hl_X5_foresee_64 : Cond.fieldLink RX5 64 RX1 (TX1 0).2.1 (TX1 0).2.2.1 ∈ wsX5_foresee := by decide +kernel
theorem hi_X5_foresee_X0 : ∀ w ∈ wsX00, w ∈ wsX5_foresee := by decide +kernel
theorem hl_X5_foresee_157 : Cond.fieldLink RX5 157 RX0 (TX0 11).2.1 (TX0 11).2.2.1 ∈ wsX5_foresee := by decide +kernel
theorem hl_X5_foresee_196 : Cond.fieldLink RX5 196 RX0 (TX0 10).2.1 (TX0 10).2.2.1 ∈ wsX5_foresee := by decide +kernel
set_option maxRecDepth 100000 in
set_option maxHeartbeats 4000000 in
/-- X5_foresee -/
theorem c_X5_foresee (l : Launch) (G : va_G) (cI cZ cT : ClassId) (o : Nat) (S : zS) (n h k : Nat) (hok : z_ok S 0 n) (hrg : z_rg S 1) (hbo : z_bo S 0) (h1 : 1 ≤ h) (h2 : h ≤ 150) (hk : k < 4) : zI l G cI cZ cT o yX5_foresee wsX5_foresee { frames := 6, cells := 0, slots := 0, locals := 135 } [.ref (o + 0), .int (nI h), .int (nI k)] S (fun r u => r = s_foresee S n h k ∧ u = s_ahead S n h) := by
  refine z_ofI (cc := cX5_foresee) (maxL := 3) (by decide) rfl (by simp [lg_sl, Value.category]) ?_
  intro p9 e9 s9 m9 a9 b9 h9 c9 X
  refine v_lo [0, 1, 2] (lo' := [(0, .ref (o + 0)), (1, .int (nI h)), (2, .int (nI k))]) rfl ?_
  refine v_iload_n X 1 dX5_foresee_0 rfl rfl ?_
  refine v_iconst (v := 1) X (by decide) dX5_foresee_1 ?_
  refine v_ncmp_lt X h 1 rfl rfl (by omega) (by omega) (tgt := 12) dX5_foresee_2 (by decide) (fun c_2 => ?_) (fun c_2 => ?_)
  ·
    exact absurd c_2 (by omega)
  ·
    refine v_iload_n X 1 dX5_foresee_5 rfl rfl ?_
    refine v_sipush (v := 150) X (by decide) dX5_foresee_6 ?_
    refine v_ncmp_le X h 150 rfl rfl (by omega) (by omega) (tgt := 22) dX5_foresee_9 (by decide) (fun c_9 => ?_) (fun c_9 => ?_)
    ·
      refine v_iload_n X 2 dX5_foresee_22 rfl rfl ?_
      refine v_if_lt X (tgt := 31) dX5_foresee_23 (by decide) (fun q => absurd q (nI_pos (by omega))) (fun _ => ?_)
      refine v_iload_n X 2 dX5_foresee_26 rfl rfl ?_
      refine v_iconst (v := 4) X (by decide) dX5_foresee_27 ?_
      refine v_ncmp_lt X k 4 rfl rfl (by omega) (by omega) (tgt := 41) dX5_foresee_28 (by decide) (fun c_28 => ?_) (fun c_28 => ?_)
      ·
        refine v_aload_n X 0 dX5_foresee_41 rfl rfl ?_
        refine v_getX X 4 (by decide) hi_X5_foresee_X5 hl_X5_foresee_31 rfl (v := .ref (o + pS 1)) rfl dX5_foresee_42 ?_
        refine v_aload_n X 0 dX5_foresee_45 rfl rfl ?_
        refine v_getX X 3 (by decide) hi_X5_foresee_X5 hl_X5_foresee_27 rfl (v := .ref (o + pS 0)) rfl dX5_foresee_46 ?_
        refine v_callVUf X [.ref (o + pS 0)] (pS 1) (pS_lt (by omega)) (c_X1_copyFrom l G cI cZ cT o S n hok.1 hok.2.1 hbo) (zc_S cI cZ cT o _ (by omega)) (C := RX1) (T := TX1) (N := 4) rfl 1 rfl gX5_foresee_X1_copyFrom rfl ⟨rfl, rfl⟩ hy_X1_copyFrom_V ⟨Nat.le_of_ble_eq_true rfl, Nat.le_of_ble_eq_true rfl⟩ rfl (Nat.le_of_ble_eq_true rfl) dX5_foresee_49 ?_
        refine v_aload_n X 0 dX5_foresee_52 rfl rfl ?_
        refine v_getX X 4 (by decide) hi_X5_foresee_X5 hl_X5_foresee_31 rfl (v := .ref (o + pS 1)) rfl dX5_foresee_53 ?_
        refine v_iload_n X 1 dX5_foresee_56 rfl rfl ?_
        refine v_callVUf X [.int (nI h)] (pS 1) (pS_lt (by omega)) (c_X1_letHoursGoBy l G cI cZ cT o (s_scopy S n) 1 n h (by omega) (by omega) (ok_scopy hok hrg)) (zc_S cI cZ cT o _ (by omega)) (C := RX1) (T := TX1) (N := 4) rfl 1 rfl gX5_foresee_X1_letHoursGoBy rfl ⟨rfl, rfl⟩ hy_X1_letHoursGoBy_V ⟨Nat.le_of_ble_eq_true rfl, Nat.le_of_ble_eq_true rfl⟩ rfl (Nat.le_of_ble_eq_true rfl) dX5_foresee_57 ?_
        refine v_st (S' := s_ahead S n h) (rfl) ?_
        refine v_iload_n X 2 dX5_foresee_60 rfl rfl ?_
        rcases (show k = 0 ∨ k = 1 ∨ k = 2 ∨ k = 3 by omega) with rfl | rfl | rfl | rfl
        ·
          refine v_tsw X (off := 27) (tgt := 88) dX5_foresee_61 (by decide) (by decide) (by decide) (by decide) ?_
          refine v_aload_n X 0 dX5_foresee_88 rfl rfl ?_
          refine v_getX X 4 (by decide) hi_X5_foresee_X5 hl_X5_foresee_31 rfl (v := .ref (o + pS 1)) rfl dX5_foresee_89 ?_
          refine v_getS X (by omega) 0 (by decide) hi_X5_foresee_X1 hl_X5_foresee_64 rfl (v := .ref (o + pG 1)) rfl dX5_foresee_92 ?_
          refine v_getG X (by omega) 11 (by decide) hi_X5_foresee_X0 hl_X5_foresee_157 rfl (v := .int ((s_ahead S n h) 1 11 0)) rfl dX5_foresee_95 ?_
          refine v_aload_n X 0 dX5_foresee_98 rfl rfl ?_
          refine v_getX X 3 (by decide) hi_X5_foresee_X5 hl_X5_foresee_27 rfl (v := .ref (o + pS 0)) rfl dX5_foresee_99 ?_
          refine v_getS X (by omega) 0 (by decide) hi_X5_foresee_X1 hl_X5_foresee_64 rfl (v := .ref (o + pG 0)) rfl dX5_foresee_102 ?_
          refine v_getG X (by omega) 11 (by decide) hi_X5_foresee_X0 hl_X5_foresee_157 rfl (v := .int ((s_ahead S n h) 0 11 0)) rfl dX5_foresee_105 ?_
          refine v_isub X dX5_foresee_108 ?_
          exact v_iret X dX5_foresee_109 (by simp [s_foresee])
        ·
          refine v_tsw X (off := 49) (tgt := 110) dX5_foresee_61 (by decide) (by decide) (by decide) (by decide) ?_
          refine v_aload_n X 0 dX5_foresee_110 rfl rfl ?_
          refine v_getX X 4 (by decide) hi_X5_foresee_X5 hl_X5_foresee_31 rfl (v := .ref (o + pS 1)) rfl dX5_foresee_111 ?_
          refine v_iconst (v := 0) X (by decide) dX5_foresee_114 ?_
          refine v_callVIf X [.int 0] (pS 1) (pS_lt (by omega)) (c_X1_teamsLeft l G cI cZ cT o (s_ahead S n h) 1 n 0 (by omega) (ok_hours (ok_scopy hok hrg) h)) (zc_S cI cZ cT o _ (by omega)) (C := RX1) (T := TX1) (N := 4) rfl 1 rfl gX5_foresee_X1_teamsLeft rfl ⟨rfl, rfl⟩ hy_X1_teamsLeft_V ⟨Nat.le_of_ble_eq_true rfl, Nat.le_of_ble_eq_true rfl⟩ rfl (Nat.le_of_ble_eq_true rfl) dX5_foresee_115 ?_
          exact v_iret X dX5_foresee_118 (by simp [s_foresee])
        ·
          refine v_tsw X (off := 58) (tgt := 119) dX5_foresee_61 (by decide) (by decide) (by decide) (by decide) ?_
          refine v_aload_n X 0 dX5_foresee_119 rfl rfl ?_
          refine v_getX X 4 (by decide) hi_X5_foresee_X5 hl_X5_foresee_31 rfl (v := .ref (o + pS 1)) rfl dX5_foresee_120 ?_
          refine v_iconst (v := 1) X (by decide) dX5_foresee_123 ?_
          refine v_callVIf X [.int 1] (pS 1) (pS_lt (by omega)) (c_X1_teamsLeft l G cI cZ cT o (s_ahead S n h) 1 n 1 (by omega) (ok_hours (ok_scopy hok hrg) h)) (zc_S cI cZ cT o _ (by omega)) (C := RX1) (T := TX1) (N := 4) rfl 1 rfl gX5_foresee_X1_teamsLeft rfl ⟨rfl, rfl⟩ hy_X1_teamsLeft_V ⟨Nat.le_of_ble_eq_true rfl, Nat.le_of_ble_eq_true rfl⟩ rfl (Nat.le_of_ble_eq_true rfl) dX5_foresee_124 ?_
          exact v_iret X dX5_foresee_127 (by simp [s_foresee])
        ·
          refine v_tswO X (tgt := 128) dX5_foresee_61 (by decide) (by decide) ?_
          refine v_aload_n X 0 dX5_foresee_128 rfl rfl ?_
          refine v_getX X 4 (by decide) hi_X5_foresee_X5 hl_X5_foresee_31 rfl (v := .ref (o + pS 1)) rfl dX5_foresee_129 ?_
          refine v_getS X (by omega) 0 (by decide) hi_X5_foresee_X1 hl_X5_foresee_64 rfl (v := .ref (o + pG 1)) rfl dX5_foresee_132 ?_
          refine v_getG X (by omega) 10 (by decide) hi_X5_foresee_X0 hl_X5_foresee_196 rfl (v := .int ((s_ahead S n h) 1 10 0)) rfl dX5_foresee_135 ?_
          refine v_aload_n X 0 dX5_foresee_138 rfl rfl ?_
          refine v_getX X 3 (by decide) hi_X5_foresee_X5 hl_X5_foresee_27 rfl (v := .ref (o + pS 0)) rfl dX5_foresee_139 ?_
          refine v_getS X (by omega) 0 (by decide) hi_X5_foresee_X1 hl_X5_foresee_64 rfl (v := .ref (o + pG 0)) rfl dX5_foresee_142 ?_
          refine v_getG X (by omega) 10 (by decide) hi_X5_foresee_X0 hl_X5_foresee_196 rfl (v := .int ((s_ahead S n h) 0 10 0)) rfl dX5_foresee_145 ?_
          refine v_isub X dX5_foresee_148 ?_
          exact v_iret X dX5_foresee_149 (by simp [s_foresee])
      ·
        exact absurd c_28 (by omega)
    ·
      exact absurd c_9 (by omega)
theorem hi_X5_falls_X5 : ∀ w ∈ wsX50, w ∈ wsX5_falls := by decide +kernel
theorem hl_X5_falls_31 : Cond.fieldLink RX5 31 RX5 (TX5 4).2.1 (TX5 4).2.2.1 ∈ wsX5_falls := by decide +kernel
theorem hl_X5_falls_27 : Cond.fieldLink RX5 27 RX5 (TX5 3).2.1 (TX5 3).2.2.1 ∈ wsX5_falls := by decide +kernel
theorem hi_X5_falls_X1 : ∀ w ∈ wsX10, w ∈ wsX5_falls := by decide +kernel
theorem hl_X5_falls_64 : Cond.fieldLink RX5 64 RX1 (TX1 0).2.1 (TX1 0).2.2.1 ∈ wsX5_falls := by decide +kernel
theorem hi_X5_falls_X0 : ∀ w ∈ wsX00, w ∈ wsX5_falls := by decide +kernel
theorem hl_X5_falls_199 : Cond.fieldLink RX5 199 RX0 (TX0 8).2.1 (TX0 8).2.2.1 ∈ wsX5_falls := by decide +kernel
set_option maxRecDepth 100000 in
set_option maxHeartbeats 4000000 in
/-- X5_falls -/
theorem c_X5_falls (l : Launch) (G : va_G) (cI cZ cT : ClassId) (o : Nat) (S : zS) (n x y : Nat) (hok : z_ok S 0 n) (hrg : z_rg S 1) (hbo : z_bo S 0) (hx : x < 12) (hy : y < 12) : zI l G cI cZ cT o yX5_falls wsX5_falls { frames := 6, cells := 0, slots := 0, locals := 135 } [.ref (o + 0), .int (nI x), .int (nI y)] S (fun _ u => ∃ i, u = s_hours (s_scopy S n) 1 n i) := by
  refine z_ofI (cc := cX5_falls) (maxL := 5) (by decide) rfl (by simp [lg_sl, Value.category]) ?_
  intro p9 e9 s9 m9 a9 b9 h9 c9 X
  refine v_lo [0, 1, 2] (lo' := [(0, .ref (o + 0)), (1, .int (nI x)), (2, .int (nI y))]) rfl ?_
  refine v_iload_n X 1 dX5_falls_0 rfl rfl ?_
  refine v_iload_n X 2 dX5_falls_1 rfl rfl ?_
  refine v_callSIf X [.int (nI x), .int (nI y)] (c_X5_isInside l G cI cZ cT o S x y (by omega) (by omega)) 2 rfl gX5_falls_X5_isInside rfl ⟨rfl, rfl⟩ hy_X5_isInside_S ⟨Nat.le_of_ble_eq_true rfl, Nat.le_of_ble_eq_true rfl⟩ rfl (Nat.le_of_ble_eq_true rfl) dX5_falls_2 ?_
  refine v_if_ne X (tgt := 18) dX5_falls_5 (by decide) (fun _ => ?_) (fun q => absurd q (by decide))
  refine v_iload_n X 1 dX5_falls_18 rfl rfl ?_
  refine v_iload_n X 2 dX5_falls_19 rfl rfl ?_
  refine v_callSIf X [.int (nI x), .int (nI y)] (c_X5_cellAt l G cI cZ cT o S x y (by omega) (by omega)) 2 rfl gX5_falls_X5_cellAt rfl ⟨rfl, rfl⟩ hy_X5_cellAt_S ⟨Nat.le_of_ble_eq_true rfl, Nat.le_of_ble_eq_true rfl⟩ rfl (Nat.le_of_ble_eq_true rfl) dX5_falls_20 ?_
  refine v_istore_n (lo' := [(3, .int (nI (12 * y + x))), (0, .ref (o + 0)), (1, .int (nI x)), (2, .int (nI y))]) X dX5_falls_23 rfl (by decide) rfl ?_
  refine v_aload_n X 1 dX5_falls_24 rfl rfl ?_
  refine v_getX X 4 (by decide) hi_X5_falls_X5 hl_X5_falls_31 rfl (v := .ref (o + pS 1)) rfl dX5_falls_25 ?_
  refine v_aload_n X 1 dX5_falls_28 rfl rfl ?_
  refine v_getX X 3 (by decide) hi_X5_falls_X5 hl_X5_falls_27 rfl (v := .ref (o + pS 0)) rfl dX5_falls_29 ?_
  refine v_callVUf X [.ref (o + pS 0)] (pS 1) (pS_lt (by omega)) (c_X1_copyFrom l G cI cZ cT o S n hok.1 hok.2.1 hbo) (zc_S cI cZ cT o _ (by omega)) (C := RX1) (T := TX1) (N := 4) rfl 1 rfl gX5_falls_X1_copyFrom rfl ⟨rfl, rfl⟩ hy_X1_copyFrom_V ⟨Nat.le_of_ble_eq_true rfl, Nat.le_of_ble_eq_true rfl⟩ rfl (Nat.le_of_ble_eq_true rfl) dX5_falls_32 ?_
  refine v_iconst (v := 1) X (by decide) dX5_falls_35 ?_
  refine v_istore (lo' := [(4, .int 1), (3, .int (nI (12 * y + x))), (0, .ref (o + 0)), (1, .int (nI x)), (2, .int (nI y))]) X dX5_falls_36 (by decide) rfl ?_
  have L_38 : ∀ (d i : Nat), i + d = 150 → z_V p9 l e9 (headSpec wsX5_falls { frames := 6, cells := 0, slots := 0, locals := 135 }).room s9 m9 a9 b9 h9 c9 (MQ b9 (va_Qi (fun _ u => ∃ i, u = s_hours (s_scopy S n) 1 n i) (z_B G cI cZ cT o) (z_A o s9.heap.size)) a9 s9 0 0 (z_A o s9.heap.size)) G cI cZ cT o 5 (s_hours (s_scopy S n) 1 n i) 38 [(0, .ref (o + 0)), (1, .int (nI x)), (2, .int (nI y)), (3, .int (nI (12 * y + x))), (4, .int (nI (i + 1)))] [] := by
    intro d
    induction d with
    | zero =>
      intro i hi_38
      have he_38 : i = 150 := by omega
      rw [he_38]
      refine v_iload X 4 dX5_falls_38 rfl ?_
      refine v_sipush (v := 150) X (by decide) dX5_falls_40 ?_
      refine v_ncmp_gt X (150 + 1) 150 rfl rfl (by omega) (by omega) (tgt := 78) dX5_falls_43 (by decide) (fun c_43 => ?_) (fun c_43 => ?_)
      ·
        refine v_iconst (v := -1) X (by decide) dX5_falls_78 ?_
        exact v_iret X dX5_falls_79 (by exact ⟨150, rfl⟩)
      ·
        exact absurd c_43 (by omega)
    | succ d ih_38 =>
      intro i hi_38
      refine v_iload X 4 dX5_falls_38 rfl ?_
      refine v_sipush (v := 150) X (by decide) dX5_falls_40 ?_
      refine v_ncmp_gt X (i + 1) 150 rfl rfl (by omega) (by omega) (tgt := 78) dX5_falls_43 (by decide) (fun c_43 => ?_) (fun c_43 => ?_)
      ·
        exact absurd c_43 (by omega)
      ·
        refine v_aload_n X 0 dX5_falls_46 rfl rfl ?_
        refine v_getX X 4 (by decide) hi_X5_falls_X5 hl_X5_falls_31 rfl (v := .ref (o + pS 1)) rfl dX5_falls_47 ?_
        refine v_iconst (v := 1) X (by decide) dX5_falls_50 ?_
        refine v_callVUf X [.int 1] (pS 1) (pS_lt (by omega)) (c_X1_letHoursGoBy l G cI cZ cT o (s_hours (s_scopy S n) 1 n i) 1 n 1 (by omega) (by omega) (ok_hours (ok_scopy hok hrg) i)) (zc_S cI cZ cT o _ (by omega)) (C := RX1) (T := TX1) (N := 4) rfl 1 rfl gX5_falls_X1_letHoursGoBy rfl ⟨rfl, rfl⟩ hy_X1_letHoursGoBy_V ⟨Nat.le_of_ble_eq_true rfl, Nat.le_of_ble_eq_true rfl⟩ rfl (Nat.le_of_ble_eq_true rfl) dX5_falls_51 ?_
        refine v_aload_n X 0 dX5_falls_54 rfl rfl ?_
        refine v_getX X 4 (by decide) hi_X5_falls_X5 hl_X5_falls_31 rfl (v := .ref (o + pS 1)) rfl dX5_falls_55 ?_
        refine v_getS X (by omega) 0 (by decide) hi_X5_falls_X1 hl_X5_falls_64 rfl (v := .ref (o + pG 1)) rfl dX5_falls_58 ?_
        refine v_getG X (by omega) 8 (by decide) hi_X5_falls_X0 hl_X5_falls_199 rfl (v := .ref (o + pA 1 8)) rfl dX5_falls_61 ?_
        refine v_iload_n X 3 dX5_falls_64 rfl rfl ?_
        refine v_ialdA X (w := 1) (by omega) 8 (by omega) (12 * y + x) rfl (by omega) dX5_falls_65 ?_
        refine v_if_eq X (tgt := 72) dX5_falls_66 (by decide) (fun c_66 => ?_) (fun c_66 => ?_)
        ·
          refine v_iinc (v := nI (i + 1 + 1)) (lo' := [(4, .int (nI (i + 1 + 1))), (0, .ref (o + 0)), (1, .int (nI x)), (2, .int (nI y)), (3, .int (nI (12 * y + x)))]) X 4 dX5_falls_72 rfl (nI_1 (i + 1)) (by decide) rfl ?_
          refine v_goto (tgt := 38) X dX5_falls_75 (by decide) ?_
          refine v_lo [1, 2, 3, 4, 0] (lo' := [(0, .ref (o + 0)), (1, .int (nI x)), (2, .int (nI y)), (3, .int (nI (12 * y + x))), (4, .int (nI (i + 1 + 1)))]) rfl ?_
          refine v_eq (S' := s_hours (s_scopy S n) 1 n (i + 1)) (lo' := [(0, .ref (o + 0)), (1, .int (nI x)), (2, .int (nI y)), (3, .int (nI (12 * y + x))), (4, .int (nI (i + 1 + 1)))]) (by rfl) (by rfl) ?_
          exact ih_38 (i + 1) (by omega)
        ·
          refine v_iload X 4 dX5_falls_69 rfl ?_
          exact v_iret X dX5_falls_71 (by exact ⟨i + 1, rfl⟩)
  refine v_lo [2, 3, 4, 1, 0] (lo' := [(0, .ref (o + 0)), (1, .int (nI x)), (2, .int (nI y)), (3, .int (nI (12 * y + x))), (4, .int 1)]) rfl ?_
  refine v_eq (S' := s_hours (s_scopy S n) 1 n 0) (lo' := [(0, .ref (o + 0)), (1, .int (nI x)), (2, .int (nI y)), (3, .int (nI (12 * y + x))), (4, .int (nI (0 + 1)))]) (by rfl) (by rfl) ?_
  exact L_38 (150) 0 (by omega)
theorem hw_X5_digest_k217 : Jvm.Cond.constantLong RX5 217 (709) ∈ wsX5_digest := by decide +kernel
theorem hi_X5_digest_X5 : ∀ w ∈ wsX50, w ∈ wsX5_digest := by decide +kernel
theorem hl_X5_digest_27 : Cond.fieldLink RX5 27 RX5 (TX5 3).2.1 (TX5 3).2.2.1 ∈ wsX5_digest := by decide +kernel
theorem hi_X5_digest_X1 : ∀ w ∈ wsX10, w ∈ wsX5_digest := by decide +kernel
theorem hl_X5_digest_77 : Cond.fieldLink RX5 77 RX1 (TX1 2).2.1 (TX1 2).2.2.1 ∈ wsX5_digest := by decide +kernel
theorem hl_X5_digest_20 : Cond.fieldLink RX5 20 RX5 (TX5 2).2.1 (TX5 2).2.2.1 ∈ wsX5_digest := by decide +kernel
theorem hw_X5_digest_k219 : Jvm.Cond.constantLong RX5 219 (31) ∈ wsX5_digest := by decide +kernel
theorem hl_X5_digest_16 : Cond.fieldLink RX5 16 RX5 (TX5 1).2.1 (TX5 1).2.2.1 ∈ wsX5_digest := by decide +kernel
theorem hl_X5_digest_117 : Cond.fieldLink RX5 117 RX1 (TX1 1).2.1 (TX1 1).2.2.1 ∈ wsX5_digest := by decide +kernel
theorem hl_X5_digest_64 : Cond.fieldLink RX5 64 RX1 (TX1 0).2.1 (TX1 0).2.2.1 ∈ wsX5_digest := by decide +kernel
set_option maxRecDepth 100000 in
set_option maxHeartbeats 4000000 in
/-- X5_digest -/
theorem c_X5_digest (l : Launch) (G : va_G) (cI cZ cT : ClassId) (o : Nat) (S : zS) (n P : Nat) (hok : z_ok S 0 n) (hP : P ≤ 156) (eP : S 2 3 0 = nI P) : zL l G cI cZ cT o yX5_digest wsX5_digest { frames := 3, cells := 0, slots := 0, locals := 65 } [.ref (o + 0)] S (fun r u => r = s_digest S n P ∧ u = S) := by
  refine z_ofL (cc := cX5_digest) (maxL := 5) (by decide) rfl (by simp [lg_sl, Value.category]) ?_
  intro p9 e9 s9 m9 a9 b9 h9 c9 X
  refine v_lo [0] (lo' := [(0, .ref (o + 0))]) rfl ?_
  have hn8 := hok.2.1
  refine v_ldc2 X hw_X5_digest_k217 dX5_digest_0 ?_
  refine v_lstore_n (lo' := [(1, .long (709)), (0, .ref (o + 0))]) X dX5_digest_3 rfl (by decide) rfl ?_
  refine v_iconst (v := 0) X (by decide) dX5_digest_4 ?_
  refine v_istore_n (lo' := [(3, .int 0), (1, .long (709)), (0, .ref (o + 0))]) X dX5_digest_5 rfl (by decide) rfl ?_
  have L_6 : ∀ (d i : Nat), i + d = 12 → z_V p9 l e9 (headSpec wsX5_digest { frames := 3, cells := 0, slots := 0, locals := 65 }).room s9 m9 a9 b9 h9 c9 (MQ b9 (va_Ql (fun r u => r = s_digest S n P ∧ u = S) (z_B G cI cZ cT o) (z_A o s9.heap.size)) a9 s9 0 0 (z_A o s9.heap.size)) G cI cZ cT o 5 (S) 6 [(0, .ref (o + 0)), (1, .long (s_dg1 S n i)), (3, .int (nI i))] [] := by
    intro d
    induction d with
    | zero =>
      intro i hi_6
      have he_6 : i = 12 := by omega
      rw [he_6]
      refine v_iload_n X 2 dX5_digest_6 rfl rfl ?_
      refine v_bipush (v := 12) X (by decide) dX5_digest_7 ?_
      refine v_ncmp_ge X 12 12 rfl rfl (by omega) (by omega) (tgt := 31) dX5_digest_9 (by decide) (fun c_9 => ?_) (fun c_9 => ?_)
      ·
        refine v_iconst (v := 0) X (by decide) dX5_digest_31 ?_
        refine v_istore_n (lo' := [(3, .int 0), (0, .ref (o + 0)), (1, .long (s_dg1 S n 12))]) X dX5_digest_32 rfl (by decide) rfl ?_
        have L_33 : ∀ (d i : Nat), i + d = 144 → z_V p9 l e9 (headSpec wsX5_digest { frames := 3, cells := 0, slots := 0, locals := 65 }).room s9 m9 a9 b9 h9 c9 (MQ b9 (va_Ql (fun r u => r = s_digest S n P ∧ u = S) (z_B G cI cZ cT o) (z_A o s9.heap.size)) a9 s9 0 0 (z_A o s9.heap.size)) G cI cZ cT o 5 (S) 33 [(0, .ref (o + 0)), (1, .long (s_dg2 S (s_dg1 S n 12) i)), (3, .int (nI i))] [] := by
          intro d
          induction d with
          | zero =>
            intro i hi_33
            have he_33 : i = 144 := by omega
            rw [he_33]
            refine v_iload_n X 2 dX5_digest_33 rfl rfl ?_
            refine v_sipush (v := 144) X (by decide) dX5_digest_34 ?_
            refine v_ncmp_ge X 144 144 rfl rfl (by omega) (by omega) (tgt := 83) dX5_digest_37 (by decide) (fun c_37 => ?_) (fun c_37 => ?_)
            ·
              refine v_iconst (v := 0) X (by decide) dX5_digest_83 ?_
              refine v_istore_n (lo' := [(3, .int 0), (0, .ref (o + 0)), (1, .long (s_dg2 S (s_dg1 S n 12) 144))]) X dX5_digest_84 rfl (by decide) rfl ?_
              have L_85 : ∀ (d i : Nat), i + d = n → z_V p9 l e9 (headSpec wsX5_digest { frames := 3, cells := 0, slots := 0, locals := 65 }).room s9 m9 a9 b9 h9 c9 (MQ b9 (va_Ql (fun r u => r = s_digest S n P ∧ u = S) (z_B G cI cZ cT o) (z_A o s9.heap.size)) a9 s9 0 0 (z_A o s9.heap.size)) G cI cZ cT o 5 (S) 85 [(0, .ref (o + 0)), (1, .long (s_dg3 S (s_dg2 S (s_dg1 S n 12) 144) i)), (3, .int (nI i))] [] := by
                intro d
                induction d with
                | zero =>
                  intro i hi_85
                  have he_85 : i = n := by omega
                  rw [he_85]
                  refine v_iload_n X 2 dX5_digest_85 rfl rfl ?_
                  refine v_aload_n X 0 dX5_digest_86 rfl rfl ?_
                  refine v_getX X 3 (by decide) hi_X5_digest_X5 hl_X5_digest_27 rfl (v := .ref (o + pS 0)) rfl dX5_digest_87 ?_
                  refine v_getS X (by omega) 2 (by decide) hi_X5_digest_X1 hl_X5_digest_77 rfl (v := .int (S 0 12 0)) rfl dX5_digest_90 ?_
                  refine v_top (y := nI n) (hok.1) ?_
                  refine v_ncmp_ge X n n rfl rfl (by omega) (by omega) (tgt := 177) dX5_digest_93 (by decide) (fun c_93 => ?_) (fun c_93 => ?_)
                  ·
                    refine v_iconst (v := 0) X (by decide) dX5_digest_177 ?_
                    refine v_istore_n (lo' := [(3, .int 0), (0, .ref (o + 0)), (1, .long (s_dg3 S (s_dg2 S (s_dg1 S n 12) 144) n))]) X dX5_digest_178 rfl (by decide) rfl ?_
                    have L_179 : ∀ (d i : Nat), i + d = P → z_V p9 l e9 (headSpec wsX5_digest { frames := 3, cells := 0, slots := 0, locals := 65 }).room s9 m9 a9 b9 h9 c9 (MQ b9 (va_Ql (fun r u => r = s_digest S n P ∧ u = S) (z_B G cI cZ cT o) (z_A o s9.heap.size)) a9 s9 0 0 (z_A o s9.heap.size)) G cI cZ cT o 5 (S) 179 [(0, .ref (o + 0)), (1, .long (s_dg4 S (s_dg3 S (s_dg2 S (s_dg1 S n 12) 144) n) i)), (3, .int (nI i))] [] := by
                      intro d
                      induction d with
                      | zero =>
                        intro i hi_179
                        have he_179 : i = P := by omega
                        rw [he_179]
                        refine v_iload_n X 2 dX5_digest_179 rfl rfl ?_
                        refine v_aload_n X 0 dX5_digest_180 rfl rfl ?_
                        refine v_getX X 2 (by decide) hi_X5_digest_X5 hl_X5_digest_20 rfl (v := .int (S 2 3 0)) rfl dX5_digest_181 ?_
                        refine v_top (y := nI P) (eP) ?_
                        refine v_ncmp_ge X P P rfl rfl (by omega) (by omega) (tgt := 207) dX5_digest_184 (by decide) (fun c_184 => ?_) (fun c_184 => ?_)
                        ·
                          refine v_lload_n X 1 dX5_digest_207 rfl rfl ?_
                          exact v_lret X dX5_digest_208 (by exact ⟨rfl, rfl⟩)
                        ·
                          exact absurd c_184 (by omega)
                      | succ d ih_179 =>
                        intro i hi_179
                        refine v_iload_n X 2 dX5_digest_179 rfl rfl ?_
                        refine v_aload_n X 0 dX5_digest_180 rfl rfl ?_
                        refine v_getX X 2 (by decide) hi_X5_digest_X5 hl_X5_digest_20 rfl (v := .int (S 2 3 0)) rfl dX5_digest_181 ?_
                        refine v_top (y := nI P) (eP) ?_
                        refine v_ncmp_ge X i P rfl rfl (by omega) (by omega) (tgt := 207) dX5_digest_184 (by decide) (fun c_184 => ?_) (fun c_184 => ?_)
                        ·
                          exact absurd c_184 (by omega)
                        ·
                          refine v_lload_n X 1 dX5_digest_187 rfl rfl ?_
                          refine v_ldc2 X hw_X5_digest_k219 dX5_digest_188 ?_
                          refine v_lmul X dX5_digest_191 ?_
                          refine v_aload_n X 0 dX5_digest_192 rfl rfl ?_
                          refine v_getX X 1 (by decide) hi_X5_digest_X5 hl_X5_digest_16 rfl (v := .ref (o + 3)) rfl dX5_digest_193 ?_
                          refine v_iload_n X 2 dX5_digest_196 rfl rfl ?_
                          refine v_ald X 3 (by decide) (zc_3 cI cZ cT o _) i rfl (by omega) (by decide) dX5_digest_197 ?_
                          refine v_i2l X dX5_digest_198 ?_
                          refine v_ladd X dX5_digest_199 ?_
                          refine v_lstore_n (lo' := [(1, .long (((s_dg4 S (s_dg3 S (s_dg2 S (s_dg1 S n 12) 144) n) i) * 31) + ((S 2 2 i).toInt64))), (0, .ref (o + 0)), (3, .int (nI i))]) X dX5_digest_200 rfl (by decide) rfl ?_
                          refine v_iinc (v := nI (i + 1)) (lo' := [(3, .int (nI (i + 1))), (1, .long (((s_dg4 S (s_dg3 S (s_dg2 S (s_dg1 S n 12) 144) n) i) * 31) + ((S 2 2 i).toInt64))), (0, .ref (o + 0))]) X 2 dX5_digest_201 rfl (nI_1 i) (by decide) rfl ?_
                          refine v_goto (tgt := 179) X dX5_digest_204 (by decide) ?_
                          refine v_lo [2, 1, 0] (lo' := [(0, .ref (o + 0)), (1, .long (((s_dg4 S (s_dg3 S (s_dg2 S (s_dg1 S n 12) 144) n) i) * 31) + ((S 2 2 i).toInt64))), (3, .int (nI (i + 1)))]) rfl ?_
                          refine v_eq (S' := S) (lo' := [(0, .ref (o + 0)), (1, .long (s_dg4 S (s_dg3 S (s_dg2 S (s_dg1 S n 12) 144) n) (i + 1))), (3, .int (nI (i + 1)))]) (by rfl) (by rfl) ?_
                          exact ih_179 (i + 1) (by omega)
                    refine v_lo [1, 2, 0] (lo' := [(0, .ref (o + 0)), (1, .long (s_dg3 S (s_dg2 S (s_dg1 S n 12) 144) n)), (3, .int 0)]) rfl ?_
                    refine v_eq (S' := S) (lo' := [(0, .ref (o + 0)), (1, .long (s_dg4 S (s_dg3 S (s_dg2 S (s_dg1 S n 12) 144) n) 0)), (3, .int (nI 0))]) (by rfl) (by rfl) ?_
                    exact L_179 (P) 0 (by omega)
                  ·
                    exact absurd c_93 (by omega)
                | succ d ih_85 =>
                  intro i hi_85
                  have hc9 := (hok.2.2 i (by omega)).1.2
                  refine v_iload_n X 2 dX5_digest_85 rfl rfl ?_
                  refine v_aload_n X 0 dX5_digest_86 rfl rfl ?_
                  refine v_getX X 3 (by decide) hi_X5_digest_X5 hl_X5_digest_27 rfl (v := .ref (o + pS 0)) rfl dX5_digest_87 ?_
                  refine v_getS X (by omega) 2 (by decide) hi_X5_digest_X1 hl_X5_digest_77 rfl (v := .int (S 0 12 0)) rfl dX5_digest_90 ?_
                  refine v_top (y := nI n) (hok.1) ?_
                  refine v_ncmp_ge X i n rfl rfl (by omega) (by omega) (tgt := 177) dX5_digest_93 (by decide) (fun c_93 => ?_) (fun c_93 => ?_)
                  ·
                    exact absurd c_93 (by omega)
                  ·
                    refine v_iconst (v := 0) X (by decide) dX5_digest_96 ?_
                    refine v_istore (lo' := [(4, .int 0), (0, .ref (o + 0)), (1, .long (s_dg3 S (s_dg2 S (s_dg1 S n 12) 144) i)), (3, .int (nI i))]) X dX5_digest_97 (by decide) rfl ?_
                    have L_99 : ∀ (d q9 : Nat), q9 + d = 10 → z_V p9 l e9 (headSpec wsX5_digest { frames := 3, cells := 0, slots := 0, locals := 65 }).room s9 m9 a9 b9 h9 c9 (MQ b9 (va_Ql (fun r u => r = s_digest S n P ∧ u = S) (z_B G cI cZ cT o) (z_A o s9.heap.size)) a9 s9 0 0 (z_A o s9.heap.size)) G cI cZ cT o 5 (S) 99 [(0, .ref (o + 0)), (1, .long (s_dgt S i (s_dg3 S (s_dg2 S (s_dg1 S n 12) 144) i) q9)), (3, .int (nI i)), (4, .int (nI q9))] [] := by
                      intro d
                      induction d with
                      | zero =>
                        intro q9 hi_99
                        have he_99 : q9 = 10 := by omega
                        rw [he_99]
                        refine v_iload X 3 dX5_digest_99 rfl ?_
                        refine v_bipush (v := 10) X (by decide) dX5_digest_101 ?_
                        refine v_ncmp_ge X 10 10 rfl rfl (by omega) (by omega) (tgt := 134) dX5_digest_103 (by decide) (fun c_103 => ?_) (fun c_103 => ?_)
                        ·
                          refine v_iconst (v := 0) X (by decide) dX5_digest_134 ?_
                          refine v_istore (lo' := [(4, .int 0), (0, .ref (o + 0)), (1, .long (s_dgt S i (s_dg3 S (s_dg2 S (s_dg1 S n 12) 144) i) 10)), (3, .int (nI i))]) X dX5_digest_135 (by decide) rfl ?_
                          have L_137 : ∀ (d q9 : Nat), q9 + d = 3 → z_V p9 l e9 (headSpec wsX5_digest { frames := 3, cells := 0, slots := 0, locals := 65 }).room s9 m9 a9 b9 h9 c9 (MQ b9 (va_Ql (fun r u => r = s_digest S n P ∧ u = S) (z_B G cI cZ cT o) (z_A o s9.heap.size)) a9 s9 0 0 (z_A o s9.heap.size)) G cI cZ cT o 5 (S) 137 [(0, .ref (o + 0)), (1, .long (s_dgh S i (s_dgt S i (s_dg3 S (s_dg2 S (s_dg1 S n 12) 144) i) 10) q9)), (3, .int (nI i)), (4, .int (nI q9))] [] := by
                            intro d
                            induction d with
                            | zero =>
                              intro q9 hi_137
                              have he_137 : q9 = 3 := by omega
                              rw [he_137]
                              refine v_iload X 3 dX5_digest_137 rfl ?_
                              refine v_iconst (v := 3) X (by decide) dX5_digest_139 ?_
                              refine v_ncmp_ge X 3 3 rfl rfl (by omega) (by omega) (tgt := 171) dX5_digest_140 (by decide) (fun c_140 => ?_) (fun c_140 => ?_)
                              ·
                                refine v_iinc (v := nI (i + 1)) (lo' := [(3, .int (nI (i + 1))), (0, .ref (o + 0)), (1, .long (s_dgh S i (s_dgt S i (s_dg3 S (s_dg2 S (s_dg1 S n 12) 144) i) 10) 3)), (4, .int (nI 3))]) X 2 dX5_digest_171 rfl (nI_1 i) (by decide) rfl ?_
                                refine v_goto (tgt := 85) X dX5_digest_174 (by decide) ?_
                                refine v_lo [1, 2, 0] (lo' := [(0, .ref (o + 0)), (1, .long (s_dgh S i (s_dgt S i (s_dg3 S (s_dg2 S (s_dg1 S n 12) 144) i) 10) 3)), (3, .int (nI (i + 1)))]) rfl ?_
                                refine v_eq (S' := S) (lo' := [(0, .ref (o + 0)), (1, .long (s_dg3 S (s_dg2 S (s_dg1 S n 12) 144) (i + 1))), (3, .int (nI (i + 1)))]) (by rfl) (by rfl) ?_
                                exact ih_85 (i + 1) (by omega)
                              ·
                                exact absurd c_140 (by omega)
                            | succ d ih_137 =>
                              intro q9 hi_137
                              refine v_iload X 3 dX5_digest_137 rfl ?_
                              refine v_iconst (v := 3) X (by decide) dX5_digest_139 ?_
                              refine v_ncmp_ge X q9 3 rfl rfl (by omega) (by omega) (tgt := 171) dX5_digest_140 (by decide) (fun c_140 => ?_) (fun c_140 => ?_)
                              ·
                                exact absurd c_140 (by omega)
                              ·
                                refine v_lload_n X 1 dX5_digest_143 rfl rfl ?_
                                refine v_ldc2 X hw_X5_digest_k219 dX5_digest_144 ?_
                                refine v_lmul X dX5_digest_147 ?_
                                refine v_aload_n X 0 dX5_digest_148 rfl rfl ?_
                                refine v_getX X 3 (by decide) hi_X5_digest_X5 hl_X5_digest_27 rfl (v := .ref (o + pS 0)) rfl dX5_digest_149 ?_
                                refine v_getS X (by omega) 1 (by decide) hi_X5_digest_X1 hl_X5_digest_117 rfl (v := .ref (o + pL 0)) rfl dX5_digest_152 ?_
                                refine v_iload_n X 2 dX5_digest_155 rfl rfl ?_
                                refine v_aald X (w := 0) (by omega) i rfl (by omega) dX5_digest_156 ?_
                                refine v_iload X 3 dX5_digest_157 rfl ?_
                                refine v_callVIf X [.int (nI q9)] (pT 0 i) (pT_lt (by omega) (by omega)) (c_X3_heardValue l G cI cZ cT o S 0 i q9 (by omega) (by omega) (by omega)) (zc_T cI cZ cT o _ (by omega) (by omega)) (C := RX3) (T := TX3) (N := 16) rfl 1 rfl gX5_digest_X3_heardValue rfl ⟨rfl, rfl⟩ hy_X3_heardValue_V ⟨Nat.le_of_ble_eq_true rfl, Nat.le_of_ble_eq_true rfl⟩ rfl (Nat.le_of_ble_eq_true rfl) dX5_digest_159 ?_
                                refine v_i2l X dX5_digest_162 ?_
                                refine v_ladd X dX5_digest_163 ?_
                                refine v_lstore_n (lo' := [(1, .long (((s_dgh S i (s_dgt S i (s_dg3 S (s_dg2 S (s_dg1 S n 12) 144) i) 10) q9) * 31) + ((s_heardV S 0 i q9).toInt64))), (0, .ref (o + 0)), (3, .int (nI i)), (4, .int (nI q9))]) X dX5_digest_164 rfl (by decide) rfl ?_
                                refine v_iinc (v := nI (q9 + 1)) (lo' := [(4, .int (nI (q9 + 1))), (1, .long (((s_dgh S i (s_dgt S i (s_dg3 S (s_dg2 S (s_dg1 S n 12) 144) i) 10) q9) * 31) + ((s_heardV S 0 i q9).toInt64))), (0, .ref (o + 0)), (3, .int (nI i))]) X 3 dX5_digest_165 rfl (nI_1 q9) (by decide) rfl ?_
                                refine v_goto (tgt := 137) X dX5_digest_168 (by decide) ?_
                                refine v_lo [2, 1, 3, 0] (lo' := [(0, .ref (o + 0)), (1, .long (((s_dgh S i (s_dgt S i (s_dg3 S (s_dg2 S (s_dg1 S n 12) 144) i) 10) q9) * 31) + ((s_heardV S 0 i q9).toInt64))), (3, .int (nI i)), (4, .int (nI (q9 + 1)))]) rfl ?_
                                refine v_eq (S' := S) (lo' := [(0, .ref (o + 0)), (1, .long (s_dgh S i (s_dgt S i (s_dg3 S (s_dg2 S (s_dg1 S n 12) 144) i) 10) (q9 + 1))), (3, .int (nI i)), (4, .int (nI (q9 + 1)))]) (by rfl) (by rfl) ?_
                                exact ih_137 (q9 + 1) (by omega)
                          refine v_lo [1, 2, 3, 0] (lo' := [(0, .ref (o + 0)), (1, .long (s_dgt S i (s_dg3 S (s_dg2 S (s_dg1 S n 12) 144) i) 10)), (3, .int (nI i)), (4, .int 0)]) rfl ?_
                          refine v_eq (S' := S) (lo' := [(0, .ref (o + 0)), (1, .long (s_dgh S i (s_dgt S i (s_dg3 S (s_dg2 S (s_dg1 S n 12) 144) i) 10) 0)), (3, .int (nI i)), (4, .int (nI 0))]) (by rfl) (by rfl) ?_
                          exact L_137 (3) 0 (by omega)
                        ·
                          exact absurd c_103 (by omega)
                      | succ d ih_99 =>
                        intro q9 hi_99
                        refine v_iload X 3 dX5_digest_99 rfl ?_
                        refine v_bipush (v := 10) X (by decide) dX5_digest_101 ?_
                        refine v_ncmp_ge X q9 10 rfl rfl (by omega) (by omega) (tgt := 134) dX5_digest_103 (by decide) (fun c_103 => ?_) (fun c_103 => ?_)
                        ·
                          exact absurd c_103 (by omega)
                        ·
                          refine v_lload_n X 1 dX5_digest_106 rfl rfl ?_
                          refine v_ldc2 X hw_X5_digest_k219 dX5_digest_107 ?_
                          refine v_lmul X dX5_digest_110 ?_
                          refine v_aload_n X 0 dX5_digest_111 rfl rfl ?_
                          refine v_getX X 3 (by decide) hi_X5_digest_X5 hl_X5_digest_27 rfl (v := .ref (o + pS 0)) rfl dX5_digest_112 ?_
                          refine v_getS X (by omega) 1 (by decide) hi_X5_digest_X1 hl_X5_digest_117 rfl (v := .ref (o + pL 0)) rfl dX5_digest_115 ?_
                          refine v_iload_n X 2 dX5_digest_118 rfl rfl ?_
                          refine v_aald X (w := 0) (by omega) i rfl (by omega) dX5_digest_119 ?_
                          refine v_iload X 3 dX5_digest_120 rfl ?_
                          refine v_callVIf X [.int (nI q9)] (pT 0 i) (pT_lt (by omega) (by omega)) (c_X3_valueOf l G cI cZ cT o S 0 i (cl (S 0 15 i)) q9 (by omega) (by omega) (by omega) (by omega) ((hok.2.2 i (by omega)).1.1)) (zc_T cI cZ cT o _ (by omega) (by omega)) (C := RX3) (T := TX3) (N := 16) rfl 1 rfl gX5_digest_X3_valueOf rfl ⟨rfl, rfl⟩ hy_X3_valueOf_V ⟨Nat.le_of_ble_eq_true rfl, Nat.le_of_ble_eq_true rfl⟩ rfl (Nat.le_of_ble_eq_true rfl) dX5_digest_122 ?_
                          refine v_i2l X dX5_digest_125 ?_
                          refine v_ladd X dX5_digest_126 ?_
                          refine v_lstore_n (lo' := [(1, .long (((s_dgt S i (s_dg3 S (s_dg2 S (s_dg1 S n 12) 144) i) q9) * 31) + ((s_teamV S 0 i (cl (S 0 15 i)) q9).toInt64))), (0, .ref (o + 0)), (3, .int (nI i)), (4, .int (nI q9))]) X dX5_digest_127 rfl (by decide) rfl ?_
                          refine v_iinc (v := nI (q9 + 1)) (lo' := [(4, .int (nI (q9 + 1))), (1, .long (((s_dgt S i (s_dg3 S (s_dg2 S (s_dg1 S n 12) 144) i) q9) * 31) + ((s_teamV S 0 i (cl (S 0 15 i)) q9).toInt64))), (0, .ref (o + 0)), (3, .int (nI i))]) X 3 dX5_digest_128 rfl (nI_1 q9) (by decide) rfl ?_
                          refine v_goto (tgt := 99) X dX5_digest_131 (by decide) ?_
                          refine v_lo [2, 1, 3, 0] (lo' := [(0, .ref (o + 0)), (1, .long (((s_dgt S i (s_dg3 S (s_dg2 S (s_dg1 S n 12) 144) i) q9) * 31) + ((s_teamV S 0 i (cl (S 0 15 i)) q9).toInt64))), (3, .int (nI i)), (4, .int (nI (q9 + 1)))]) rfl ?_
                          refine v_eq (S' := S) (lo' := [(0, .ref (o + 0)), (1, .long (s_dgt S i (s_dg3 S (s_dg2 S (s_dg1 S n 12) 144) i) (q9 + 1))), (3, .int (nI i)), (4, .int (nI (q9 + 1)))]) (by rfl) (by rfl) ?_
                          exact ih_99 (q9 + 1) (by omega)
                    refine v_lo [1, 2, 3, 0] (lo' := [(0, .ref (o + 0)), (1, .long (s_dg3 S (s_dg2 S (s_dg1 S n 12) 144) i)), (3, .int (nI i)), (4, .int 0)]) rfl ?_
                    refine v_eq (S' := S) (lo' := [(0, .ref (o + 0)), (1, .long (s_dgt S i (s_dg3 S (s_dg2 S (s_dg1 S n 12) 144) i) 0)), (3, .int (nI i)), (4, .int (nI 0))]) (by rfl) (by rfl) ?_
                    exact L_99 (10) 0 (by omega)
              refine v_lo [1, 2, 0] (lo' := [(0, .ref (o + 0)), (1, .long (s_dg2 S (s_dg1 S n 12) 144)), (3, .int 0)]) rfl ?_
              refine v_eq (S' := S) (lo' := [(0, .ref (o + 0)), (1, .long (s_dg3 S (s_dg2 S (s_dg1 S n 12) 144) 0)), (3, .int (nI 0))]) (by rfl) (by rfl) ?_
              exact L_85 (n) 0 (by omega)
            ·
              exact absurd c_37 (by omega)
          | succ d ih_33 =>
            intro i hi_33
            refine v_iload_n X 2 dX5_digest_33 rfl rfl ?_
            refine v_sipush (v := 144) X (by decide) dX5_digest_34 ?_
            refine v_ncmp_ge X i 144 rfl rfl (by omega) (by omega) (tgt := 83) dX5_digest_37 (by decide) (fun c_37 => ?_) (fun c_37 => ?_)
            ·
              exact absurd c_37 (by omega)
            ·
              refine v_iconst (v := 0) X (by decide) dX5_digest_40 ?_
              refine v_istore (lo' := [(4, .int 0), (0, .ref (o + 0)), (1, .long (s_dg2 S (s_dg1 S n 12) i)), (3, .int (nI i))]) X dX5_digest_41 (by decide) rfl ?_
              have L_43 : ∀ (d q9 : Nat), q9 + d = 8 → z_V p9 l e9 (headSpec wsX5_digest { frames := 3, cells := 0, slots := 0, locals := 65 }).room s9 m9 a9 b9 h9 c9 (MQ b9 (va_Ql (fun r u => r = s_digest S n P ∧ u = S) (z_B G cI cZ cT o) (z_A o s9.heap.size)) a9 s9 0 0 (z_A o s9.heap.size)) G cI cZ cT o 5 (S) 43 [(0, .ref (o + 0)), (1, .long (s_dgc S i (s_dg2 S (s_dg1 S n 12) i) q9)), (3, .int (nI i)), (4, .int (nI q9))] [] := by
                intro d
                induction d with
                | zero =>
                  intro q9 hi_43
                  have he_43 : q9 = 8 := by omega
                  rw [he_43]
                  refine v_iload X 3 dX5_digest_43 rfl ?_
                  refine v_bipush (v := 8) X (by decide) dX5_digest_45 ?_
                  refine v_ncmp_ge X 8 8 rfl rfl (by omega) (by omega) (tgt := 77) dX5_digest_47 (by decide) (fun c_47 => ?_) (fun c_47 => ?_)
                  ·
                    refine v_iinc (v := nI (i + 1)) (lo' := [(3, .int (nI (i + 1))), (0, .ref (o + 0)), (1, .long (s_dgc S i (s_dg2 S (s_dg1 S n 12) i) 8)), (4, .int (nI 8))]) X 2 dX5_digest_77 rfl (nI_1 i) (by decide) rfl ?_
                    refine v_goto (tgt := 33) X dX5_digest_80 (by decide) ?_
                    refine v_lo [1, 2, 0] (lo' := [(0, .ref (o + 0)), (1, .long (s_dgc S i (s_dg2 S (s_dg1 S n 12) i) 8)), (3, .int (nI (i + 1)))]) rfl ?_
                    refine v_eq (S' := S) (lo' := [(0, .ref (o + 0)), (1, .long (s_dg2 S (s_dg1 S n 12) (i + 1))), (3, .int (nI (i + 1)))]) (by rfl) (by rfl) ?_
                    exact ih_33 (i + 1) (by omega)
                  ·
                    exact absurd c_47 (by omega)
                | succ d ih_43 =>
                  intro q9 hi_43
                  refine v_iload X 3 dX5_digest_43 rfl ?_
                  refine v_bipush (v := 8) X (by decide) dX5_digest_45 ?_
                  refine v_ncmp_ge X q9 8 rfl rfl (by omega) (by omega) (tgt := 77) dX5_digest_47 (by decide) (fun c_47 => ?_) (fun c_47 => ?_)
                  ·
                    exact absurd c_47 (by omega)
                  ·
                    refine v_lload_n X 1 dX5_digest_50 rfl rfl ?_
                    refine v_ldc2 X hw_X5_digest_k219 dX5_digest_51 ?_
                    refine v_lmul X dX5_digest_54 ?_
                    refine v_aload_n X 0 dX5_digest_55 rfl rfl ?_
                    refine v_getX X 3 (by decide) hi_X5_digest_X5 hl_X5_digest_27 rfl (v := .ref (o + pS 0)) rfl dX5_digest_56 ?_
                    refine v_getS X (by omega) 0 (by decide) hi_X5_digest_X1 hl_X5_digest_64 rfl (v := .ref (o + pG 0)) rfl dX5_digest_59 ?_
                    refine v_iload_n X 2 dX5_digest_62 rfl rfl ?_
                    refine v_iload X 3 dX5_digest_63 rfl ?_
                    refine v_callVIf X [.int (nI i), .int (nI q9)] (pG 0) (pG_lt (by omega)) (c_X0_valueOf l G cI cZ cT o S 0 i q9 (by omega) (by omega) (by omega)) (zc_G cI cZ cT o _ (by omega)) (C := RX0) (T := TX0) (N := 12) rfl 2 rfl gX5_digest_X0_valueOf rfl ⟨rfl, rfl⟩ hy_X0_valueOf_V ⟨Nat.le_of_ble_eq_true rfl, Nat.le_of_ble_eq_true rfl⟩ rfl (Nat.le_of_ble_eq_true rfl) dX5_digest_65 ?_
                    refine v_i2l X dX5_digest_68 ?_
                    refine v_ladd X dX5_digest_69 ?_
                    refine v_lstore_n (lo' := [(1, .long (((s_dgc S i (s_dg2 S (s_dg1 S n 12) i) q9) * 31) + ((s_valueOf S 0 i q9).toInt64))), (0, .ref (o + 0)), (3, .int (nI i)), (4, .int (nI q9))]) X dX5_digest_70 rfl (by decide) rfl ?_
                    refine v_iinc (v := nI (q9 + 1)) (lo' := [(4, .int (nI (q9 + 1))), (1, .long (((s_dgc S i (s_dg2 S (s_dg1 S n 12) i) q9) * 31) + ((s_valueOf S 0 i q9).toInt64))), (0, .ref (o + 0)), (3, .int (nI i))]) X 3 dX5_digest_71 rfl (nI_1 q9) (by decide) rfl ?_
                    refine v_goto (tgt := 43) X dX5_digest_74 (by decide) ?_
                    refine v_lo [2, 1, 3, 0] (lo' := [(0, .ref (o + 0)), (1, .long (((s_dgc S i (s_dg2 S (s_dg1 S n 12) i) q9) * 31) + ((s_valueOf S 0 i q9).toInt64))), (3, .int (nI i)), (4, .int (nI (q9 + 1)))]) rfl ?_
                    refine v_eq (S' := S) (lo' := [(0, .ref (o + 0)), (1, .long (s_dgc S i (s_dg2 S (s_dg1 S n 12) i) (q9 + 1))), (3, .int (nI i)), (4, .int (nI (q9 + 1)))]) (by rfl) (by rfl) ?_
                    exact ih_43 (q9 + 1) (by omega)
              refine v_lo [1, 2, 3, 0] (lo' := [(0, .ref (o + 0)), (1, .long (s_dg2 S (s_dg1 S n 12) i)), (3, .int (nI i)), (4, .int 0)]) rfl ?_
              refine v_eq (S' := S) (lo' := [(0, .ref (o + 0)), (1, .long (s_dgc S i (s_dg2 S (s_dg1 S n 12) i) 0)), (3, .int (nI i)), (4, .int (nI 0))]) (by rfl) (by rfl) ?_
              exact L_43 (8) 0 (by omega)
        refine v_lo [1, 2, 0] (lo' := [(0, .ref (o + 0)), (1, .long (s_dg1 S n 12)), (3, .int 0)]) rfl ?_
        refine v_eq (S' := S) (lo' := [(0, .ref (o + 0)), (1, .long (s_dg2 S (s_dg1 S n 12) 0)), (3, .int (nI 0))]) (by rfl) (by rfl) ?_
        exact L_33 (144) 0 (by omega)
      ·
        exact absurd c_9 (by omega)
    | succ d ih_6 =>
      intro i hi_6
      refine v_iload_n X 2 dX5_digest_6 rfl rfl ?_
      refine v_bipush (v := 12) X (by decide) dX5_digest_7 ?_
      refine v_ncmp_ge X i 12 rfl rfl (by omega) (by omega) (tgt := 31) dX5_digest_9 (by decide) (fun c_9 => ?_) (fun c_9 => ?_)
      ·
        exact absurd c_9 (by omega)
      ·
        refine v_lload_n X 1 dX5_digest_12 rfl rfl ?_
        refine v_ldc2 X hw_X5_digest_k219 dX5_digest_13 ?_
        refine v_lmul X dX5_digest_16 ?_
        refine v_aload_n X 0 dX5_digest_17 rfl rfl ?_
        refine v_iload_n X 2 dX5_digest_18 rfl rfl ?_
        refine v_callVIf X [.int (nI i)] (0) (by decide) (c_X5_countOf l G cI cZ cT o S n i (hok) (by omega)) (zc_X cI cZ cT o _) (C := RX5) (T := TX5) (N := 6) rfl 1 rfl gX5_digest_X5_countOf rfl ⟨rfl, rfl⟩ hy_X5_countOf_V ⟨Nat.le_of_ble_eq_true rfl, Nat.le_of_ble_eq_true rfl⟩ rfl (Nat.le_of_ble_eq_true rfl) dX5_digest_19 ?_
        refine v_i2l X dX5_digest_22 ?_
        refine v_ladd X dX5_digest_23 ?_
        refine v_lstore_n (lo' := [(1, .long (((s_dg1 S n i) * 31) + ((s_count S n i).toInt64))), (0, .ref (o + 0)), (3, .int (nI i))]) X dX5_digest_24 rfl (by decide) rfl ?_
        refine v_iinc (v := nI (i + 1)) (lo' := [(3, .int (nI (i + 1))), (1, .long (((s_dg1 S n i) * 31) + ((s_count S n i).toInt64))), (0, .ref (o + 0))]) X 2 dX5_digest_25 rfl (nI_1 i) (by decide) rfl ?_
        refine v_goto (tgt := 6) X dX5_digest_28 (by decide) ?_
        refine v_lo [2, 1, 0] (lo' := [(0, .ref (o + 0)), (1, .long (((s_dg1 S n i) * 31) + ((s_count S n i).toInt64))), (3, .int (nI (i + 1)))]) rfl ?_
        refine v_eq (S' := S) (lo' := [(0, .ref (o + 0)), (1, .long (s_dg1 S n (i + 1))), (3, .int (nI (i + 1)))]) (by rfl) (by rfl) ?_
        exact ih_6 (i + 1) (by omega)
  refine v_lo [2, 1, 0] (lo' := [(0, .ref (o + 0)), (1, .long (709)), (3, .int 0)]) rfl ?_
  refine v_eq (S' := S) (lo' := [(0, .ref (o + 0)), (1, .long (s_dg1 S n 0)), (3, .int (nI 0))]) (by rfl) (by rfl) ?_
  exact L_6 (12) 0 (by omega)
end ZM7
