section ZM2
def s_isGone (S : zS) (w t : Nat) : Int32 := if 0 < S w 16 t then 0 else 1
def s_isNear (a b : Nat) : Int32 := if 1 < z_dist a b then 0 else 1
def s_lose (S : zS) (w t : Nat) (x : Int32) : zS := z_up S w 16 t (z_max0 (S w 16 t - x))
def s_addOrder (S : zS) (w t n : Nat) (a b c : Int32) : zS := z_up (z_up (z_up (z_up S w (27 + 3 * t + 0) n a) w (27 + 3 * t + 1) n b) w (27 + 3 * t + 2) n c) w 26 t (nI (n + 1))
def s_firstKind (S : zS) (w t : Nat) : Int32 := if 0 < S w 26 t then S w (27 + 3 * t + 0) 0 else -1
def s_firstDir (S : zS) (w t : Nat) : Int32 := S w (27 + 3 * t + 1) 0
def s_shift1 (S : zS) (w t i : Nat) : zS := z_up (z_up (z_up S w (27 + 3 * t + 0) i (S w (27 + 3 * t + 0) (i + 1))) w (27 + 3 * t + 1) i (S w (27 + 3 * t + 1) (i + 1))) w (27 + 3 * t + 2) i (S w (27 + 3 * t + 2) (i + 1))
def s_shift (S : zS) (w t : Nat) : Nat → zS
  | 0 => S
  | i + 1 => s_shift1 (s_shift S w t i) w t i
def s_drop (S : zS) (w t : Nat) : zS := z_up (s_shift S w t 11) w 26 t (s_shift S w t 11 w 26 t - 1)
def s_countFirst (S : zS) (w t : Nat) : zS :=
  if 0 < S w (27 + 3 * t + 2) 0 - 1 then z_up S w (27 + 3 * t + 2) 0 (S w (27 + 3 * t + 2) 0 - 1)
  else s_drop (z_up S w (27 + 3 * t + 2) 0 (S w (27 + 3 * t + 2) 0 - 1)) w t
def s_missFirst (S : zS) (w t : Nat) : zS := s_drop (z_up S w 18 t (S w 18 t + 1)) w t
def s_remember (S : zS) (w t : Nat) (a b c : Int32) : zS := z_up (z_up (z_up S w 23 t a) w 24 t b) w 25 t c
def s_begin (S : zS) (w t : Nat) : zS := z_up (z_up (z_up (z_up S w 19 t 0) w 20 t 0) w 21 t 0) w 22 t 0
def s_start (S : zS) (w t : Nat) (a b c d : Int32) : zS := s_begin (z_up (z_up (z_up (z_up (z_up (z_up (z_up (z_up (z_up S w 14 t a) w 15 t b) w 16 t c) w 17 t d) w 18 t 0) w 23 t (-1)) w 24 t (-1)) w 25 t (-1)) w 26 t 0) w t
def s_teamV (S : zS) (w t c k : Nat) : Int32 :=
  if k = 0 then S w 14 t else if k = 1 then nI (c % 12) else if k = 2 then nI (c / 12) else if k = 3 then S w 16 t else if k = 4 then S w 17 t else if k = 5 then S w 26 t
  else if k = 6 then S w 18 t else if k = 7 then S w 19 t else if k = 8 then s_firstKind S w t else if 0 < S w 26 t then S w (27 + 3 * t + 2) 0 else 0
def s_heardV (S : zS) (w t k : Nat) : Int32 := if k = 0 then S w 23 t else if k = 1 then S w 24 t else S w 25 t

theorem hi_X3_isGone_X3 : ∀ w ∈ wsX30, w ∈ wsX3_isGone := by decide +kernel
theorem hl_X3_isGone_18 : Cond.fieldLink RX3 18 RX3 (TX3 2).2.1 (TX3 2).2.2.1 ∈ wsX3_isGone := by decide +kernel
set_option maxRecDepth 100000 in
set_option maxHeartbeats 4000000 in
/-- X3_isGone -/
theorem c_X3_isGone (l : Launch) (G : va_G) (cI cZ cT : ClassId) (o : Nat) (S : zS) (w t : Nat) (hw : w < 2) (ht : t < 8) : zI l G cI cZ cT o yX3_isGone wsX3_isGone { frames := 0, cells := 0, slots := 0, locals := 0 } [.ref (o + pT w t)] S (fun r u => r = s_isGone S w t ∧ u = S) := by
  refine z_ofZb (cc := cX3_isGone) (maxL := 1) (by decide) rfl (by simp [lg_sl, Value.category]) ?_
  intro p9 e9 s9 m9 a9 b9 h9 c9 X
  refine v_lo [0] (lo' := [(0, .ref (o + pT w t))]) rfl ?_
  refine v_aload_n X 0 dX3_isGone_0 rfl rfl ?_
  refine v_getT X (by omega) (by omega) 2 (by decide) hi_X3_isGone_X3 hl_X3_isGone_18 rfl (v := .int (S w 16 t)) rfl dX3_isGone_1 ?_
  refine v_if_gt X (tgt := 11) dX3_isGone_4 (by decide) (fun c_4 => ?_) (fun c_4 => ?_)
  ·
    refine v_iconst (v := 0) X (by decide) dX3_isGone_11 ?_
    exact v_zret X rfl dX3_isGone_12 (by simp [s_isGone, c_4])
  ·
    refine v_iconst (v := 1) X (by decide) dX3_isGone_7 ?_
    refine v_goto (tgt := 12) X dX3_isGone_8 (by decide) ?_
    exact v_zret X rfl dX3_isGone_12 (by simp [s_isGone, c_4])
theorem hi_X3_loseHealth_X3 : ∀ w ∈ wsX30, w ∈ wsX3_loseHealth := by decide +kernel
theorem hl_X3_loseHealth_18 : Cond.fieldLink RX3 18 RX3 (TX3 2).2.1 (TX3 2).2.2.1 ∈ wsX3_loseHealth := by decide +kernel
theorem hw_X3_loseHealth_75l : Cond.methodLink RX3 75 Lib.Math.max.name ∈ wsX3_loseHealth := by decide +kernel
theorem hw_X3_loseHealth_mmaxs : Cond.static Lib.Math.max.name ∈ wsX3_loseHealth := by decide +kernel
theorem hw_X3_loseHealth_mathi : Cond.initialized "java/lang/Math" ∈ wsX3_loseHealth := by decide +kernel
theorem hw_X3_loseHealth_mmaxc : Cond.code Lib.Math.max.name Lib.Math.max.code 2 (some .int) ∈ wsX3_loseHealth := by decide +kernel
set_option maxRecDepth 100000 in
set_option maxHeartbeats 4000000 in
/-- X3_loseHealth -/
theorem c_X3_loseHealth (l : Launch) (G : va_G) (cI cZ cT : ClassId) (o : Nat) (S : zS) (w t : Nat) (x : Int32) (hw : w < 2) (ht : t < 8) : zU l G cI cZ cT o yX3_loseHealth wsX3_loseHealth { frames := 1, cells := 0, slots := 0, locals := 21 } [.ref (o + pT w t), .int x] S (fun u => u = s_lose S w t x) := by
  refine z_ofV (cc := cX3_loseHealth) (maxL := 2) (by decide) rfl (by simp [lg_sl, Value.category]) ?_
  intro p9 e9 s9 m9 a9 b9 h9 c9 X
  refine v_lo [0, 1] (lo' := [(0, .ref (o + pT w t)), (1, .int x)]) rfl ?_
  refine v_aload_n X 0 dX3_loseHealth_0 rfl rfl ?_
  refine v_iconst (v := 0) X (by decide) dX3_loseHealth_1 ?_
  refine v_aload_n X 0 dX3_loseHealth_2 rfl rfl ?_
  refine v_getT X (by omega) (by omega) 2 (by decide) hi_X3_loseHealth_X3 hl_X3_loseHealth_18 rfl (v := .int (S w 16 t)) rfl dX3_loseHealth_3 ?_
  refine v_iload_n X 1 dX3_loseHealth_6 rfl rfl ?_
  refine v_isub X dX3_loseHealth_7 ?_
  refine v_mmax X hw_X3_loseHealth_75l hw_X3_loseHealth_mmaxs hw_X3_loseHealth_mathi hw_X3_loseHealth_mmaxc (Nat.le_of_ble_eq_true rfl) (Nat.le_of_ble_eq_true rfl) dX3_loseHealth_8 ?_
  refine v_top (y := z_max0 ((S w 16 t) - x)) (rfl) ?_
  refine v_putT2 X (by omega) (by omega) hi_X3_loseHealth_X3 hl_X3_loseHealth_18 dX3_loseHealth_11 ?_
  exact v_vret X dX3_loseHealth_14 (by rfl)
theorem hi_X3_beginHour_X3 : ∀ w ∈ wsX30, w ∈ wsX3_beginHour := by decide +kernel
theorem hl_X3_beginHour_27 : Cond.fieldLink RX3 27 RX3 (TX3 5).2.1 (TX3 5).2.2.1 ∈ wsX3_beginHour := by decide +kernel
theorem hl_X3_beginHour_30 : Cond.fieldLink RX3 30 RX3 (TX3 6).2.1 (TX3 6).2.2.1 ∈ wsX3_beginHour := by decide +kernel
theorem hl_X3_beginHour_33 : Cond.fieldLink RX3 33 RX3 (TX3 7).2.1 (TX3 7).2.2.1 ∈ wsX3_beginHour := by decide +kernel
theorem hl_X3_beginHour_37 : Cond.fieldLink RX3 37 RX3 (TX3 8).2.1 (TX3 8).2.2.1 ∈ wsX3_beginHour := by decide +kernel
set_option maxRecDepth 100000 in
set_option maxHeartbeats 4000000 in
/-- X3_beginHour -/
theorem c_X3_beginHour (l : Launch) (G : va_G) (cI cZ cT : ClassId) (o : Nat) (S : zS) (w t : Nat) (hw : w < 2) (ht : t < 8) : zU l G cI cZ cT o yX3_beginHour wsX3_beginHour { frames := 0, cells := 0, slots := 0, locals := 0 } [.ref (o + pT w t)] S (fun u => u = s_begin S w t) := by
  refine z_ofV (cc := cX3_beginHour) (maxL := 1) (by decide) rfl (by simp [lg_sl, Value.category]) ?_
  intro p9 e9 s9 m9 a9 b9 h9 c9 X
  refine v_lo [0] (lo' := [(0, .ref (o + pT w t))]) rfl ?_
  refine v_aload_n X 0 dX3_beginHour_0 rfl rfl ?_
  refine v_iconst (v := 0) X (by decide) dX3_beginHour_1 ?_
  refine v_putT5 X (by omega) (by omega) hi_X3_beginHour_X3 hl_X3_beginHour_27 dX3_beginHour_2 ?_
  refine v_aload_n X 0 dX3_beginHour_5 rfl rfl ?_
  refine v_iconst (v := 0) X (by decide) dX3_beginHour_6 ?_
  refine v_putT6 X (by omega) (by omega) hi_X3_beginHour_X3 hl_X3_beginHour_30 dX3_beginHour_7 ?_
  refine v_aload_n X 0 dX3_beginHour_10 rfl rfl ?_
  refine v_iconst (v := 0) X (by decide) dX3_beginHour_11 ?_
  refine v_putT7 X (by omega) (by omega) rfl rfl hi_X3_beginHour_X3 hl_X3_beginHour_33 dX3_beginHour_12 ?_
  refine v_aload_n X 0 dX3_beginHour_15 rfl rfl ?_
  refine v_iconst (v := 0) X (by decide) dX3_beginHour_16 ?_
  refine v_putT8 X (by omega) (by omega) rfl rfl hi_X3_beginHour_X3 hl_X3_beginHour_37 dX3_beginHour_17 ?_
  exact v_vret X dX3_beginHour_20 (by rfl)
theorem hi_X3_firstKind_X3 : ∀ w ∈ wsX30, w ∈ wsX3_firstKind := by decide +kernel
theorem hl_X3_firstKind_49 : Cond.fieldLink RX3 49 RX3 (TX3 12).2.1 (TX3 12).2.2.1 ∈ wsX3_firstKind := by decide +kernel
theorem hl_X3_firstKind_52 : Cond.fieldLink RX3 52 RX3 (TX3 13).2.1 (TX3 13).2.2.1 ∈ wsX3_firstKind := by decide +kernel
set_option maxRecDepth 100000 in
set_option maxHeartbeats 4000000 in
/-- X3_firstKind -/
theorem c_X3_firstKind (l : Launch) (G : va_G) (cI cZ cT : ClassId) (o : Nat) (S : zS) (w t : Nat) (hw : w < 2) (ht : t < 8) : zI l G cI cZ cT o yX3_firstKind wsX3_firstKind { frames := 0, cells := 0, slots := 0, locals := 0 } [.ref (o + pT w t)] S (fun r u => r = s_firstKind S w t ∧ u = S) := by
  refine z_ofI (cc := cX3_firstKind) (maxL := 1) (by decide) rfl (by simp [lg_sl, Value.category]) ?_
  intro p9 e9 s9 m9 a9 b9 h9 c9 X
  refine v_lo [0] (lo' := [(0, .ref (o + pT w t))]) rfl ?_
  refine v_aload_n X 0 dX3_firstKind_0 rfl rfl ?_
  refine v_getT X (by omega) (by omega) 12 (by decide) hi_X3_firstKind_X3 hl_X3_firstKind_49 rfl (v := .int (S w 26 t)) rfl dX3_firstKind_1 ?_
  refine v_if_le X (tgt := 16) dX3_firstKind_4 (by decide) (fun c_4 => ?_) (fun c_4 => ?_)
  ·
    refine v_iconst (v := -1) X (by decide) dX3_firstKind_16 ?_
    exact v_iret X dX3_firstKind_17 (by simp [s_firstKind, c_4])
  ·
    refine v_aload_n X 0 dX3_firstKind_7 rfl rfl ?_
    refine v_getT X (by omega) (by omega) 13 (by decide) hi_X3_firstKind_X3 hl_X3_firstKind_52 rfl (v := .ref (o + pO w t 0)) rfl dX3_firstKind_8 ?_
    refine v_iconst (v := 0) X (by decide) dX3_firstKind_11 ?_
    refine v_ialdO X (w := w) (t := t) (by omega) (by omega) 0 (by omega) 0 rfl (by omega) dX3_firstKind_12 ?_
    refine v_goto (tgt := 17) X dX3_firstKind_13 (by decide) ?_
    exact v_iret X dX3_firstKind_17 (by simp [s_firstKind, c_4])
theorem hi_X3_firstDirection_X3 : ∀ w ∈ wsX30, w ∈ wsX3_firstDirection := by decide +kernel
theorem hl_X3_firstDirection_56 : Cond.fieldLink RX3 56 RX3 (TX3 14).2.1 (TX3 14).2.2.1 ∈ wsX3_firstDirection := by decide +kernel
set_option maxRecDepth 100000 in
set_option maxHeartbeats 4000000 in
/-- X3_firstDirection -/
theorem c_X3_firstDirection (l : Launch) (G : va_G) (cI cZ cT : ClassId) (o : Nat) (S : zS) (w t : Nat) (hw : w < 2) (ht : t < 8) : zI l G cI cZ cT o yX3_firstDirection wsX3_firstDirection { frames := 0, cells := 0, slots := 0, locals := 0 } [.ref (o + pT w t)] S (fun r u => r = s_firstDir S w t ∧ u = S) := by
  refine z_ofI (cc := cX3_firstDirection) (maxL := 1) (by decide) rfl (by simp [lg_sl, Value.category]) ?_
  intro p9 e9 s9 m9 a9 b9 h9 c9 X
  refine v_lo [0] (lo' := [(0, .ref (o + pT w t))]) rfl ?_
  refine v_aload_n X 0 dX3_firstDirection_0 rfl rfl ?_
  refine v_getT X (by omega) (by omega) 14 (by decide) hi_X3_firstDirection_X3 hl_X3_firstDirection_56 rfl (v := .ref (o + pO w t 1)) rfl dX3_firstDirection_1 ?_
  refine v_iconst (v := 0) X (by decide) dX3_firstDirection_4 ?_
  refine v_ialdO X (w := w) (t := t) (by omega) (by omega) 1 (by omega) 0 rfl (by omega) dX3_firstDirection_5 ?_
  exact v_iret X dX3_firstDirection_6 (by exact ⟨rfl, rfl⟩)
theorem hi_X3_dropFirstOrder_X3 : ∀ w ∈ wsX30, w ∈ wsX3_dropFirstOrder := by decide +kernel
theorem hl_X3_dropFirstOrder_49 : Cond.fieldLink RX3 49 RX3 (TX3 12).2.1 (TX3 12).2.2.1 ∈ wsX3_dropFirstOrder := by decide +kernel
theorem hl_X3_dropFirstOrder_52 : Cond.fieldLink RX3 52 RX3 (TX3 13).2.1 (TX3 13).2.2.1 ∈ wsX3_dropFirstOrder := by decide +kernel
theorem hl_X3_dropFirstOrder_56 : Cond.fieldLink RX3 56 RX3 (TX3 14).2.1 (TX3 14).2.2.1 ∈ wsX3_dropFirstOrder := by decide +kernel
theorem hl_X3_dropFirstOrder_59 : Cond.fieldLink RX3 59 RX3 (TX3 15).2.1 (TX3 15).2.2.1 ∈ wsX3_dropFirstOrder := by decide +kernel
set_option maxRecDepth 100000 in
set_option maxHeartbeats 4000000 in
/-- X3_dropFirstOrder -/
theorem c_X3_dropFirstOrder (l : Launch) (G : va_G) (cI cZ cT : ClassId) (o : Nat) (S : zS) (w t : Nat) (hw : w < 2) (ht : t < 8) : zU l G cI cZ cT o yX3_dropFirstOrder wsX3_dropFirstOrder { frames := 0, cells := 0, slots := 0, locals := 0 } [.ref (o + pT w t)] S (fun u => u = s_drop S w t) := by
  refine z_ofV (cc := cX3_dropFirstOrder) (maxL := 2) (by decide) rfl (by simp [lg_sl, Value.category]) ?_
  intro p9 e9 s9 m9 a9 b9 h9 c9 X
  refine v_lo [0] (lo' := [(0, .ref (o + pT w t))]) rfl ?_
  refine v_iconst (v := 1) X (by decide) dX3_dropFirstOrder_0 ?_
  refine v_istore_n (lo' := [(1, .int 1), (0, .ref (o + pT w t))]) X dX3_dropFirstOrder_1 rfl (by decide) rfl ?_
  have L_2 : ∀ (d i : Nat), i + d = 11 → z_V p9 l e9 (headSpec wsX3_dropFirstOrder { frames := 0, cells := 0, slots := 0, locals := 0 }).room s9 m9 a9 b9 h9 c9 (MQ b9 (va_Qv (fun u => u = s_drop S w t) (z_B G cI cZ cT o) (z_A o s9.heap.size)) a9 s9 0 0 (z_A o s9.heap.size)) G cI cZ cT o 2 (s_shift S w t i) 2 [(0, .ref (o + pT w t)), (1, .int (nI (i + 1)))] [] := by
    intro d
    induction d with
    | zero =>
      intro i hi_2
      have he_2 : i = 11 := by omega
      rw [he_2]
      refine v_iload_n X 1 dX3_dropFirstOrder_2 rfl rfl ?_
      refine v_bipush (v := 12) X (by decide) dX3_dropFirstOrder_3 ?_
      refine v_ncmp_ge X (11 + 1) 12 rfl rfl (by omega) (by omega) (tgt := 56) dX3_dropFirstOrder_5 (by decide) (fun c_5 => ?_) (fun c_5 => ?_)
      ·
        refine v_aload_n X 0 dX3_dropFirstOrder_56 rfl rfl ?_
        refine v_dup X rfl dX3_dropFirstOrder_57 ?_
        refine v_getT X (by omega) (by omega) 12 (by decide) hi_X3_dropFirstOrder_X3 hl_X3_dropFirstOrder_49 rfl (v := .int ((s_shift S w t 11) w 26 t)) rfl dX3_dropFirstOrder_58 ?_
        refine v_iconst (v := 1) X (by decide) dX3_dropFirstOrder_61 ?_
        refine v_isub X dX3_dropFirstOrder_62 ?_
        refine v_putT12 X (by omega) (by omega) hi_X3_dropFirstOrder_X3 hl_X3_dropFirstOrder_49 dX3_dropFirstOrder_63 ?_
        exact v_vret X dX3_dropFirstOrder_66 (by rfl)
      ·
        exact absurd c_5 (by omega)
    | succ d ih_2 =>
      intro i hi_2
      refine v_iload_n X 1 dX3_dropFirstOrder_2 rfl rfl ?_
      refine v_bipush (v := 12) X (by decide) dX3_dropFirstOrder_3 ?_
      refine v_ncmp_ge X (i + 1) 12 rfl rfl (by omega) (by omega) (tgt := 56) dX3_dropFirstOrder_5 (by decide) (fun c_5 => ?_) (fun c_5 => ?_)
      ·
        exact absurd c_5 (by omega)
      ·
        refine v_aload_n X 0 dX3_dropFirstOrder_8 rfl rfl ?_
        refine v_getT X (by omega) (by omega) 13 (by decide) hi_X3_dropFirstOrder_X3 hl_X3_dropFirstOrder_52 rfl (v := .ref (o + pO w t 0)) rfl dX3_dropFirstOrder_9 ?_
        refine v_iload_n X 1 dX3_dropFirstOrder_12 rfl rfl ?_
        refine v_iconst (v := 1) X (by decide) dX3_dropFirstOrder_13 ?_
        refine v_isub X dX3_dropFirstOrder_14 ?_
        refine v_top (y := nI (i)) (pk_sub (a := i + 1) (b := 1) (by omega)) ?_
        refine v_aload_n X 0 dX3_dropFirstOrder_15 rfl rfl ?_
        refine v_getT X (by omega) (by omega) 13 (by decide) hi_X3_dropFirstOrder_X3 hl_X3_dropFirstOrder_52 rfl (v := .ref (o + pO w t 0)) rfl dX3_dropFirstOrder_16 ?_
        refine v_iload_n X 1 dX3_dropFirstOrder_19 rfl rfl ?_
        refine v_ialdO X (w := w) (t := t) (by omega) (by omega) 0 (by omega) (i + 1) rfl (by omega) dX3_dropFirstOrder_20 ?_
        refine v_iastO X (w := w) (t := t) (by omega) (by omega) 0 (by omega) i rfl (by omega) dX3_dropFirstOrder_21 ?_
        refine v_aload_n X 0 dX3_dropFirstOrder_22 rfl rfl ?_
        refine v_getT X (by omega) (by omega) 14 (by decide) hi_X3_dropFirstOrder_X3 hl_X3_dropFirstOrder_56 rfl (v := .ref (o + pO w t 1)) rfl dX3_dropFirstOrder_23 ?_
        refine v_iload_n X 1 dX3_dropFirstOrder_26 rfl rfl ?_
        refine v_iconst (v := 1) X (by decide) dX3_dropFirstOrder_27 ?_
        refine v_isub X dX3_dropFirstOrder_28 ?_
        refine v_top (y := nI (i)) (pk_sub (a := i + 1) (b := 1) (by omega)) ?_
        refine v_aload_n X 0 dX3_dropFirstOrder_29 rfl rfl ?_
        refine v_getT X (by omega) (by omega) 14 (by decide) hi_X3_dropFirstOrder_X3 hl_X3_dropFirstOrder_56 rfl (v := .ref (o + pO w t 1)) rfl dX3_dropFirstOrder_30 ?_
        refine v_iload_n X 1 dX3_dropFirstOrder_33 rfl rfl ?_
        refine v_ialdO X (w := w) (t := t) (by omega) (by omega) 1 (by omega) (i + 1) rfl (by omega) dX3_dropFirstOrder_34 ?_
        refine v_top (y := (s_shift S w t i) w (27 + 3 * t + 1) (i + 1)) (z_up_ne _ _ (by omega)) ?_
        refine v_iastO X (w := w) (t := t) (by omega) (by omega) 1 (by omega) i rfl (by omega) dX3_dropFirstOrder_35 ?_
        refine v_aload_n X 0 dX3_dropFirstOrder_36 rfl rfl ?_
        refine v_getT X (by omega) (by omega) 15 (by decide) hi_X3_dropFirstOrder_X3 hl_X3_dropFirstOrder_59 rfl (v := .ref (o + pO w t 2)) rfl dX3_dropFirstOrder_37 ?_
        refine v_iload_n X 1 dX3_dropFirstOrder_40 rfl rfl ?_
        refine v_iconst (v := 1) X (by decide) dX3_dropFirstOrder_41 ?_
        refine v_isub X dX3_dropFirstOrder_42 ?_
        refine v_top (y := nI (i)) (pk_sub (a := i + 1) (b := 1) (by omega)) ?_
        refine v_aload_n X 0 dX3_dropFirstOrder_43 rfl rfl ?_
        refine v_getT X (by omega) (by omega) 15 (by decide) hi_X3_dropFirstOrder_X3 hl_X3_dropFirstOrder_59 rfl (v := .ref (o + pO w t 2)) rfl dX3_dropFirstOrder_44 ?_
        refine v_iload_n X 1 dX3_dropFirstOrder_47 rfl rfl ?_
        refine v_ialdO X (w := w) (t := t) (by omega) (by omega) 2 (by omega) (i + 1) rfl (by omega) dX3_dropFirstOrder_48 ?_
        refine v_top (y := (s_shift S w t i) w (27 + 3 * t + 2) (i + 1)) ((z_up_ne _ _ (by omega)).trans (z_up_ne _ _ (by omega))) ?_
        refine v_iastO X (w := w) (t := t) (by omega) (by omega) 2 (by omega) i rfl (by omega) dX3_dropFirstOrder_49 ?_
        refine v_iinc (v := nI (i + 1 + 1)) (lo' := [(1, .int (nI (i + 1 + 1))), (0, .ref (o + pT w t))]) X 1 dX3_dropFirstOrder_50 rfl (nI_1 (i + 1)) (by decide) rfl ?_
        refine v_goto (tgt := 2) X dX3_dropFirstOrder_53 (by decide) ?_
        refine v_lo [1, 0] (lo' := [(0, .ref (o + pT w t)), (1, .int (nI (i + 1 + 1)))]) rfl ?_
        refine v_eq (S' := s_shift S w t (i + 1)) (lo' := [(0, .ref (o + pT w t)), (1, .int (nI (i + 1 + 1)))]) (by rfl) (by rfl) ?_
        exact ih_2 (i + 1) (by omega)
  refine v_lo [1, 0] (lo' := [(0, .ref (o + pT w t)), (1, .int 1)]) rfl ?_
  refine v_eq (S' := s_shift S w t 0) (lo' := [(0, .ref (o + pT w t)), (1, .int (nI (0 + 1)))]) (by rfl) (by rfl) ?_
  exact L_2 (11) 0 (by omega)
theorem hi_X3_countFirstOrder_X3 : ∀ w ∈ wsX30, w ∈ wsX3_countFirstOrder := by decide +kernel
theorem hl_X3_countFirstOrder_59 : Cond.fieldLink RX3 59 RX3 (TX3 15).2.1 (TX3 15).2.2.1 ∈ wsX3_countFirstOrder := by decide +kernel
theorem hy_X3_dropFirstOrder_V : yX3_dropFirstOrder.cls = RX3 ∧ yX3_dropFirstOrder.cls ≠ "java/lang/invoke/MethodHandle" ∧ yX3_dropFirstOrder.cls ≠ "java/lang/invoke/VarHandle" ∧ (parseMethodDescriptor yX3_dropFirstOrder.desc).map (fun d => d.parameters.length) = some 0 := by decide +kernel
set_option maxRecDepth 100000 in
set_option maxHeartbeats 4000000 in
/-- X3_countFirstOrder -/
theorem c_X3_countFirstOrder (l : Launch) (G : va_G) (cI cZ cT : ClassId) (o : Nat) (S : zS) (w t : Nat) (hw : w < 2) (ht : t < 8) : zU l G cI cZ cT o yX3_countFirstOrder wsX3_countFirstOrder { frames := 1, cells := 0, slots := 0, locals := 21 } [.ref (o + pT w t)] S (fun u => u = s_countFirst S w t) := by
  refine z_ofV (cc := cX3_countFirstOrder) (maxL := 1) (by decide) rfl (by simp [lg_sl, Value.category]) ?_
  intro p9 e9 s9 m9 a9 b9 h9 c9 X
  refine v_lo [0] (lo' := [(0, .ref (o + pT w t))]) rfl ?_
  refine v_aload_n X 0 dX3_countFirstOrder_0 rfl rfl ?_
  refine v_getT X (by omega) (by omega) 15 (by decide) hi_X3_countFirstOrder_X3 hl_X3_countFirstOrder_59 rfl (v := .ref (o + pO w t 2)) rfl dX3_countFirstOrder_1 ?_
  refine v_iconst (v := 0) X (by decide) dX3_countFirstOrder_4 ?_
  refine v_dup2 X rfl rfl dX3_countFirstOrder_5 ?_
  refine v_ialdO X (w := w) (t := t) (by omega) (by omega) 2 (by omega) 0 rfl (by omega) dX3_countFirstOrder_6 ?_
  refine v_iconst (v := 1) X (by decide) dX3_countFirstOrder_7 ?_
  refine v_isub X dX3_countFirstOrder_8 ?_
  refine v_iastO X (w := w) (t := t) (by omega) (by omega) 2 (by omega) 0 rfl (by omega) dX3_countFirstOrder_9 ?_
  refine v_aload_n X 0 dX3_countFirstOrder_10 rfl rfl ?_
  refine v_getT X (by omega) (by omega) 15 (by decide) hi_X3_countFirstOrder_X3 hl_X3_countFirstOrder_59 rfl (v := .ref (o + pO w t 2)) rfl dX3_countFirstOrder_11 ?_
  refine v_iconst (v := 0) X (by decide) dX3_countFirstOrder_14 ?_
  refine v_ialdO X (w := w) (t := t) (by omega) (by omega) 2 (by omega) 0 rfl (by omega) dX3_countFirstOrder_15 ?_
  refine v_top (y := (S w (27 + 3 * t + 2) 0) - 1) (z_up_at _ _ _ _ _) ?_
  refine v_if_gt X (tgt := 23) dX3_countFirstOrder_16 (by decide) (fun c_16 => ?_) (fun c_16 => ?_)
  ·
    exact v_vret X dX3_countFirstOrder_23 (by simp [s_countFirst, c_16])
  ·
    refine v_aload_n X 0 dX3_countFirstOrder_19 rfl rfl ?_
    refine v_callVUf X [] (pT w t) (pT_lt (by omega) (by omega)) (c_X3_dropFirstOrder l G cI cZ cT o (z_up S w (27 + 3 * t + 2) 0 ((S w (27 + 3 * t + 2) 0) - 1)) w t (by omega) (by omega)) (zc_T cI cZ cT o _ (by omega) (by omega)) (C := RX3) (T := TX3) (N := 16) rfl 0 rfl gX3_countFirstOrder_X3_dropFirstOrder rfl ⟨rfl, rfl⟩ hy_X3_dropFirstOrder_V ⟨Nat.le_of_ble_eq_true rfl, Nat.le_of_ble_eq_true rfl⟩ rfl (Nat.le_of_ble_eq_true rfl) dX3_countFirstOrder_20 ?_
    exact v_vret X dX3_countFirstOrder_23 (by simp [s_countFirst, c_16])
theorem hi_X3_missFirstOrder_X3 : ∀ w ∈ wsX30, w ∈ wsX3_missFirstOrder := by decide +kernel
theorem hl_X3_missFirstOrder_24 : Cond.fieldLink RX3 24 RX3 (TX3 4).2.1 (TX3 4).2.2.1 ∈ wsX3_missFirstOrder := by decide +kernel
set_option maxRecDepth 100000 in
set_option maxHeartbeats 4000000 in
/-- X3_missFirstOrder -/
theorem c_X3_missFirstOrder (l : Launch) (G : va_G) (cI cZ cT : ClassId) (o : Nat) (S : zS) (w t : Nat) (hw : w < 2) (ht : t < 8) : zU l G cI cZ cT o yX3_missFirstOrder wsX3_missFirstOrder { frames := 1, cells := 0, slots := 0, locals := 21 } [.ref (o + pT w t)] S (fun u => u = s_missFirst S w t) := by
  refine z_ofV (cc := cX3_missFirstOrder) (maxL := 1) (by decide) rfl (by simp [lg_sl, Value.category]) ?_
  intro p9 e9 s9 m9 a9 b9 h9 c9 X
  refine v_lo [0] (lo' := [(0, .ref (o + pT w t))]) rfl ?_
  refine v_aload_n X 0 dX3_missFirstOrder_0 rfl rfl ?_
  refine v_dup X rfl dX3_missFirstOrder_1 ?_
  refine v_getT X (by omega) (by omega) 4 (by decide) hi_X3_missFirstOrder_X3 hl_X3_missFirstOrder_24 rfl (v := .int (S w 18 t)) rfl dX3_missFirstOrder_2 ?_
  refine v_iconst (v := 1) X (by decide) dX3_missFirstOrder_5 ?_
  refine v_iadd X dX3_missFirstOrder_6 ?_
  refine v_putT4 X (by omega) (by omega) hi_X3_missFirstOrder_X3 hl_X3_missFirstOrder_24 dX3_missFirstOrder_7 ?_
  refine v_aload_n X 0 dX3_missFirstOrder_10 rfl rfl ?_
  refine v_callVUf X [] (pT w t) (pT_lt (by omega) (by omega)) (c_X3_dropFirstOrder l G cI cZ cT o (z_up S w 18 t ((S w 18 t) + 1)) w t (by omega) (by omega)) (zc_T cI cZ cT o _ (by omega) (by omega)) (C := RX3) (T := TX3) (N := 16) rfl 0 rfl gX3_missFirstOrder_X3_dropFirstOrder rfl ⟨rfl, rfl⟩ hy_X3_dropFirstOrder_V ⟨Nat.le_of_ble_eq_true rfl, Nat.le_of_ble_eq_true rfl⟩ rfl (Nat.le_of_ble_eq_true rfl) dX3_missFirstOrder_11 ?_
  exact v_vret X dX3_missFirstOrder_14 (by rfl)
theorem hi_X3_remember_X3 : ∀ w ∈ wsX30, w ∈ wsX3_remember := by decide +kernel
theorem hl_X3_remember_40 : Cond.fieldLink RX3 40 RX3 (TX3 9).2.1 (TX3 9).2.2.1 ∈ wsX3_remember := by decide +kernel
theorem hl_X3_remember_43 : Cond.fieldLink RX3 43 RX3 (TX3 10).2.1 (TX3 10).2.2.1 ∈ wsX3_remember := by decide +kernel
theorem hl_X3_remember_46 : Cond.fieldLink RX3 46 RX3 (TX3 11).2.1 (TX3 11).2.2.1 ∈ wsX3_remember := by decide +kernel
set_option maxRecDepth 100000 in
set_option maxHeartbeats 4000000 in
/-- X3_remember -/
theorem c_X3_remember (l : Launch) (G : va_G) (cI cZ cT : ClassId) (o : Nat) (S : zS) (w t : Nat) (x y z : Int32) (hw : w < 2) (ht : t < 8) : zU l G cI cZ cT o yX3_remember wsX3_remember { frames := 0, cells := 0, slots := 0, locals := 0 } [.ref (o + pT w t), .int x, .int y, .int z] S (fun u => u = s_remember S w t x y z) := by
  refine z_ofV (cc := cX3_remember) (maxL := 4) (by decide) rfl (by simp [lg_sl, Value.category]) ?_
  intro p9 e9 s9 m9 a9 b9 h9 c9 X
  refine v_lo [0, 1, 2, 3] (lo' := [(0, .ref (o + pT w t)), (1, .int x), (2, .int y), (3, .int z)]) rfl ?_
  refine v_aload_n X 0 dX3_remember_0 rfl rfl ?_
  refine v_iload_n X 1 dX3_remember_1 rfl rfl ?_
  refine v_putT9 X (by omega) (by omega) hi_X3_remember_X3 hl_X3_remember_40 dX3_remember_2 ?_
  refine v_aload_n X 0 dX3_remember_5 rfl rfl ?_
  refine v_iload_n X 2 dX3_remember_6 rfl rfl ?_
  refine v_putT10 X (by omega) (by omega) hi_X3_remember_X3 hl_X3_remember_43 dX3_remember_7 ?_
  refine v_aload_n X 0 dX3_remember_10 rfl rfl ?_
  refine v_iload_n X 3 dX3_remember_11 rfl rfl ?_
  refine v_putT11 X (by omega) (by omega) hi_X3_remember_X3 hl_X3_remember_46 dX3_remember_12 ?_
  exact v_vret X dX3_remember_15 (by rfl)
theorem hi_X3_start_X3 : ∀ w ∈ wsX30, w ∈ wsX3_start := by decide +kernel
theorem hl_X3_start_9 : Cond.fieldLink RX3 9 RX3 (TX3 0).2.1 (TX3 0).2.2.1 ∈ wsX3_start := by decide +kernel
theorem hl_X3_start_15 : Cond.fieldLink RX3 15 RX3 (TX3 1).2.1 (TX3 1).2.2.1 ∈ wsX3_start := by decide +kernel
theorem hl_X3_start_18 : Cond.fieldLink RX3 18 RX3 (TX3 2).2.1 (TX3 2).2.2.1 ∈ wsX3_start := by decide +kernel
theorem hl_X3_start_21 : Cond.fieldLink RX3 21 RX3 (TX3 3).2.1 (TX3 3).2.2.1 ∈ wsX3_start := by decide +kernel
theorem hl_X3_start_24 : Cond.fieldLink RX3 24 RX3 (TX3 4).2.1 (TX3 4).2.2.1 ∈ wsX3_start := by decide +kernel
theorem hl_X3_start_40 : Cond.fieldLink RX3 40 RX3 (TX3 9).2.1 (TX3 9).2.2.1 ∈ wsX3_start := by decide +kernel
theorem hl_X3_start_43 : Cond.fieldLink RX3 43 RX3 (TX3 10).2.1 (TX3 10).2.2.1 ∈ wsX3_start := by decide +kernel
theorem hl_X3_start_46 : Cond.fieldLink RX3 46 RX3 (TX3 11).2.1 (TX3 11).2.2.1 ∈ wsX3_start := by decide +kernel
theorem hl_X3_start_49 : Cond.fieldLink RX3 49 RX3 (TX3 12).2.1 (TX3 12).2.2.1 ∈ wsX3_start := by decide +kernel
theorem hy_X3_beginHour_V : yX3_beginHour.cls = RX3 ∧ yX3_beginHour.cls ≠ "java/lang/invoke/MethodHandle" ∧ yX3_beginHour.cls ≠ "java/lang/invoke/VarHandle" ∧ (parseMethodDescriptor yX3_beginHour.desc).map (fun d => d.parameters.length) = some 0 := by decide +kernel
set_option maxRecDepth 100000 in
set_option maxHeartbeats 4000000 in
/-- X3_start -/
theorem c_X3_start (l : Launch) (G : va_G) (cI cZ cT : ClassId) (o : Nat) (S : zS) (w t : Nat) (x y z v : Int32) (hw : w < 2) (ht : t < 8) : zU l G cI cZ cT o yX3_start wsX3_start { frames := 1, cells := 0, slots := 0, locals := 20 } [.ref (o + pT w t), .int x, .int y, .int z, .int v] S (fun u => u = s_start S w t x y z v) := by
  refine z_ofV (cc := cX3_start) (maxL := 5) (by decide) rfl (by simp [lg_sl, Value.category]) ?_
  intro p9 e9 s9 m9 a9 b9 h9 c9 X
  refine v_lo [0, 1, 2, 3, 4] (lo' := [(0, .ref (o + pT w t)), (1, .int x), (2, .int y), (3, .int z), (4, .int v)]) rfl ?_
  refine v_aload_n X 0 dX3_start_0 rfl rfl ?_
  refine v_iload_n X 1 dX3_start_1 rfl rfl ?_
  refine v_putT0 X (by omega) (by omega) hi_X3_start_X3 hl_X3_start_9 dX3_start_2 ?_
  refine v_aload_n X 0 dX3_start_5 rfl rfl ?_
  refine v_iload_n X 2 dX3_start_6 rfl rfl ?_
  refine v_putT1 X (by omega) (by omega) hi_X3_start_X3 hl_X3_start_15 dX3_start_7 ?_
  refine v_aload_n X 0 dX3_start_10 rfl rfl ?_
  refine v_iload_n X 3 dX3_start_11 rfl rfl ?_
  refine v_putT2 X (by omega) (by omega) hi_X3_start_X3 hl_X3_start_18 dX3_start_12 ?_
  refine v_aload_n X 0 dX3_start_15 rfl rfl ?_
  refine v_iload X 4 dX3_start_16 rfl ?_
  refine v_putT3 X (by omega) (by omega) hi_X3_start_X3 hl_X3_start_21 dX3_start_18 ?_
  refine v_aload_n X 0 dX3_start_21 rfl rfl ?_
  refine v_iconst (v := 0) X (by decide) dX3_start_22 ?_
  refine v_putT4 X (by omega) (by omega) hi_X3_start_X3 hl_X3_start_24 dX3_start_23 ?_
  refine v_aload_n X 0 dX3_start_26 rfl rfl ?_
  refine v_iconst (v := -1) X (by decide) dX3_start_27 ?_
  refine v_putT9 X (by omega) (by omega) hi_X3_start_X3 hl_X3_start_40 dX3_start_28 ?_
  refine v_aload_n X 0 dX3_start_31 rfl rfl ?_
  refine v_iconst (v := -1) X (by decide) dX3_start_32 ?_
  refine v_putT10 X (by omega) (by omega) hi_X3_start_X3 hl_X3_start_43 dX3_start_33 ?_
  refine v_aload_n X 0 dX3_start_36 rfl rfl ?_
  refine v_iconst (v := -1) X (by decide) dX3_start_37 ?_
  refine v_putT11 X (by omega) (by omega) hi_X3_start_X3 hl_X3_start_46 dX3_start_38 ?_
  refine v_aload_n X 0 dX3_start_41 rfl rfl ?_
  refine v_iconst (v := 0) X (by decide) dX3_start_42 ?_
  refine v_putT12 X (by omega) (by omega) hi_X3_start_X3 hl_X3_start_49 dX3_start_43 ?_
  refine v_aload_n X 0 dX3_start_46 rfl rfl ?_
  refine v_callVUf X [] (pT w t) (pT_lt (by omega) (by omega)) (c_X3_beginHour l G cI cZ cT o (z_up (z_up (z_up (z_up (z_up (z_up (z_up (z_up (z_up S w 14 t x) w 15 t y) w 16 t z) w 17 t v) w 18 t 0) w 23 t (-1)) w 24 t (-1)) w 25 t (-1)) w 26 t 0) w t (by omega) (by omega)) (zc_T cI cZ cT o _ (by omega) (by omega)) (C := RX3) (T := TX3) (N := 16) rfl 0 rfl gX3_start_X3_beginHour rfl ⟨rfl, rfl⟩ hy_X3_beginHour_V ⟨Nat.le_of_ble_eq_true rfl, Nat.le_of_ble_eq_true rfl⟩ rfl (Nat.le_of_ble_eq_true rfl) dX3_start_47 ?_
  exact v_vret X dX3_start_50 (by rfl)
theorem hi_X3_heardValue_X3 : ∀ w ∈ wsX30, w ∈ wsX3_heardValue := by decide +kernel
theorem hl_X3_heardValue_40 : Cond.fieldLink RX3 40 RX3 (TX3 9).2.1 (TX3 9).2.2.1 ∈ wsX3_heardValue := by decide +kernel
theorem hl_X3_heardValue_43 : Cond.fieldLink RX3 43 RX3 (TX3 10).2.1 (TX3 10).2.2.1 ∈ wsX3_heardValue := by decide +kernel
theorem hl_X3_heardValue_46 : Cond.fieldLink RX3 46 RX3 (TX3 11).2.1 (TX3 11).2.2.1 ∈ wsX3_heardValue := by decide +kernel
set_option maxRecDepth 100000 in
set_option maxHeartbeats 4000000 in
/-- X3_heardValue -/
theorem c_X3_heardValue (l : Launch) (G : va_G) (cI cZ cT : ClassId) (o : Nat) (S : zS) (w t k : Nat) (hw : w < 2) (ht : t < 8) (hk : k < 3) : zI l G cI cZ cT o yX3_heardValue wsX3_heardValue { frames := 0, cells := 0, slots := 0, locals := 0 } [.ref (o + pT w t), .int (nI k)] S (fun r u => r = s_heardV S w t k ∧ u = S) := by
  refine z_ofI (cc := cX3_heardValue) (maxL := 2) (by decide) rfl (by simp [lg_sl, Value.category]) ?_
  intro p9 e9 s9 m9 a9 b9 h9 c9 X
  refine v_lo [0, 1] (lo' := [(0, .ref (o + pT w t)), (1, .int (nI k))]) rfl ?_
  refine v_iload_n X 1 dX3_heardValue_0 rfl rfl ?_
  rcases (show k = 0 ∨ k = 1 ∨ k = 2 by omega) with rfl | rfl | rfl
  ·
    refine v_lsw X (off := 27) (tgt := 28) dX3_heardValue_1 (by decide) (by decide) (by decide) ?_
    refine v_aload_n X 0 dX3_heardValue_28 rfl rfl ?_
    refine v_getT X (by omega) (by omega) 9 (by decide) hi_X3_heardValue_X3 hl_X3_heardValue_40 rfl (v := .int (S w 23 t)) rfl dX3_heardValue_29 ?_
    exact v_iret X dX3_heardValue_32 (by simp [s_heardV])
  ·
    refine v_lsw X (off := 32) (tgt := 33) dX3_heardValue_1 (by decide) (by decide) (by decide) ?_
    refine v_aload_n X 0 dX3_heardValue_33 rfl rfl ?_
    refine v_getT X (by omega) (by omega) 10 (by decide) hi_X3_heardValue_X3 hl_X3_heardValue_43 rfl (v := .int (S w 24 t)) rfl dX3_heardValue_34 ?_
    exact v_iret X dX3_heardValue_37 (by simp [s_heardV])
  ·
    refine v_lsw X (off := 37) (tgt := 38) dX3_heardValue_1 (by decide) (by decide) (by decide) ?_
    refine v_aload_n X 0 dX3_heardValue_38 rfl rfl ?_
    refine v_getT X (by omega) (by omega) 11 (by decide) hi_X3_heardValue_X3 hl_X3_heardValue_46 rfl (v := .int (S w 25 t)) rfl dX3_heardValue_39 ?_
    exact v_iret X dX3_heardValue_42 (by simp [s_heardV])
theorem hi_X3_isNear_X3 : ∀ w ∈ wsX30, w ∈ wsX3_isNear := by decide +kernel
theorem hl_X3_isNear_15 : Cond.fieldLink RX3 15 RX3 (TX3 1).2.1 (TX3 1).2.2.1 ∈ wsX3_isNear := by decide +kernel
theorem hy_X5_distance_N : yX5_distance.cls ≠ "java/lang/invoke/MethodHandle" ∧ yX5_distance.cls ≠ "java/lang/invoke/VarHandle" ∧ (parseMethodDescriptor yX5_distance.desc).map (fun d => d.parameters.length) = some 2 := by decide +kernel
theorem hw_X3_isNear_st_X5_distance : Cond.static yX5_distance ∈ wsX3_isNear := by decide +kernel
theorem hw_X3_isNear_in_X5 : Cond.initialized yX5_distance.cls ∈ wsX3_isNear := by decide +kernel
theorem hn_X3_71 : Cond.methodLinkNest RX3 71 yX5_distance RX5 ∈ z_nest := by simp [z_nest]
set_option maxRecDepth 100000 in
set_option maxHeartbeats 4000000 in
/-- X3_isNear -/
theorem c_X3_isNear (l : Launch) (G : va_G) (cI cZ cT : ClassId) (o : Nat) (S : zS) (w t a b : Nat) (hw : w < 2) (ht : t < 8) (ha : a < 144) (hb : b < 144) (ec : S w 15 t = nI a) : zI l G cI cZ cT o yX3_isNear wsX3_isNear { frames := 2, cells := 0, slots := 0, locals := 42 } [.ref (o + pT w t), .int (nI b)] S (fun r u => r = s_isNear a b ∧ u = S) := by
  refine z_ofZb (cc := cX3_isNear) (maxL := 2) (by decide) rfl (by simp [lg_sl, Value.category]) ?_
  intro p9 e9 s9 m9 a9 b9 h9 c9 X
  refine v_lo [0, 1] (lo' := [(0, .ref (o + pT w t)), (1, .int (nI b))]) rfl ?_
  refine v_aload_n X 0 dX3_isNear_0 rfl rfl ?_
  refine v_getT X (by omega) (by omega) 1 (by decide) hi_X3_isNear_X3 hl_X3_isNear_15 rfl (v := .int (S w 15 t)) rfl dX3_isNear_1 ?_
  refine v_top (y := nI a) (ec) ?_
  refine v_iload_n X 1 dX3_isNear_4 rfl rfl ?_
  refine v_callNIf X [.int (nI a), .int (nI b)] (c_X5_distance l G cI cZ cT o S a b (by omega) (by omega)) 2 rfl hn_X3_71 gX3_isNear_X5_distance_n71 hw_X3_isNear_st_X5_distance hw_X3_isNear_in_X5 rfl ⟨rfl, rfl⟩ hy_X5_distance_N ⟨Nat.le_of_ble_eq_true rfl, Nat.le_of_ble_eq_true rfl⟩ rfl (Nat.le_of_ble_eq_true rfl) dX3_isNear_5 ?_
  refine v_iconst (v := 1) X (by decide) dX3_isNear_8 ?_
  refine v_icmp_gt X (tgt := 16) dX3_isNear_9 (by decide) (fun c_9 => ?_) (fun c_9 => ?_)
  ·
    refine v_iconst (v := 0) X (by decide) dX3_isNear_16 ?_
    exact v_zret X rfl dX3_isNear_17 (by simp [s_isNear, c_9])
  ·
    refine v_iconst (v := 1) X (by decide) dX3_isNear_12 ?_
    refine v_goto (tgt := 17) X dX3_isNear_13 (by decide) ?_
    exact v_zret X rfl dX3_isNear_17 (by simp [s_isNear, c_9])
theorem hi_X3_valueOf_X3 : ∀ w ∈ wsX30, w ∈ wsX3_valueOf := by decide +kernel
theorem hl_X3_valueOf_9 : Cond.fieldLink RX3 9 RX3 (TX3 0).2.1 (TX3 0).2.2.1 ∈ wsX3_valueOf := by decide +kernel
theorem hl_X3_valueOf_15 : Cond.fieldLink RX3 15 RX3 (TX3 1).2.1 (TX3 1).2.2.1 ∈ wsX3_valueOf := by decide +kernel
theorem hl_X3_valueOf_18 : Cond.fieldLink RX3 18 RX3 (TX3 2).2.1 (TX3 2).2.2.1 ∈ wsX3_valueOf := by decide +kernel
theorem hl_X3_valueOf_21 : Cond.fieldLink RX3 21 RX3 (TX3 3).2.1 (TX3 3).2.2.1 ∈ wsX3_valueOf := by decide +kernel
theorem hl_X3_valueOf_49 : Cond.fieldLink RX3 49 RX3 (TX3 12).2.1 (TX3 12).2.2.1 ∈ wsX3_valueOf := by decide +kernel
theorem hl_X3_valueOf_24 : Cond.fieldLink RX3 24 RX3 (TX3 4).2.1 (TX3 4).2.2.1 ∈ wsX3_valueOf := by decide +kernel
theorem hl_X3_valueOf_27 : Cond.fieldLink RX3 27 RX3 (TX3 5).2.1 (TX3 5).2.2.1 ∈ wsX3_valueOf := by decide +kernel
theorem hy_X3_firstKind_V : yX3_firstKind.cls = RX3 ∧ yX3_firstKind.cls ≠ "java/lang/invoke/MethodHandle" ∧ yX3_firstKind.cls ≠ "java/lang/invoke/VarHandle" ∧ (parseMethodDescriptor yX3_firstKind.desc).map (fun d => d.parameters.length) = some 0 := by decide +kernel
theorem hl_X3_valueOf_59 : Cond.fieldLink RX3 59 RX3 (TX3 15).2.1 (TX3 15).2.2.1 ∈ wsX3_valueOf := by decide +kernel
set_option maxRecDepth 100000 in
set_option maxHeartbeats 4000000 in
/-- X3_valueOf -/
theorem c_X3_valueOf (l : Launch) (G : va_G) (cI cZ cT : ClassId) (o : Nat) (S : zS) (w t a k : Nat) (hw : w < 2) (ht : t < 8) (ha : a < 144) (hk : k < 10) (ec : S w 15 t = nI a) : zI l G cI cZ cT o yX3_valueOf wsX3_valueOf { frames := 1, cells := 0, slots := 0, locals := 20 } [.ref (o + pT w t), .int (nI k)] S (fun r u => r = s_teamV S w t a k ∧ u = S) := by
  refine z_ofI (cc := cX3_valueOf) (maxL := 2) (by decide) rfl (by simp [lg_sl, Value.category]) ?_
  intro p9 e9 s9 m9 a9 b9 h9 c9 X
  refine v_lo [0, 1] (lo' := [(0, .ref (o + pT w t)), (1, .int (nI k))]) rfl ?_
  refine v_iload_n X 1 dX3_valueOf_0 rfl rfl ?_
  rcases (show k = 0 ∨ k = 1 ∨ k = 2 ∨ k = 3 ∨ k = 4 ∨ k = 5 ∨ k = 6 ∨ k = 7 ∨ k = 8 ∨ k = 9 by omega) with rfl | rfl | rfl | rfl | rfl | rfl | rfl | rfl | rfl | rfl
  ·
    refine v_tsw X (off := 51) (tgt := 52) dX3_valueOf_1 (by decide) (by decide) (by decide) (by decide) ?_
    refine v_aload_n X 0 dX3_valueOf_52 rfl rfl ?_
    refine v_getT X (by omega) (by omega) 0 (by decide) hi_X3_valueOf_X3 hl_X3_valueOf_9 rfl (v := .int (S w 14 t)) rfl dX3_valueOf_53 ?_
    exact v_iret X dX3_valueOf_56 (by simp [s_teamV])
  ·
    refine v_tsw X (off := 56) (tgt := 57) dX3_valueOf_1 (by decide) (by decide) (by decide) (by decide) ?_
    refine v_aload_n X 0 dX3_valueOf_57 rfl rfl ?_
    refine v_getT X (by omega) (by omega) 1 (by decide) hi_X3_valueOf_X3 hl_X3_valueOf_15 rfl (v := .int (S w 15 t)) rfl dX3_valueOf_58 ?_
    refine v_top (y := nI a) (ec) ?_
    refine v_bipush (v := 12) X (by decide) dX3_valueOf_61 ?_
    refine v_irem X (by decide) dX3_valueOf_63 ?_
    refine v_top (y := nI (a % 12)) (pk_rem (a := a) (d := 12) (by omega) (by omega) (by omega)) ?_
    exact v_iret X dX3_valueOf_64 (by simp [s_teamV])
  ·
    refine v_tsw X (off := 64) (tgt := 65) dX3_valueOf_1 (by decide) (by decide) (by decide) (by decide) ?_
    refine v_aload_n X 0 dX3_valueOf_65 rfl rfl ?_
    refine v_getT X (by omega) (by omega) 1 (by decide) hi_X3_valueOf_X3 hl_X3_valueOf_15 rfl (v := .int (S w 15 t)) rfl dX3_valueOf_66 ?_
    refine v_top (y := nI a) (ec) ?_
    refine v_bipush (v := 12) X (by decide) dX3_valueOf_69 ?_
    refine v_idiv X (by decide) dX3_valueOf_71 ?_
    refine v_top (y := nI (a / 12)) (pk_div (a := a) (d := 12) (by omega) (by omega) (by omega)) ?_
    exact v_iret X dX3_valueOf_72 (by simp [s_teamV])
  ·
    refine v_tsw X (off := 72) (tgt := 73) dX3_valueOf_1 (by decide) (by decide) (by decide) (by decide) ?_
    refine v_aload_n X 0 dX3_valueOf_73 rfl rfl ?_
    refine v_getT X (by omega) (by omega) 2 (by decide) hi_X3_valueOf_X3 hl_X3_valueOf_18 rfl (v := .int (S w 16 t)) rfl dX3_valueOf_74 ?_
    exact v_iret X dX3_valueOf_77 (by simp [s_teamV])
  ·
    refine v_tsw X (off := 77) (tgt := 78) dX3_valueOf_1 (by decide) (by decide) (by decide) (by decide) ?_
    refine v_aload_n X 0 dX3_valueOf_78 rfl rfl ?_
    refine v_getT X (by omega) (by omega) 3 (by decide) hi_X3_valueOf_X3 hl_X3_valueOf_21 rfl (v := .int (S w 17 t)) rfl dX3_valueOf_79 ?_
    exact v_iret X dX3_valueOf_82 (by simp [s_teamV])
  ·
    refine v_tsw X (off := 82) (tgt := 83) dX3_valueOf_1 (by decide) (by decide) (by decide) (by decide) ?_
    refine v_aload_n X 0 dX3_valueOf_83 rfl rfl ?_
    refine v_getT X (by omega) (by omega) 12 (by decide) hi_X3_valueOf_X3 hl_X3_valueOf_49 rfl (v := .int (S w 26 t)) rfl dX3_valueOf_84 ?_
    exact v_iret X dX3_valueOf_87 (by simp [s_teamV])
  ·
    refine v_tsw X (off := 87) (tgt := 88) dX3_valueOf_1 (by decide) (by decide) (by decide) (by decide) ?_
    refine v_aload_n X 0 dX3_valueOf_88 rfl rfl ?_
    refine v_getT X (by omega) (by omega) 4 (by decide) hi_X3_valueOf_X3 hl_X3_valueOf_24 rfl (v := .int (S w 18 t)) rfl dX3_valueOf_89 ?_
    exact v_iret X dX3_valueOf_92 (by simp [s_teamV])
  ·
    refine v_tsw X (off := 92) (tgt := 93) dX3_valueOf_1 (by decide) (by decide) (by decide) (by decide) ?_
    refine v_aload_n X 0 dX3_valueOf_93 rfl rfl ?_
    refine v_getT X (by omega) (by omega) 5 (by decide) hi_X3_valueOf_X3 hl_X3_valueOf_27 rfl (v := .int (S w 19 t)) rfl dX3_valueOf_94 ?_
    exact v_iret X dX3_valueOf_97 (by simp [s_teamV])
  ·
    refine v_tsw X (off := 97) (tgt := 98) dX3_valueOf_1 (by decide) (by decide) (by decide) (by decide) ?_
    refine v_aload_n X 0 dX3_valueOf_98 rfl rfl ?_
    refine v_callVIf X [] (pT w t) (pT_lt (by omega) (by omega)) (c_X3_firstKind l G cI cZ cT o S w t (by omega) (by omega)) (zc_T cI cZ cT o _ (by omega) (by omega)) (C := RX3) (T := TX3) (N := 16) rfl 0 rfl gX3_valueOf_X3_firstKind rfl ⟨rfl, rfl⟩ hy_X3_firstKind_V ⟨Nat.le_of_ble_eq_true rfl, Nat.le_of_ble_eq_true rfl⟩ rfl (Nat.le_of_ble_eq_true rfl) dX3_valueOf_99 ?_
    exact v_iret X dX3_valueOf_102 (by simp [s_teamV])
  ·
    refine v_tswO X (tgt := 103) dX3_valueOf_1 (by decide) (by decide) ?_
    refine v_aload_n X 0 dX3_valueOf_103 rfl rfl ?_
    refine v_getT X (by omega) (by omega) 12 (by decide) hi_X3_valueOf_X3 hl_X3_valueOf_49 rfl (v := .int (S w 26 t)) rfl dX3_valueOf_104 ?_
    refine v_if_le X (tgt := 119) dX3_valueOf_107 (by decide) (fun c_107 => ?_) (fun c_107 => ?_)
    ·
      refine v_iconst (v := 0) X (by decide) dX3_valueOf_119 ?_
      exact v_iret X dX3_valueOf_120 (by simp [s_teamV, c_107])
    ·
      refine v_aload_n X 0 dX3_valueOf_110 rfl rfl ?_
      refine v_getT X (by omega) (by omega) 15 (by decide) hi_X3_valueOf_X3 hl_X3_valueOf_59 rfl (v := .ref (o + pO w t 2)) rfl dX3_valueOf_111 ?_
      refine v_iconst (v := 0) X (by decide) dX3_valueOf_114 ?_
      refine v_ialdO X (w := w) (t := t) (by omega) (by omega) 2 (by omega) 0 rfl (by omega) dX3_valueOf_115 ?_
      refine v_goto (tgt := 120) X dX3_valueOf_116 (by decide) ?_
      exact v_iret X dX3_valueOf_120 (by simp [s_teamV, c_107])
theorem hi_X3_addOrder_X3 : ∀ w ∈ wsX30, w ∈ wsX3_addOrder := by decide +kernel
theorem hl_X3_addOrder_49 : Cond.fieldLink RX3 49 RX3 (TX3 12).2.1 (TX3 12).2.2.1 ∈ wsX3_addOrder := by decide +kernel
theorem hl_X3_addOrder_52 : Cond.fieldLink RX3 52 RX3 (TX3 13).2.1 (TX3 13).2.2.1 ∈ wsX3_addOrder := by decide +kernel
theorem hl_X3_addOrder_56 : Cond.fieldLink RX3 56 RX3 (TX3 14).2.1 (TX3 14).2.2.1 ∈ wsX3_addOrder := by decide +kernel
theorem hl_X3_addOrder_59 : Cond.fieldLink RX3 59 RX3 (TX3 15).2.1 (TX3 15).2.2.1 ∈ wsX3_addOrder := by decide +kernel
set_option maxRecDepth 100000 in
set_option maxHeartbeats 4000000 in
/-- X3_addOrder -/
theorem c_X3_addOrder (l : Launch) (G : va_G) (cI cZ cT : ClassId) (o : Nat) (S : zS) (w t n : Nat) (x y z : Int32) (hw : w < 2) (ht : t < 8) (hn : n < 12) (en : S w 26 t = nI n) : zU l G cI cZ cT o yX3_addOrder wsX3_addOrder { frames := 0, cells := 0, slots := 0, locals := 0 } [.ref (o + pT w t), .int x, .int y, .int z] S (fun u => u = s_addOrder S w t n x y z) := by
  refine z_ofV (cc := cX3_addOrder) (maxL := 4) (by decide) rfl (by simp [lg_sl, Value.category]) ?_
  intro p9 e9 s9 m9 a9 b9 h9 c9 X
  refine v_lo [0, 1, 2, 3] (lo' := [(0, .ref (o + pT w t)), (1, .int x), (2, .int y), (3, .int z)]) rfl ?_
  refine v_aload_n X 0 dX3_addOrder_0 rfl rfl ?_
  refine v_getT X (by omega) (by omega) 12 (by decide) hi_X3_addOrder_X3 hl_X3_addOrder_49 rfl (v := .int (S w 26 t)) rfl dX3_addOrder_1 ?_
  refine v_top (y := nI n) (en) ?_
  refine v_if_lt X (tgt := 16) dX3_addOrder_4 (by decide) (fun q => absurd q (nI_pos (by omega))) (fun _ => ?_)
  refine v_aload_n X 0 dX3_addOrder_7 rfl rfl ?_
  refine v_getT X (by omega) (by omega) 12 (by decide) hi_X3_addOrder_X3 hl_X3_addOrder_49 rfl (v := .int (S w 26 t)) rfl dX3_addOrder_8 ?_
  refine v_top (y := nI n) (en) ?_
  refine v_bipush (v := 12) X (by decide) dX3_addOrder_11 ?_
  refine v_ncmp_lt X n 12 rfl rfl (by omega) (by omega) (tgt := 17) dX3_addOrder_13 (by decide) (fun c_13 => ?_) (fun c_13 => ?_)
  ·
    refine v_aload_n X 0 dX3_addOrder_17 rfl rfl ?_
    refine v_getT X (by omega) (by omega) 13 (by decide) hi_X3_addOrder_X3 hl_X3_addOrder_52 rfl (v := .ref (o + pO w t 0)) rfl dX3_addOrder_18 ?_
    refine v_aload_n X 0 dX3_addOrder_21 rfl rfl ?_
    refine v_getT X (by omega) (by omega) 12 (by decide) hi_X3_addOrder_X3 hl_X3_addOrder_49 rfl (v := .int (S w 26 t)) rfl dX3_addOrder_22 ?_
    refine v_top (y := nI n) (en) ?_
    refine v_iload_n X 1 dX3_addOrder_25 rfl rfl ?_
    refine v_iastO X (w := w) (t := t) (by omega) (by omega) 0 (by omega) n rfl (by omega) dX3_addOrder_26 ?_
    refine v_aload_n X 0 dX3_addOrder_27 rfl rfl ?_
    refine v_getT X (by omega) (by omega) 14 (by decide) hi_X3_addOrder_X3 hl_X3_addOrder_56 rfl (v := .ref (o + pO w t 1)) rfl dX3_addOrder_28 ?_
    refine v_aload_n X 0 dX3_addOrder_31 rfl rfl ?_
    refine v_getT X (by omega) (by omega) 12 (by decide) hi_X3_addOrder_X3 hl_X3_addOrder_49 rfl (v := .int ((z_up S w (27 + 3 * t + 0) n x) w 26 t)) rfl dX3_addOrder_32 ?_
    refine v_top (y := S w 26 t) (z_up_ne _ _ (by omega)) ?_
    refine v_top (y := nI n) (en) ?_
    refine v_iload_n X 2 dX3_addOrder_35 rfl rfl ?_
    refine v_iastO X (w := w) (t := t) (by omega) (by omega) 1 (by omega) n rfl (by omega) dX3_addOrder_36 ?_
    refine v_aload_n X 0 dX3_addOrder_37 rfl rfl ?_
    refine v_getT X (by omega) (by omega) 15 (by decide) hi_X3_addOrder_X3 hl_X3_addOrder_59 rfl (v := .ref (o + pO w t 2)) rfl dX3_addOrder_38 ?_
    refine v_aload_n X 0 dX3_addOrder_41 rfl rfl ?_
    refine v_getT X (by omega) (by omega) 12 (by decide) hi_X3_addOrder_X3 hl_X3_addOrder_49 rfl (v := .int ((z_up (z_up S w (27 + 3 * t + 0) n x) w (27 + 3 * t + 1) n y) w 26 t)) rfl dX3_addOrder_42 ?_
    refine v_top (y := S w 26 t) ((z_up_ne _ _ (by omega)).trans (z_up_ne _ _ (by omega))) ?_
    refine v_top (y := nI n) (en) ?_
    refine v_iload_n X 3 dX3_addOrder_45 rfl rfl ?_
    refine v_iastO X (w := w) (t := t) (by omega) (by omega) 2 (by omega) n rfl (by omega) dX3_addOrder_46 ?_
    refine v_aload_n X 0 dX3_addOrder_47 rfl rfl ?_
    refine v_dup X rfl dX3_addOrder_48 ?_
    refine v_getT X (by omega) (by omega) 12 (by decide) hi_X3_addOrder_X3 hl_X3_addOrder_49 rfl (v := .int ((z_up (z_up (z_up S w (27 + 3 * t + 0) n x) w (27 + 3 * t + 1) n y) w (27 + 3 * t + 2) n z) w 26 t)) rfl dX3_addOrder_49 ?_
    refine v_top (y := S w 26 t) (((z_up_ne _ _ (by omega)).trans (z_up_ne _ _ (by omega))).trans (z_up_ne _ _ (by omega))) ?_
    refine v_top (y := nI n) (en) ?_
    refine v_iconst (v := 1) X (by decide) dX3_addOrder_52 ?_
    refine v_iadd X dX3_addOrder_53 ?_
    refine v_top (y := nI (n + 1)) (nI_add n 1) ?_
    refine v_putT12 X (by omega) (by omega) hi_X3_addOrder_X3 hl_X3_addOrder_49 dX3_addOrder_54 ?_
    exact v_vret X dX3_addOrder_57 (by rfl)
  ·
    exact absurd c_13 (by omega)
end ZM2
