section ZM5
def s_gcp (S : zS) : zS := z_cpA (z_cpA (z_cpA (z_cpA (z_cpA (z_cpA (z_cpA (z_cpA S 1 0 0 0) 1 1 0 1) 1 2 0 2) 1 3 0 3) 1 4 0 4) 1 5 0 5) 1 6 0 6) 1 7 0 7
def s_gcopy (S : zS) : zS := z_up (z_up (s_gcp S) 1 10 0 (s_gcp S 0 10 0)) 1 11 0 (s_gcp S 0 11 0)
def s_tcp (S : zS) (t : Nat) : zS := z_up (z_up (z_up (z_up (z_up (z_up (z_up (z_up (z_up (z_up (z_up (z_up (z_up S 1 14 t (S 0 14 t)) 1 15 t (S 0 15 t)) 1 16 t (S 0 16 t)) 1 17 t (S 0 17 t)) 1 18 t (S 0 18 t)) 1 19 t (S 0 19 t)) 1 20 t (S 0 20 t)) 1 21 t (S 0 21 t)) 1 22 t (S 0 22 t)) 1 23 t (S 0 23 t)) 1 24 t (S 0 24 t)) 1 25 t (S 0 25 t)) 1 26 t (S 0 26 t)
def s_tcopy (S : zS) (t : Nat) : zS := z_cpA (z_cpA (z_cpA (s_tcp S t) 1 (27 + 3 * t + 0) 0 (27 + 3 * t + 0)) 1 (27 + 3 * t + 1) 0 (27 + 3 * t + 1)) 1 (27 + 3 * t + 2) 0 (27 + 3 * t + 2)
def s_tcopyN (S : zS) : Nat → zS
  | 0 => S
  | t + 1 => s_tcopy (s_tcopyN S t) t
def s_scp (S : zS) (n : Nat) : zS := z_up (z_up (s_gcopy S) 1 12 0 (nI n)) 1 13 0 (s_gcopy S 0 13 0)
def s_scopy (S : zS) (n : Nat) : zS := s_tcopyN (s_scp S n) n
/-- siege 0 is left as it was -/
def k0 (S S' : zS) : Prop := ∀ w k i, w ≠ 1 → S' w k i = S w k i
theorem k0.rf {S : zS} : k0 S S := fun _ _ _ _ => rfl
theorem k0.tr {S S1 S2 : zS} (h1 : k0 S S1) (h2 : k0 S1 S2) : k0 S S2 := fun w k i h => (h2 w k i h).trans (h1 w k i h)
theorem k0.up {S S1 : zS} (h : k0 S S1) (k i : Nat) (x : Int32) : k0 S (z_up S1 1 k i x) := fun w' k' i' q => (z_up_ne S1 x (by omega)).trans (h w' k' i' q)
theorem k0.cp {S S1 : zS} (h : k0 S S1) (k w2 k2 : Nat) : k0 S (z_cpA S1 1 k w2 k2) := fun w' k' i' q => by
  have q2 : ¬ (w' = 1 ∧ k' = k) := by omega
  rw [← h w' k' i' q]; simp only [z_cpA, z_put, if_neg q2]
theorem k0_gcp {S S1 : zS} (h : k0 S S1) : k0 S (s_gcp S1) := (((((((h.cp _ _ _).cp _ _ _).cp _ _ _).cp _ _ _).cp _ _ _).cp _ _ _).cp _ _ _).cp _ _ _
theorem k0_gcopy {S S1 : zS} (h : k0 S S1) : k0 S (s_gcopy S1) := ((k0_gcp h).up _ _ _).up _ _ _
theorem k0_tcp {S S1 : zS} (h : k0 S S1) (t : Nat) : k0 S (s_tcp S1 t) := ((((((((((((h.up _ _ _).up _ _ _).up _ _ _).up _ _ _).up _ _ _).up _ _ _).up _ _ _).up _ _ _).up _ _ _).up _ _ _).up _ _ _).up _ _ _).up _ _ _
theorem k0_tcopy {S S1 : zS} (h : k0 S S1) (t : Nat) : k0 S (s_tcopy S1 t) := (((k0_tcp h t).cp _ _ _).cp _ _ _).cp _ _ _
theorem k0_tcopyN {S S1 : zS} (h : k0 S S1) : ∀ t, k0 S (s_tcopyN S1 t)
  | 0 => h
  | t + 1 => k0_tcopy (k0_tcopyN h t) t
theorem k0_scp {S S1 : zS} (h : k0 S S1) (n : Nat) : k0 S (s_scp S1 n) := ((k0_gcopy h).up _ _ _).up _ _ _
theorem k0_scopy {S S1 : zS} (h : k0 S S1) (n : Nat) : k0 S (s_scopy S1 n) := k0_tcopyN (k0_scp h n) n
theorem z_cp_at (S : zS) (w k w2 k2 i : Nat) : z_cpA S w k w2 k2 w k i = S w2 k2 i := by simp [z_cpA, z_put]
theorem z_cp_ne (S : zS) {w k w2 k2 w' k' i : Nat} (h : ¬ (w' = w ∧ k' = k)) : z_cpA S w k w2 k2 w' k' i = S w' k' i := by simp only [z_cpA, z_put, if_neg h]
theorem tcopy_12 (S : zS) (t : Nat) : s_tcopy S t 1 12 0 = S 1 12 0 := by
  unfold s_tcopy s_tcp
  rw [z_cp_ne _ (by omega), z_cp_ne _ (by omega), z_cp_ne _ (by omega)]
  repeat rw [z_up_ne _ _ (by omega)]
theorem tcopyN_12 (S : zS) (n : Nat) : ∀ t, s_tcopyN (s_scp S n) t 1 12 0 = nI n
  | 0 => by
    show z_up (z_up (s_gcopy S) 1 12 0 (nI n)) 1 13 0 (s_gcopy S 0 13 0) 1 12 0 = nI n
    rw [z_up_ne _ _ (by omega), z_up_at]
  | t + 1 => (tcopy_12 _ t).trans (tcopyN_12 S n t)
/-- the flags are flags -/
def z_bo (S : zS) (w : Nat) : Prop := ∀ t, t < 8 → (S w 21 t = 0 ∨ S w 21 t = 1) ∧ (S w 22 t = 0 ∨ S w 22 t = 1)
-- the tape
def z_byte (x : Int32) (i : Nat) : Int32 := ((x.toUInt32 >>> ((24 - nI (8 * i)).toUInt32 &&& Int32.toUInt32 31)).toInt32) &&& 255
def s_app1 (S : zS) (L : Nat) (x : Int32) (i : Nat) : zS := z_up (z_up S 2 0 (L + i) (z_byte x i)) 2 1 0 (nI (L + i + 1))
def s_app (S : zS) (L : Nat) (x : Int32) : Nat → zS
  | 0 => S
  | i + 1 => s_app1 (s_app S L x i) L x i
theorem app_len {S : zS} {L : Nat} (x : Int32) (h : S 2 1 0 = nI L) : ∀ i, s_app S L x i 2 1 0 = nI (L + i)
  | 0 => h
  | i + 1 => by
    show z_up (z_up (s_app S L x i) 2 0 (L + i) (z_byte x i)) 2 1 0 (nI (L + i + 1)) 2 1 0 = nI (L + (i + 1))
    rw [z_up_at]; rfl
def s_ground (x : Int32) : Int32 := if x < 49 then (if x < 97 then (if x = 35 then 1 else if x = 46 then 1 else 0) else if 105 < x then (if x = 35 then 1 else if x = 46 then 1 else 0) else 1) else if 57 < x then (if x < 97 then (if x = 35 then 1 else if x = 46 then 1 else 0) else if 105 < x then (if x = 35 then 1 else if x = 46 then 1 else 0) else 1) else 1
def s_fits (S : zS) (p : Nat) : Int32 := if 156 ≤ p then 0 else if p % 13 = 12 then (if S 2 0 p = 10 then 1 else 0) else s_ground (S 2 0 p)
def s_badN (S : zS) : Nat → Nat
  | 0 => 0
  | i + 1 => if s_badN S i < i then s_badN S i else if s_fits S i = 0 then i else i + 1
theorem s_badN_of {S : zS} {i : Nat} (h1 : s_badN S i = i) (h2 : s_fits S i = 0) : ∀ L, i < L → s_badN S L = i
  | 0, h => absurd h (Nat.not_lt_zero i)
  | L + 1, h => by
    show (if s_badN S L < L then s_badN S L else if s_fits S L = 0 then L else L + 1) = i
    rcases Nat.lt_or_ge i L with q | q
    · rw [s_badN_of h1 h2 L q, if_pos q]
    · rw [show L = i by omega, h1, if_neg (Nat.lt_irrefl i), if_pos h2]
def s_err (S : zS) (L : Nat) : Int32 := if s_badN S L < L then nI (s_badN S L) else if L < 156 then nI L else -1
def s_rc0 (S : zS) (w c : Nat) : zS := s_makeEarth (z_up S w 1 c (-1)) w c 3
def s_readCell (S : zS) (w c : Nat) (x : Int32) : zS :=
  if x = 46 then s_openTunnel (s_rc0 S w c) w c else if x = 35 then z_up (s_rc0 S w c) w 0 c 0 else if x < 97 then z_up (s_rc0 S w c) w 0 c (x - 48)
  else z_up (z_up (s_rc0 S w c) w 0 c (x - 97 + 1)) w 1 c 20
def s_read (S : zS) (w : Nat) : Nat → zS
  | 0 => S
  | c + 1 => s_readCell (s_read S w c) w c (s_read S w c 2 0 (13 * (c / 12) + c % 12))

theorem hi_X0_readCell_X0 : ∀ w ∈ wsX00, w ∈ wsX0_readCell := by decide +kernel
theorem hl_X0_readCell_15 : Cond.fieldLink RX0 15 RX0 (TX0 1).2.1 (TX0 1).2.2.1 ∈ wsX0_readCell := by decide +kernel
theorem hl_X0_readCell_9 : Cond.fieldLink RX0 9 RX0 (TX0 0).2.1 (TX0 0).2.2.1 ∈ wsX0_readCell := by decide +kernel
set_option maxRecDepth 100000 in
set_option maxHeartbeats 4000000 in
/-- X0_readCell -/
theorem c_X0_readCell (l : Launch) (G : va_G) (cI cZ cT : ClassId) (o : Nat) (S : zS) (w c : Nat) (x : Int32) (hw : w < 2) (hc : c < 144) : zU l G cI cZ cT o yX0_readCell wsX0_readCell { frames := 2, cells := 0, slots := 0, locals := 43 } [.ref (o + pG w), .int (nI c), .int x] S (fun u => u = s_readCell S w c x) := by
  refine z_ofV (cc := cX0_readCell) (maxL := 3) (by decide) rfl (by simp [lg_sl, Value.category]) ?_
  intro p9 e9 s9 m9 a9 b9 h9 c9 X
  refine v_lo [0, 1, 2] (lo' := [(0, .ref (o + pG w)), (1, .int (nI c)), (2, .int x)]) rfl ?_
  refine v_aload_n X 0 dX0_readCell_0 rfl rfl ?_
  refine v_getG X (by omega) 1 (by decide) hi_X0_readCell_X0 hl_X0_readCell_15 rfl (v := .ref (o + pA w 1)) rfl dX0_readCell_1 ?_
  refine v_iload_n X 1 dX0_readCell_4 rfl rfl ?_
  refine v_iconst (v := -1) X (by decide) dX0_readCell_5 ?_
  refine v_iastA X (w := w) (by omega) 1 (by omega) c rfl (by omega) dX0_readCell_6 ?_
  refine v_aload_n X 0 dX0_readCell_7 rfl rfl ?_
  refine v_iload_n X 1 dX0_readCell_8 rfl rfl ?_
  refine v_iconst (v := 3) X (by decide) dX0_readCell_9 ?_
  refine v_callVUf X [.int (nI c), .int 3] (pG w) (pG_lt (by omega)) (c_X0_makeEarth l G cI cZ cT o (z_up S w 1 c (-1)) w c 3 (by omega) (by omega)) (zc_G cI cZ cT o _ (by omega)) (C := RX0) (T := TX0) (N := 12) rfl 2 rfl gX0_readCell_X0_makeEarth rfl ⟨rfl, rfl⟩ hy_X0_makeEarth_V ⟨Nat.le_of_ble_eq_true rfl, Nat.le_of_ble_eq_true rfl⟩ rfl (Nat.le_of_ble_eq_true rfl) dX0_readCell_10 ?_
  refine v_st (S' := s_rc0 S w c) (rfl) ?_
  refine v_iload_n X 2 dX0_readCell_13 rfl rfl ?_
  refine v_bipush (v := 46) X (by decide) dX0_readCell_14 ?_
  refine v_icmp_ne X (tgt := 27) dX0_readCell_16 (by decide) (fun c_16 => ?_) (fun c_16 => ?_)
  ·
    refine v_iload_n X 2 dX0_readCell_27 rfl rfl ?_
    refine v_bipush (v := 35) X (by decide) dX0_readCell_28 ?_
    refine v_icmp_ne X (tgt := 43) dX0_readCell_30 (by decide) (fun c_30 => ?_) (fun c_30 => ?_)
    ·
      refine v_iload_n X 2 dX0_readCell_43 rfl rfl ?_
      refine v_bipush (v := 97) X (by decide) dX0_readCell_44 ?_
      refine v_icmp_lt X (tgt := 72) dX0_readCell_46 (by decide) (fun c_46 => ?_) (fun c_46 => ?_)
      ·
        refine v_aload_n X 0 dX0_readCell_72 rfl rfl ?_
        refine v_getG X (by omega) 0 (by decide) hi_X0_readCell_X0 hl_X0_readCell_9 rfl (v := .ref (o + pA w 0)) rfl dX0_readCell_73 ?_
        refine v_iload_n X 1 dX0_readCell_76 rfl rfl ?_
        refine v_iload_n X 2 dX0_readCell_77 rfl rfl ?_
        refine v_bipush (v := 48) X (by decide) dX0_readCell_78 ?_
        refine v_isub X dX0_readCell_80 ?_
        refine v_iastA X (w := w) (by omega) 0 (by omega) c rfl (by omega) dX0_readCell_81 ?_
        exact v_vret X dX0_readCell_82 (by simp [s_readCell, c_16, c_30, c_46])
      ·
        refine v_aload_n X 0 dX0_readCell_49 rfl rfl ?_
        refine v_getG X (by omega) 0 (by decide) hi_X0_readCell_X0 hl_X0_readCell_9 rfl (v := .ref (o + pA w 0)) rfl dX0_readCell_50 ?_
        refine v_iload_n X 1 dX0_readCell_53 rfl rfl ?_
        refine v_iload_n X 2 dX0_readCell_54 rfl rfl ?_
        refine v_bipush (v := 97) X (by decide) dX0_readCell_55 ?_
        refine v_isub X dX0_readCell_57 ?_
        refine v_iconst (v := 1) X (by decide) dX0_readCell_58 ?_
        refine v_iadd X dX0_readCell_59 ?_
        refine v_iastA X (w := w) (by omega) 0 (by omega) c rfl (by omega) dX0_readCell_60 ?_
        refine v_aload_n X 0 dX0_readCell_61 rfl rfl ?_
        refine v_getG X (by omega) 1 (by decide) hi_X0_readCell_X0 hl_X0_readCell_15 rfl (v := .ref (o + pA w 1)) rfl dX0_readCell_62 ?_
        refine v_iload_n X 1 dX0_readCell_65 rfl rfl ?_
        refine v_bipush (v := 20) X (by decide) dX0_readCell_66 ?_
        refine v_iastA X (w := w) (by omega) 1 (by omega) c rfl (by omega) dX0_readCell_68 ?_
        refine v_goto (tgt := 82) X dX0_readCell_69 (by decide) ?_
        exact v_vret X dX0_readCell_82 (by simp [s_readCell, c_16, c_30, c_46])
    ·
      refine v_aload_n X 0 dX0_readCell_33 rfl rfl ?_
      refine v_getG X (by omega) 0 (by decide) hi_X0_readCell_X0 hl_X0_readCell_9 rfl (v := .ref (o + pA w 0)) rfl dX0_readCell_34 ?_
      refine v_iload_n X 1 dX0_readCell_37 rfl rfl ?_
      refine v_iconst (v := 0) X (by decide) dX0_readCell_38 ?_
      refine v_iastA X (w := w) (by omega) 0 (by omega) c rfl (by omega) dX0_readCell_39 ?_
      refine v_goto (tgt := 82) X dX0_readCell_40 (by decide) ?_
      exact v_vret X dX0_readCell_82 (by simp [s_readCell, c_16, c_30])
  ·
    refine v_aload_n X 0 dX0_readCell_19 rfl rfl ?_
    refine v_iload_n X 1 dX0_readCell_20 rfl rfl ?_
    refine v_callVUf X [.int (nI c)] (pG w) (pG_lt (by omega)) (c_X0_openTunnel l G cI cZ cT o (s_rc0 S w c) w c (by omega) (by omega)) (zc_G cI cZ cT o _ (by omega)) (C := RX0) (T := TX0) (N := 12) rfl 1 rfl gX0_readCell_X0_openTunnel rfl ⟨rfl, rfl⟩ hy_X0_openTunnel_V ⟨Nat.le_of_ble_eq_true rfl, Nat.le_of_ble_eq_true rfl⟩ rfl (Nat.le_of_ble_eq_true rfl) dX0_readCell_21 ?_
    refine v_goto (tgt := 82) X dX0_readCell_24 (by decide) ?_
    exact v_vret X dX0_readCell_82 (by simp [s_readCell, c_16])
theorem hy_X0_readCell_V : yX0_readCell.cls = RX0 ∧ yX0_readCell.cls ≠ "java/lang/invoke/MethodHandle" ∧ yX0_readCell.cls ≠ "java/lang/invoke/VarHandle" ∧ (parseMethodDescriptor yX0_readCell.desc).map (fun d => d.parameters.length) = some 2 := by decide +kernel
set_option maxRecDepth 100000 in
set_option maxHeartbeats 4000000 in
/-- X0_readMap -/
theorem c_X0_readMap (l : Launch) (G : va_G) (cI cZ cT : ClassId) (o : Nat) (S : zS) (w : Nat) (hw : w < 2) : zU l G cI cZ cT o yX0_readMap wsX0_readMap { frames := 3, cells := 0, slots := 0, locals := 65 } [.ref (o + pG w), .ref (o + 2)] S (fun u => u = s_read S w 144) := by
  refine z_ofV (cc := cX0_readMap) (maxL := 3) (by decide) rfl (by simp [lg_sl, Value.category]) ?_
  intro p9 e9 s9 m9 a9 b9 h9 c9 X
  refine v_lo [0, 1] (lo' := [(0, .ref (o + pG w)), (1, .ref (o + 2))]) rfl ?_
  refine v_aload_n X 1 dX0_readMap_0 rfl rfl ?_
  refine v_alen (v := 200) X (2) (by decide) (zc_2 cI cZ cT o _) rfl dX0_readMap_1 ?_
  refine v_sipush (v := 156) X (by decide) dX0_readMap_2 ?_
  refine v_icmp_ge X (tgt := 9) dX0_readMap_5 (by decide) (fun _ => ?_) (fun q => absurd q (by decide))
  refine v_iconst (v := 0) X (by decide) dX0_readMap_9 ?_
  refine v_istore_n (lo' := [(2, .int 0), (0, .ref (o + pG w)), (1, .ref (o + 2))]) X dX0_readMap_10 rfl (by decide) rfl ?_
  have L_11 : ∀ (d i : Nat), i + d = 144 → z_V p9 l e9 (headSpec wsX0_readMap { frames := 3, cells := 0, slots := 0, locals := 65 }).room s9 m9 a9 b9 h9 c9 (MQ b9 (va_Qv (fun u => u = s_read S w 144) (z_B G cI cZ cT o) (z_A o s9.heap.size)) a9 s9 0 0 (z_A o s9.heap.size)) G cI cZ cT o 3 (s_read S w i) 11 [(0, .ref (o + pG w)), (1, .ref (o + 2)), (2, .int (nI i))] [] := by
    intro d
    induction d with
    | zero =>
      intro i hi_11
      have he_11 : i = 144 := by omega
      rw [he_11]
      refine v_iload_n X 2 dX0_readMap_11 rfl rfl ?_
      refine v_sipush (v := 144) X (by decide) dX0_readMap_12 ?_
      refine v_ncmp_ge X 144 144 rfl rfl (by omega) (by omega) (tgt := 43) dX0_readMap_15 (by decide) (fun c_15 => ?_) (fun c_15 => ?_)
      ·
        exact v_vret X dX0_readMap_43 (by rfl)
      ·
        exact absurd c_15 (by omega)
    | succ d ih_11 =>
      intro i hi_11
      refine v_iload_n X 2 dX0_readMap_11 rfl rfl ?_
      refine v_sipush (v := 144) X (by decide) dX0_readMap_12 ?_
      refine v_ncmp_ge X i 144 rfl rfl (by omega) (by omega) (tgt := 43) dX0_readMap_15 (by decide) (fun c_15 => ?_) (fun c_15 => ?_)
      ·
        exact absurd c_15 (by omega)
      ·
        refine v_aload_n X 0 dX0_readMap_18 rfl rfl ?_
        refine v_iload_n X 2 dX0_readMap_19 rfl rfl ?_
        refine v_aload_n X 1 dX0_readMap_20 rfl rfl ?_
        refine v_bipush (v := 13) X (by decide) dX0_readMap_21 ?_
        refine v_iload_n X 2 dX0_readMap_23 rfl rfl ?_
        refine v_bipush (v := 12) X (by decide) dX0_readMap_24 ?_
        refine v_idiv X (by decide) dX0_readMap_26 ?_
        refine v_top (y := nI (i / 12)) (pk_div (a := i) (d := 12) (by omega) (by omega) (by omega)) ?_
        refine v_imul X dX0_readMap_27 ?_
        refine v_top (y := nI (13 * (i / 12))) (pk_mul 13 (i / 12)) ?_
        refine v_iload_n X 2 dX0_readMap_28 rfl rfl ?_
        refine v_bipush (v := 12) X (by decide) dX0_readMap_29 ?_
        refine v_irem X (by decide) dX0_readMap_31 ?_
        refine v_top (y := nI (i % 12)) (pk_rem (a := i) (d := 12) (by omega) (by omega) (by omega)) ?_
        refine v_iadd X dX0_readMap_32 ?_
        refine v_top (y := nI ((13 * (i / 12)) + (i % 12))) (nI_add (13 * (i / 12)) (i % 12)) ?_
        refine v_ald X 2 (by decide) (zc_2 cI cZ cT o _) ((13 * (i / 12)) + (i % 12)) rfl (by omega) (by decide) dX0_readMap_33 ?_
        refine v_callVUf X [.int (nI i), .int ((s_read S w i) 2 0 ((13 * (i / 12)) + (i % 12)))] (pG w) (pG_lt (by omega)) (c_X0_readCell l G cI cZ cT o (s_read S w i) w i ((s_read S w i) 2 0 ((13 * (i / 12)) + (i % 12))) (by omega) (by omega)) (zc_G cI cZ cT o _ (by omega)) (C := RX0) (T := TX0) (N := 12) rfl 2 rfl gX0_readMap_X0_readCell rfl ⟨rfl, rfl⟩ hy_X0_readCell_V ⟨Nat.le_of_ble_eq_true rfl, Nat.le_of_ble_eq_true rfl⟩ rfl (Nat.le_of_ble_eq_true rfl) dX0_readMap_34 ?_
        refine v_iinc (v := nI (i + 1)) (lo' := [(2, .int (nI (i + 1))), (0, .ref (o + pG w)), (1, .ref (o + 2))]) X 2 dX0_readMap_37 rfl (nI_1 i) (by decide) rfl ?_
        refine v_goto (tgt := 11) X dX0_readMap_40 (by decide) ?_
        refine v_lo [1, 2, 0] (lo' := [(0, .ref (o + pG w)), (1, .ref (o + 2)), (2, .int (nI (i + 1)))]) rfl ?_
        refine v_eq (S' := s_read S w (i + 1)) (lo' := [(0, .ref (o + pG w)), (1, .ref (o + 2)), (2, .int (nI (i + 1)))]) (by rfl) (by rfl) ?_
        exact ih_11 (i + 1) (by omega)
  refine v_lo [1, 2, 0] (lo' := [(0, .ref (o + pG w)), (1, .ref (o + 2)), (2, .int 0)]) rfl ?_
  refine v_eq (S' := s_read S w 0) (lo' := [(0, .ref (o + pG w)), (1, .ref (o + 2)), (2, .int (nI 0))]) (by rfl) (by rfl) ?_
  exact L_11 (144) 0 (by omega)
theorem hi_X0_copyFrom_X0 : ∀ w ∈ wsX00, w ∈ wsX0_copyFrom := by decide +kernel
theorem hl_X0_copyFrom_9 : Cond.fieldLink RX0 9 RX0 (TX0 0).2.1 (TX0 0).2.2.1 ∈ wsX0_copyFrom := by decide +kernel
theorem hw_X0_copyFrom_55l : Cond.methodLink RX0 55 arraycopyName ∈ wsX0_copyFrom := by decide +kernel
theorem hw_X0_copyFrom_acn : Cond.native arraycopyName ∈ wsX0_copyFrom := by decide +kernel
theorem hw_X0_copyFrom_acs : Cond.static arraycopyName ∈ wsX0_copyFrom := by decide +kernel
theorem hw_X0_copyFrom_aci : Cond.initialized "java/lang/System" ∈ wsX0_copyFrom := by decide +kernel
theorem hl_X0_copyFrom_15 : Cond.fieldLink RX0 15 RX0 (TX0 1).2.1 (TX0 1).2.2.1 ∈ wsX0_copyFrom := by decide +kernel
theorem hl_X0_copyFrom_18 : Cond.fieldLink RX0 18 RX0 (TX0 2).2.1 (TX0 2).2.2.1 ∈ wsX0_copyFrom := by decide +kernel
theorem hl_X0_copyFrom_21 : Cond.fieldLink RX0 21 RX0 (TX0 3).2.1 (TX0 3).2.2.1 ∈ wsX0_copyFrom := by decide +kernel
theorem hl_X0_copyFrom_24 : Cond.fieldLink RX0 24 RX0 (TX0 4).2.1 (TX0 4).2.2.1 ∈ wsX0_copyFrom := by decide +kernel
theorem hl_X0_copyFrom_27 : Cond.fieldLink RX0 27 RX0 (TX0 5).2.1 (TX0 5).2.2.1 ∈ wsX0_copyFrom := by decide +kernel
theorem hl_X0_copyFrom_30 : Cond.fieldLink RX0 30 RX0 (TX0 6).2.1 (TX0 6).2.2.1 ∈ wsX0_copyFrom := by decide +kernel
theorem hl_X0_copyFrom_33 : Cond.fieldLink RX0 33 RX0 (TX0 7).2.1 (TX0 7).2.2.1 ∈ wsX0_copyFrom := by decide +kernel
theorem hl_X0_copyFrom_42 : Cond.fieldLink RX0 42 RX0 (TX0 10).2.1 (TX0 10).2.2.1 ∈ wsX0_copyFrom := by decide +kernel
theorem hl_X0_copyFrom_46 : Cond.fieldLink RX0 46 RX0 (TX0 11).2.1 (TX0 11).2.2.1 ∈ wsX0_copyFrom := by decide +kernel
set_option maxRecDepth 100000 in
set_option maxHeartbeats 4000000 in
/-- X0_copyFrom -/
theorem c_X0_copyFrom (l : Launch) (G : va_G) (cI cZ cT : ClassId) (o : Nat) (S : zS)  : zU l G cI cZ cT o yX0_copyFrom wsX0_copyFrom { frames := 1, cells := 0, slots := 0, locals := 60 } [.ref (o + pG 1), .ref (o + pG 0)] S (fun u => u = s_gcopy S) := by
  refine z_ofV (cc := cX0_copyFrom) (maxL := 2) (by decide) rfl (by simp [lg_sl, Value.category]) ?_
  intro p9 e9 s9 m9 a9 b9 h9 c9 X
  refine v_lo [0, 1] (lo' := [(0, .ref (o + pG 1)), (1, .ref (o + pG 0))]) rfl ?_
  refine v_aload_n X 1 dX0_copyFrom_0 rfl rfl ?_
  refine v_getG X (by omega) 0 (by decide) hi_X0_copyFrom_X0 hl_X0_copyFrom_9 rfl (v := .ref (o + pA 0 0)) rfl dX0_copyFrom_1 ?_
  refine v_iconst (v := 0) X (by decide) dX0_copyFrom_4 ?_
  refine v_aload_n X 0 dX0_copyFrom_5 rfl rfl ?_
  refine v_getG X (by omega) 0 (by decide) hi_X0_copyFrom_X0 hl_X0_copyFrom_9 rfl (v := .ref (o + pA 1 0)) rfl dX0_copyFrom_6 ?_
  refine v_iconst (v := 0) X (by decide) dX0_copyFrom_9 ?_
  refine v_sipush (v := 144) X (by decide) dX0_copyFrom_10 ?_
  refine v_copy X (pA 0 0) (pA 1 0) (pA_lt (by omega) (by omega)) (pA_lt (by omega) (by omega)) (n := 144) rfl (by decide) (zc_A cI cZ cT o _ (by omega) (by omega)) (zc_A cI cZ cT o _ (by omega) (by omega)) hw_X0_copyFrom_55l hw_X0_copyFrom_acn hw_X0_copyFrom_acs hw_X0_copyFrom_aci (S' := z_cpA S 1 0 0 0) (zs_pA cI cZ cT o _ (by omega) (by omega) _) (Nat.le_of_ble_eq_true rfl) (Nat.le_of_ble_eq_true rfl) dX0_copyFrom_13 ?_
  refine v_aload_n X 1 dX0_copyFrom_16 rfl rfl ?_
  refine v_getG X (by omega) 1 (by decide) hi_X0_copyFrom_X0 hl_X0_copyFrom_15 rfl (v := .ref (o + pA 0 1)) rfl dX0_copyFrom_17 ?_
  refine v_iconst (v := 0) X (by decide) dX0_copyFrom_20 ?_
  refine v_aload_n X 0 dX0_copyFrom_21 rfl rfl ?_
  refine v_getG X (by omega) 1 (by decide) hi_X0_copyFrom_X0 hl_X0_copyFrom_15 rfl (v := .ref (o + pA 1 1)) rfl dX0_copyFrom_22 ?_
  refine v_iconst (v := 0) X (by decide) dX0_copyFrom_25 ?_
  refine v_sipush (v := 144) X (by decide) dX0_copyFrom_26 ?_
  refine v_copy X (pA 0 1) (pA 1 1) (pA_lt (by omega) (by omega)) (pA_lt (by omega) (by omega)) (n := 144) rfl (by decide) (zc_A cI cZ cT o _ (by omega) (by omega)) (zc_A cI cZ cT o _ (by omega) (by omega)) hw_X0_copyFrom_55l hw_X0_copyFrom_acn hw_X0_copyFrom_acs hw_X0_copyFrom_aci (S' := z_cpA (z_cpA S 1 0 0 0) 1 1 0 1) (zs_pA cI cZ cT o _ (by omega) (by omega) _) (Nat.le_of_ble_eq_true rfl) (Nat.le_of_ble_eq_true rfl) dX0_copyFrom_29 ?_
  refine v_aload_n X 1 dX0_copyFrom_32 rfl rfl ?_
  refine v_getG X (by omega) 2 (by decide) hi_X0_copyFrom_X0 hl_X0_copyFrom_18 rfl (v := .ref (o + pA 0 2)) rfl dX0_copyFrom_33 ?_
  refine v_iconst (v := 0) X (by decide) dX0_copyFrom_36 ?_
  refine v_aload_n X 0 dX0_copyFrom_37 rfl rfl ?_
  refine v_getG X (by omega) 2 (by decide) hi_X0_copyFrom_X0 hl_X0_copyFrom_18 rfl (v := .ref (o + pA 1 2)) rfl dX0_copyFrom_38 ?_
  refine v_iconst (v := 0) X (by decide) dX0_copyFrom_41 ?_
  refine v_sipush (v := 144) X (by decide) dX0_copyFrom_42 ?_
  refine v_copy X (pA 0 2) (pA 1 2) (pA_lt (by omega) (by omega)) (pA_lt (by omega) (by omega)) (n := 144) rfl (by decide) (zc_A cI cZ cT o _ (by omega) (by omega)) (zc_A cI cZ cT o _ (by omega) (by omega)) hw_X0_copyFrom_55l hw_X0_copyFrom_acn hw_X0_copyFrom_acs hw_X0_copyFrom_aci (S' := z_cpA (z_cpA (z_cpA S 1 0 0 0) 1 1 0 1) 1 2 0 2) (zs_pA cI cZ cT o _ (by omega) (by omega) _) (Nat.le_of_ble_eq_true rfl) (Nat.le_of_ble_eq_true rfl) dX0_copyFrom_45 ?_
  refine v_aload_n X 1 dX0_copyFrom_48 rfl rfl ?_
  refine v_getG X (by omega) 3 (by decide) hi_X0_copyFrom_X0 hl_X0_copyFrom_21 rfl (v := .ref (o + pA 0 3)) rfl dX0_copyFrom_49 ?_
  refine v_iconst (v := 0) X (by decide) dX0_copyFrom_52 ?_
  refine v_aload_n X 0 dX0_copyFrom_53 rfl rfl ?_
  refine v_getG X (by omega) 3 (by decide) hi_X0_copyFrom_X0 hl_X0_copyFrom_21 rfl (v := .ref (o + pA 1 3)) rfl dX0_copyFrom_54 ?_
  refine v_iconst (v := 0) X (by decide) dX0_copyFrom_57 ?_
  refine v_sipush (v := 144) X (by decide) dX0_copyFrom_58 ?_
  refine v_copy X (pA 0 3) (pA 1 3) (pA_lt (by omega) (by omega)) (pA_lt (by omega) (by omega)) (n := 144) rfl (by decide) (zc_A cI cZ cT o _ (by omega) (by omega)) (zc_A cI cZ cT o _ (by omega) (by omega)) hw_X0_copyFrom_55l hw_X0_copyFrom_acn hw_X0_copyFrom_acs hw_X0_copyFrom_aci (S' := z_cpA (z_cpA (z_cpA (z_cpA S 1 0 0 0) 1 1 0 1) 1 2 0 2) 1 3 0 3) (zs_pA cI cZ cT o _ (by omega) (by omega) _) (Nat.le_of_ble_eq_true rfl) (Nat.le_of_ble_eq_true rfl) dX0_copyFrom_61 ?_
  refine v_aload_n X 1 dX0_copyFrom_64 rfl rfl ?_
  refine v_getG X (by omega) 4 (by decide) hi_X0_copyFrom_X0 hl_X0_copyFrom_24 rfl (v := .ref (o + pA 0 4)) rfl dX0_copyFrom_65 ?_
  refine v_iconst (v := 0) X (by decide) dX0_copyFrom_68 ?_
  refine v_aload_n X 0 dX0_copyFrom_69 rfl rfl ?_
  refine v_getG X (by omega) 4 (by decide) hi_X0_copyFrom_X0 hl_X0_copyFrom_24 rfl (v := .ref (o + pA 1 4)) rfl dX0_copyFrom_70 ?_
  refine v_iconst (v := 0) X (by decide) dX0_copyFrom_73 ?_
  refine v_sipush (v := 144) X (by decide) dX0_copyFrom_74 ?_
  refine v_copy X (pA 0 4) (pA 1 4) (pA_lt (by omega) (by omega)) (pA_lt (by omega) (by omega)) (n := 144) rfl (by decide) (zc_A cI cZ cT o _ (by omega) (by omega)) (zc_A cI cZ cT o _ (by omega) (by omega)) hw_X0_copyFrom_55l hw_X0_copyFrom_acn hw_X0_copyFrom_acs hw_X0_copyFrom_aci (S' := z_cpA (z_cpA (z_cpA (z_cpA (z_cpA S 1 0 0 0) 1 1 0 1) 1 2 0 2) 1 3 0 3) 1 4 0 4) (zs_pA cI cZ cT o _ (by omega) (by omega) _) (Nat.le_of_ble_eq_true rfl) (Nat.le_of_ble_eq_true rfl) dX0_copyFrom_77 ?_
  refine v_aload_n X 1 dX0_copyFrom_80 rfl rfl ?_
  refine v_getG X (by omega) 5 (by decide) hi_X0_copyFrom_X0 hl_X0_copyFrom_27 rfl (v := .ref (o + pA 0 5)) rfl dX0_copyFrom_81 ?_
  refine v_iconst (v := 0) X (by decide) dX0_copyFrom_84 ?_
  refine v_aload_n X 0 dX0_copyFrom_85 rfl rfl ?_
  refine v_getG X (by omega) 5 (by decide) hi_X0_copyFrom_X0 hl_X0_copyFrom_27 rfl (v := .ref (o + pA 1 5)) rfl dX0_copyFrom_86 ?_
  refine v_iconst (v := 0) X (by decide) dX0_copyFrom_89 ?_
  refine v_sipush (v := 144) X (by decide) dX0_copyFrom_90 ?_
  refine v_copy X (pA 0 5) (pA 1 5) (pA_lt (by omega) (by omega)) (pA_lt (by omega) (by omega)) (n := 144) rfl (by decide) (zc_A cI cZ cT o _ (by omega) (by omega)) (zc_A cI cZ cT o _ (by omega) (by omega)) hw_X0_copyFrom_55l hw_X0_copyFrom_acn hw_X0_copyFrom_acs hw_X0_copyFrom_aci (S' := z_cpA (z_cpA (z_cpA (z_cpA (z_cpA (z_cpA S 1 0 0 0) 1 1 0 1) 1 2 0 2) 1 3 0 3) 1 4 0 4) 1 5 0 5) (zs_pA cI cZ cT o _ (by omega) (by omega) _) (Nat.le_of_ble_eq_true rfl) (Nat.le_of_ble_eq_true rfl) dX0_copyFrom_93 ?_
  refine v_aload_n X 1 dX0_copyFrom_96 rfl rfl ?_
  refine v_getG X (by omega) 6 (by decide) hi_X0_copyFrom_X0 hl_X0_copyFrom_30 rfl (v := .ref (o + pA 0 6)) rfl dX0_copyFrom_97 ?_
  refine v_iconst (v := 0) X (by decide) dX0_copyFrom_100 ?_
  refine v_aload_n X 0 dX0_copyFrom_101 rfl rfl ?_
  refine v_getG X (by omega) 6 (by decide) hi_X0_copyFrom_X0 hl_X0_copyFrom_30 rfl (v := .ref (o + pA 1 6)) rfl dX0_copyFrom_102 ?_
  refine v_iconst (v := 0) X (by decide) dX0_copyFrom_105 ?_
  refine v_sipush (v := 144) X (by decide) dX0_copyFrom_106 ?_
  refine v_copy X (pA 0 6) (pA 1 6) (pA_lt (by omega) (by omega)) (pA_lt (by omega) (by omega)) (n := 144) rfl (by decide) (zc_A cI cZ cT o _ (by omega) (by omega)) (zc_A cI cZ cT o _ (by omega) (by omega)) hw_X0_copyFrom_55l hw_X0_copyFrom_acn hw_X0_copyFrom_acs hw_X0_copyFrom_aci (S' := z_cpA (z_cpA (z_cpA (z_cpA (z_cpA (z_cpA (z_cpA S 1 0 0 0) 1 1 0 1) 1 2 0 2) 1 3 0 3) 1 4 0 4) 1 5 0 5) 1 6 0 6) (zs_pA cI cZ cT o _ (by omega) (by omega) _) (Nat.le_of_ble_eq_true rfl) (Nat.le_of_ble_eq_true rfl) dX0_copyFrom_109 ?_
  refine v_aload_n X 1 dX0_copyFrom_112 rfl rfl ?_
  refine v_getG X (by omega) 7 (by decide) hi_X0_copyFrom_X0 hl_X0_copyFrom_33 rfl (v := .ref (o + pA 0 7)) rfl dX0_copyFrom_113 ?_
  refine v_iconst (v := 0) X (by decide) dX0_copyFrom_116 ?_
  refine v_aload_n X 0 dX0_copyFrom_117 rfl rfl ?_
  refine v_getG X (by omega) 7 (by decide) hi_X0_copyFrom_X0 hl_X0_copyFrom_33 rfl (v := .ref (o + pA 1 7)) rfl dX0_copyFrom_118 ?_
  refine v_iconst (v := 0) X (by decide) dX0_copyFrom_121 ?_
  refine v_sipush (v := 144) X (by decide) dX0_copyFrom_122 ?_
  refine v_copy X (pA 0 7) (pA 1 7) (pA_lt (by omega) (by omega)) (pA_lt (by omega) (by omega)) (n := 144) rfl (by decide) (zc_A cI cZ cT o _ (by omega) (by omega)) (zc_A cI cZ cT o _ (by omega) (by omega)) hw_X0_copyFrom_55l hw_X0_copyFrom_acn hw_X0_copyFrom_acs hw_X0_copyFrom_aci (S' := z_cpA (z_cpA (z_cpA (z_cpA (z_cpA (z_cpA (z_cpA (z_cpA S 1 0 0 0) 1 1 0 1) 1 2 0 2) 1 3 0 3) 1 4 0 4) 1 5 0 5) 1 6 0 6) 1 7 0 7) (zs_pA cI cZ cT o _ (by omega) (by omega) _) (Nat.le_of_ble_eq_true rfl) (Nat.le_of_ble_eq_true rfl) dX0_copyFrom_125 ?_
  refine v_st (S' := s_gcp S) (rfl) ?_
  refine v_aload_n X 0 dX0_copyFrom_128 rfl rfl ?_
  refine v_aload_n X 1 dX0_copyFrom_129 rfl rfl ?_
  refine v_getG X (by omega) 10 (by decide) hi_X0_copyFrom_X0 hl_X0_copyFrom_42 rfl (v := .int ((s_gcp S) 0 10 0)) rfl dX0_copyFrom_130 ?_
  refine v_putG10 X (by omega) hi_X0_copyFrom_X0 hl_X0_copyFrom_42 dX0_copyFrom_133 ?_
  refine v_aload_n X 0 dX0_copyFrom_136 rfl rfl ?_
  refine v_aload_n X 1 dX0_copyFrom_137 rfl rfl ?_
  refine v_getG X (by omega) 11 (by decide) hi_X0_copyFrom_X0 hl_X0_copyFrom_46 rfl (v := .int ((z_up (s_gcp S) 1 10 0 ((s_gcp S) 0 10 0)) 0 11 0)) rfl dX0_copyFrom_138 ?_
  refine v_top (y := (s_gcp S) 0 11 0) (z_up_ne _ _ (by omega)) ?_
  refine v_putG11 X (by omega) hi_X0_copyFrom_X0 hl_X0_copyFrom_46 dX0_copyFrom_141 ?_
  exact v_vret X dX0_copyFrom_144 (by rfl)
theorem hi_X3_copyFrom_X3 : ∀ w ∈ wsX30, w ∈ wsX3_copyFrom := by decide +kernel
theorem hl_X3_copyFrom_9 : Cond.fieldLink RX3 9 RX3 (TX3 0).2.1 (TX3 0).2.2.1 ∈ wsX3_copyFrom := by decide +kernel
theorem hl_X3_copyFrom_15 : Cond.fieldLink RX3 15 RX3 (TX3 1).2.1 (TX3 1).2.2.1 ∈ wsX3_copyFrom := by decide +kernel
theorem hl_X3_copyFrom_18 : Cond.fieldLink RX3 18 RX3 (TX3 2).2.1 (TX3 2).2.2.1 ∈ wsX3_copyFrom := by decide +kernel
theorem hl_X3_copyFrom_21 : Cond.fieldLink RX3 21 RX3 (TX3 3).2.1 (TX3 3).2.2.1 ∈ wsX3_copyFrom := by decide +kernel
theorem hl_X3_copyFrom_24 : Cond.fieldLink RX3 24 RX3 (TX3 4).2.1 (TX3 4).2.2.1 ∈ wsX3_copyFrom := by decide +kernel
theorem hl_X3_copyFrom_27 : Cond.fieldLink RX3 27 RX3 (TX3 5).2.1 (TX3 5).2.2.1 ∈ wsX3_copyFrom := by decide +kernel
theorem hl_X3_copyFrom_30 : Cond.fieldLink RX3 30 RX3 (TX3 6).2.1 (TX3 6).2.2.1 ∈ wsX3_copyFrom := by decide +kernel
theorem hl_X3_copyFrom_33 : Cond.fieldLink RX3 33 RX3 (TX3 7).2.1 (TX3 7).2.2.1 ∈ wsX3_copyFrom := by decide +kernel
theorem hl_X3_copyFrom_37 : Cond.fieldLink RX3 37 RX3 (TX3 8).2.1 (TX3 8).2.2.1 ∈ wsX3_copyFrom := by decide +kernel
theorem hl_X3_copyFrom_40 : Cond.fieldLink RX3 40 RX3 (TX3 9).2.1 (TX3 9).2.2.1 ∈ wsX3_copyFrom := by decide +kernel
theorem hl_X3_copyFrom_43 : Cond.fieldLink RX3 43 RX3 (TX3 10).2.1 (TX3 10).2.2.1 ∈ wsX3_copyFrom := by decide +kernel
theorem hl_X3_copyFrom_46 : Cond.fieldLink RX3 46 RX3 (TX3 11).2.1 (TX3 11).2.2.1 ∈ wsX3_copyFrom := by decide +kernel
theorem hl_X3_copyFrom_49 : Cond.fieldLink RX3 49 RX3 (TX3 12).2.1 (TX3 12).2.2.1 ∈ wsX3_copyFrom := by decide +kernel
theorem hl_X3_copyFrom_52 : Cond.fieldLink RX3 52 RX3 (TX3 13).2.1 (TX3 13).2.2.1 ∈ wsX3_copyFrom := by decide +kernel
theorem hw_X3_copyFrom_65l : Cond.methodLink RX3 65 arraycopyName ∈ wsX3_copyFrom := by decide +kernel
theorem hw_X3_copyFrom_acn : Cond.native arraycopyName ∈ wsX3_copyFrom := by decide +kernel
theorem hw_X3_copyFrom_acs : Cond.static arraycopyName ∈ wsX3_copyFrom := by decide +kernel
theorem hw_X3_copyFrom_aci : Cond.initialized "java/lang/System" ∈ wsX3_copyFrom := by decide +kernel
theorem hl_X3_copyFrom_56 : Cond.fieldLink RX3 56 RX3 (TX3 14).2.1 (TX3 14).2.2.1 ∈ wsX3_copyFrom := by decide +kernel
theorem hl_X3_copyFrom_59 : Cond.fieldLink RX3 59 RX3 (TX3 15).2.1 (TX3 15).2.2.1 ∈ wsX3_copyFrom := by decide +kernel
set_option maxRecDepth 100000 in
set_option maxHeartbeats 4000000 in
/-- X3_copyFrom -/
theorem c_X3_copyFrom (l : Launch) (G : va_G) (cI cZ cT : ClassId) (o : Nat) (S : zS) (t : Nat) (ht : t < 8) (h1 : S 0 21 t = 0 ∨ S 0 21 t = 1) (h2 : S 0 22 t = 0 ∨ S 0 22 t = 1) : zU l G cI cZ cT o yX3_copyFrom wsX3_copyFrom { frames := 1, cells := 0, slots := 0, locals := 60 } [.ref (o + pT 1 t), .ref (o + pT 0 t)] S (fun u => u = s_tcopy S t) := by
  refine z_ofV (cc := cX3_copyFrom) (maxL := 2) (by decide) rfl (by simp [lg_sl, Value.category]) ?_
  intro p9 e9 s9 m9 a9 b9 h9 c9 X
  refine v_lo [0, 1] (lo' := [(0, .ref (o + pT 1 t)), (1, .ref (o + pT 0 t))]) rfl ?_
  refine v_aload_n X 0 dX3_copyFrom_0 rfl rfl ?_
  refine v_aload_n X 1 dX3_copyFrom_1 rfl rfl ?_
  refine v_getT X (by omega) (by omega) 0 (by decide) hi_X3_copyFrom_X3 hl_X3_copyFrom_9 rfl (v := .int (S 0 14 t)) rfl dX3_copyFrom_2 ?_
  refine v_putT0 X (by omega) (by omega) hi_X3_copyFrom_X3 hl_X3_copyFrom_9 dX3_copyFrom_5 ?_
  refine v_aload_n X 0 dX3_copyFrom_8 rfl rfl ?_
  refine v_aload_n X 1 dX3_copyFrom_9 rfl rfl ?_
  refine v_getT X (by omega) (by omega) 1 (by decide) hi_X3_copyFrom_X3 hl_X3_copyFrom_15 rfl (v := .int ((z_up S 1 14 t (S 0 14 t)) 0 15 t)) rfl dX3_copyFrom_10 ?_
  refine v_top (y := S 0 15 t) (z_up_ne _ _ (by omega)) ?_
  refine v_putT1 X (by omega) (by omega) hi_X3_copyFrom_X3 hl_X3_copyFrom_15 dX3_copyFrom_13 ?_
  refine v_aload_n X 0 dX3_copyFrom_16 rfl rfl ?_
  refine v_aload_n X 1 dX3_copyFrom_17 rfl rfl ?_
  refine v_getT X (by omega) (by omega) 2 (by decide) hi_X3_copyFrom_X3 hl_X3_copyFrom_18 rfl (v := .int ((z_up (z_up S 1 14 t (S 0 14 t)) 1 15 t (S 0 15 t)) 0 16 t)) rfl dX3_copyFrom_18 ?_
  refine v_top (y := S 0 16 t) ((z_up_ne _ _ (by omega)).trans (z_up_ne _ _ (by omega))) ?_
  refine v_putT2 X (by omega) (by omega) hi_X3_copyFrom_X3 hl_X3_copyFrom_18 dX3_copyFrom_21 ?_
  refine v_aload_n X 0 dX3_copyFrom_24 rfl rfl ?_
  refine v_aload_n X 1 dX3_copyFrom_25 rfl rfl ?_
  refine v_getT X (by omega) (by omega) 3 (by decide) hi_X3_copyFrom_X3 hl_X3_copyFrom_21 rfl (v := .int ((z_up (z_up (z_up S 1 14 t (S 0 14 t)) 1 15 t (S 0 15 t)) 1 16 t (S 0 16 t)) 0 17 t)) rfl dX3_copyFrom_26 ?_
  refine v_top (y := S 0 17 t) (((z_up_ne _ _ (by omega)).trans (z_up_ne _ _ (by omega))).trans (z_up_ne _ _ (by omega))) ?_
  refine v_putT3 X (by omega) (by omega) hi_X3_copyFrom_X3 hl_X3_copyFrom_21 dX3_copyFrom_29 ?_
  refine v_aload_n X 0 dX3_copyFrom_32 rfl rfl ?_
  refine v_aload_n X 1 dX3_copyFrom_33 rfl rfl ?_
  refine v_getT X (by omega) (by omega) 4 (by decide) hi_X3_copyFrom_X3 hl_X3_copyFrom_24 rfl (v := .int ((z_up (z_up (z_up (z_up S 1 14 t (S 0 14 t)) 1 15 t (S 0 15 t)) 1 16 t (S 0 16 t)) 1 17 t (S 0 17 t)) 0 18 t)) rfl dX3_copyFrom_34 ?_
  refine v_top (y := S 0 18 t) ((((z_up_ne _ _ (by omega)).trans (z_up_ne _ _ (by omega))).trans (z_up_ne _ _ (by omega))).trans (z_up_ne _ _ (by omega))) ?_
  refine v_putT4 X (by omega) (by omega) hi_X3_copyFrom_X3 hl_X3_copyFrom_24 dX3_copyFrom_37 ?_
  refine v_aload_n X 0 dX3_copyFrom_40 rfl rfl ?_
  refine v_aload_n X 1 dX3_copyFrom_41 rfl rfl ?_
  refine v_getT X (by omega) (by omega) 5 (by decide) hi_X3_copyFrom_X3 hl_X3_copyFrom_27 rfl (v := .int ((z_up (z_up (z_up (z_up (z_up S 1 14 t (S 0 14 t)) 1 15 t (S 0 15 t)) 1 16 t (S 0 16 t)) 1 17 t (S 0 17 t)) 1 18 t (S 0 18 t)) 0 19 t)) rfl dX3_copyFrom_42 ?_
  refine v_top (y := S 0 19 t) (((((z_up_ne _ _ (by omega)).trans (z_up_ne _ _ (by omega))).trans (z_up_ne _ _ (by omega))).trans (z_up_ne _ _ (by omega))).trans (z_up_ne _ _ (by omega))) ?_
  refine v_putT5 X (by omega) (by omega) hi_X3_copyFrom_X3 hl_X3_copyFrom_27 dX3_copyFrom_45 ?_
  refine v_aload_n X 0 dX3_copyFrom_48 rfl rfl ?_
  refine v_aload_n X 1 dX3_copyFrom_49 rfl rfl ?_
  refine v_getT X (by omega) (by omega) 6 (by decide) hi_X3_copyFrom_X3 hl_X3_copyFrom_30 rfl (v := .int ((z_up (z_up (z_up (z_up (z_up (z_up S 1 14 t (S 0 14 t)) 1 15 t (S 0 15 t)) 1 16 t (S 0 16 t)) 1 17 t (S 0 17 t)) 1 18 t (S 0 18 t)) 1 19 t (S 0 19 t)) 0 20 t)) rfl dX3_copyFrom_50 ?_
  refine v_top (y := S 0 20 t) ((((((z_up_ne _ _ (by omega)).trans (z_up_ne _ _ (by omega))).trans (z_up_ne _ _ (by omega))).trans (z_up_ne _ _ (by omega))).trans (z_up_ne _ _ (by omega))).trans (z_up_ne _ _ (by omega))) ?_
  refine v_putT6 X (by omega) (by omega) hi_X3_copyFrom_X3 hl_X3_copyFrom_30 dX3_copyFrom_53 ?_
  refine v_aload_n X 0 dX3_copyFrom_56 rfl rfl ?_
  refine v_aload_n X 1 dX3_copyFrom_57 rfl rfl ?_
  refine v_getT X (by omega) (by omega) 7 (by decide) hi_X3_copyFrom_X3 hl_X3_copyFrom_33 rfl (v := .int ((z_up (z_up (z_up (z_up (z_up (z_up (z_up S 1 14 t (S 0 14 t)) 1 15 t (S 0 15 t)) 1 16 t (S 0 16 t)) 1 17 t (S 0 17 t)) 1 18 t (S 0 18 t)) 1 19 t (S 0 19 t)) 1 20 t (S 0 20 t)) 0 21 t)) rfl dX3_copyFrom_58 ?_
  refine v_top (y := S 0 21 t) (((((((z_up_ne _ _ (by omega)).trans (z_up_ne _ _ (by omega))).trans (z_up_ne _ _ (by omega))).trans (z_up_ne _ _ (by omega))).trans (z_up_ne _ _ (by omega))).trans (z_up_ne _ _ (by omega))).trans (z_up_ne _ _ (by omega))) ?_
  refine v_putT7 X (by omega) (by omega) (by rcases h1 with q | q <;> rw [q] <;> rfl) (by rcases h1 with q | q <;> rw [q] <;> rfl) hi_X3_copyFrom_X3 hl_X3_copyFrom_33 dX3_copyFrom_61 ?_
  refine v_aload_n X 0 dX3_copyFrom_64 rfl rfl ?_
  refine v_aload_n X 1 dX3_copyFrom_65 rfl rfl ?_
  refine v_getT X (by omega) (by omega) 8 (by decide) hi_X3_copyFrom_X3 hl_X3_copyFrom_37 rfl (v := .int ((z_up (z_up (z_up (z_up (z_up (z_up (z_up (z_up S 1 14 t (S 0 14 t)) 1 15 t (S 0 15 t)) 1 16 t (S 0 16 t)) 1 17 t (S 0 17 t)) 1 18 t (S 0 18 t)) 1 19 t (S 0 19 t)) 1 20 t (S 0 20 t)) 1 21 t (S 0 21 t)) 0 22 t)) rfl dX3_copyFrom_66 ?_
  refine v_top (y := S 0 22 t) ((((((((z_up_ne _ _ (by omega)).trans (z_up_ne _ _ (by omega))).trans (z_up_ne _ _ (by omega))).trans (z_up_ne _ _ (by omega))).trans (z_up_ne _ _ (by omega))).trans (z_up_ne _ _ (by omega))).trans (z_up_ne _ _ (by omega))).trans (z_up_ne _ _ (by omega))) ?_
  refine v_putT8 X (by omega) (by omega) (by rcases h2 with q | q <;> rw [q] <;> rfl) (by rcases h2 with q | q <;> rw [q] <;> rfl) hi_X3_copyFrom_X3 hl_X3_copyFrom_37 dX3_copyFrom_69 ?_
  refine v_aload_n X 0 dX3_copyFrom_72 rfl rfl ?_
  refine v_aload_n X 1 dX3_copyFrom_73 rfl rfl ?_
  refine v_getT X (by omega) (by omega) 9 (by decide) hi_X3_copyFrom_X3 hl_X3_copyFrom_40 rfl (v := .int ((z_up (z_up (z_up (z_up (z_up (z_up (z_up (z_up (z_up S 1 14 t (S 0 14 t)) 1 15 t (S 0 15 t)) 1 16 t (S 0 16 t)) 1 17 t (S 0 17 t)) 1 18 t (S 0 18 t)) 1 19 t (S 0 19 t)) 1 20 t (S 0 20 t)) 1 21 t (S 0 21 t)) 1 22 t (S 0 22 t)) 0 23 t)) rfl dX3_copyFrom_74 ?_
  refine v_top (y := S 0 23 t) (((((((((z_up_ne _ _ (by omega)).trans (z_up_ne _ _ (by omega))).trans (z_up_ne _ _ (by omega))).trans (z_up_ne _ _ (by omega))).trans (z_up_ne _ _ (by omega))).trans (z_up_ne _ _ (by omega))).trans (z_up_ne _ _ (by omega))).trans (z_up_ne _ _ (by omega))).trans (z_up_ne _ _ (by omega))) ?_
  refine v_putT9 X (by omega) (by omega) hi_X3_copyFrom_X3 hl_X3_copyFrom_40 dX3_copyFrom_77 ?_
  refine v_aload_n X 0 dX3_copyFrom_80 rfl rfl ?_
  refine v_aload_n X 1 dX3_copyFrom_81 rfl rfl ?_
  refine v_getT X (by omega) (by omega) 10 (by decide) hi_X3_copyFrom_X3 hl_X3_copyFrom_43 rfl (v := .int ((z_up (z_up (z_up (z_up (z_up (z_up (z_up (z_up (z_up (z_up S 1 14 t (S 0 14 t)) 1 15 t (S 0 15 t)) 1 16 t (S 0 16 t)) 1 17 t (S 0 17 t)) 1 18 t (S 0 18 t)) 1 19 t (S 0 19 t)) 1 20 t (S 0 20 t)) 1 21 t (S 0 21 t)) 1 22 t (S 0 22 t)) 1 23 t (S 0 23 t)) 0 24 t)) rfl dX3_copyFrom_82 ?_
  refine v_top (y := S 0 24 t) ((((((((((z_up_ne _ _ (by omega)).trans (z_up_ne _ _ (by omega))).trans (z_up_ne _ _ (by omega))).trans (z_up_ne _ _ (by omega))).trans (z_up_ne _ _ (by omega))).trans (z_up_ne _ _ (by omega))).trans (z_up_ne _ _ (by omega))).trans (z_up_ne _ _ (by omega))).trans (z_up_ne _ _ (by omega))).trans (z_up_ne _ _ (by omega))) ?_
  refine v_putT10 X (by omega) (by omega) hi_X3_copyFrom_X3 hl_X3_copyFrom_43 dX3_copyFrom_85 ?_
  refine v_aload_n X 0 dX3_copyFrom_88 rfl rfl ?_
  refine v_aload_n X 1 dX3_copyFrom_89 rfl rfl ?_
  refine v_getT X (by omega) (by omega) 11 (by decide) hi_X3_copyFrom_X3 hl_X3_copyFrom_46 rfl (v := .int ((z_up (z_up (z_up (z_up (z_up (z_up (z_up (z_up (z_up (z_up (z_up S 1 14 t (S 0 14 t)) 1 15 t (S 0 15 t)) 1 16 t (S 0 16 t)) 1 17 t (S 0 17 t)) 1 18 t (S 0 18 t)) 1 19 t (S 0 19 t)) 1 20 t (S 0 20 t)) 1 21 t (S 0 21 t)) 1 22 t (S 0 22 t)) 1 23 t (S 0 23 t)) 1 24 t (S 0 24 t)) 0 25 t)) rfl dX3_copyFrom_90 ?_
  refine v_top (y := S 0 25 t) (((((((((((z_up_ne _ _ (by omega)).trans (z_up_ne _ _ (by omega))).trans (z_up_ne _ _ (by omega))).trans (z_up_ne _ _ (by omega))).trans (z_up_ne _ _ (by omega))).trans (z_up_ne _ _ (by omega))).trans (z_up_ne _ _ (by omega))).trans (z_up_ne _ _ (by omega))).trans (z_up_ne _ _ (by omega))).trans (z_up_ne _ _ (by omega))).trans (z_up_ne _ _ (by omega))) ?_
  refine v_putT11 X (by omega) (by omega) hi_X3_copyFrom_X3 hl_X3_copyFrom_46 dX3_copyFrom_93 ?_
  refine v_aload_n X 0 dX3_copyFrom_96 rfl rfl ?_
  refine v_aload_n X 1 dX3_copyFrom_97 rfl rfl ?_
  refine v_getT X (by omega) (by omega) 12 (by decide) hi_X3_copyFrom_X3 hl_X3_copyFrom_49 rfl (v := .int ((z_up (z_up (z_up (z_up (z_up (z_up (z_up (z_up (z_up (z_up (z_up (z_up S 1 14 t (S 0 14 t)) 1 15 t (S 0 15 t)) 1 16 t (S 0 16 t)) 1 17 t (S 0 17 t)) 1 18 t (S 0 18 t)) 1 19 t (S 0 19 t)) 1 20 t (S 0 20 t)) 1 21 t (S 0 21 t)) 1 22 t (S 0 22 t)) 1 23 t (S 0 23 t)) 1 24 t (S 0 24 t)) 1 25 t (S 0 25 t)) 0 26 t)) rfl dX3_copyFrom_98 ?_
  refine v_top (y := S 0 26 t) ((((((((((((z_up_ne _ _ (by omega)).trans (z_up_ne _ _ (by omega))).trans (z_up_ne _ _ (by omega))).trans (z_up_ne _ _ (by omega))).trans (z_up_ne _ _ (by omega))).trans (z_up_ne _ _ (by omega))).trans (z_up_ne _ _ (by omega))).trans (z_up_ne _ _ (by omega))).trans (z_up_ne _ _ (by omega))).trans (z_up_ne _ _ (by omega))).trans (z_up_ne _ _ (by omega))).trans (z_up_ne _ _ (by omega))) ?_
  refine v_putT12 X (by omega) (by omega) hi_X3_copyFrom_X3 hl_X3_copyFrom_49 dX3_copyFrom_101 ?_
  refine v_st (S' := s_tcp S t) (rfl) ?_
  refine v_aload_n X 1 dX3_copyFrom_104 rfl rfl ?_
  refine v_getT X (by omega) (by omega) 13 (by decide) hi_X3_copyFrom_X3 hl_X3_copyFrom_52 rfl (v := .ref (o + pO 0 t 0)) rfl dX3_copyFrom_105 ?_
  refine v_iconst (v := 0) X (by decide) dX3_copyFrom_108 ?_
  refine v_aload_n X 0 dX3_copyFrom_109 rfl rfl ?_
  refine v_getT X (by omega) (by omega) 13 (by decide) hi_X3_copyFrom_X3 hl_X3_copyFrom_52 rfl (v := .ref (o + pO 1 t 0)) rfl dX3_copyFrom_110 ?_
  refine v_iconst (v := 0) X (by decide) dX3_copyFrom_113 ?_
  refine v_bipush (v := 12) X (by decide) dX3_copyFrom_114 ?_
  refine v_copy X (pO 0 t 0) (pO 1 t 0) (pO_lt (by omega) (by omega) (by omega)) (pO_lt (by omega) (by omega) (by omega)) (n := 12) rfl (by decide) (zc_O cI cZ cT o _ (by omega) (by omega) (by omega)) (zc_O cI cZ cT o _ (by omega) (by omega) (by omega)) hw_X3_copyFrom_65l hw_X3_copyFrom_acn hw_X3_copyFrom_acs hw_X3_copyFrom_aci (S' := z_cpA (s_tcp S t) 1 (27 + 3 * t + 0) 0 (27 + 3 * t + 0)) (zs_pO cI cZ cT o _ (by omega) (by omega) (by omega) _) (Nat.le_of_ble_eq_true rfl) (Nat.le_of_ble_eq_true rfl) dX3_copyFrom_116 ?_
  refine v_aload_n X 1 dX3_copyFrom_119 rfl rfl ?_
  refine v_getT X (by omega) (by omega) 14 (by decide) hi_X3_copyFrom_X3 hl_X3_copyFrom_56 rfl (v := .ref (o + pO 0 t 1)) rfl dX3_copyFrom_120 ?_
  refine v_iconst (v := 0) X (by decide) dX3_copyFrom_123 ?_
  refine v_aload_n X 0 dX3_copyFrom_124 rfl rfl ?_
  refine v_getT X (by omega) (by omega) 14 (by decide) hi_X3_copyFrom_X3 hl_X3_copyFrom_56 rfl (v := .ref (o + pO 1 t 1)) rfl dX3_copyFrom_125 ?_
  refine v_iconst (v := 0) X (by decide) dX3_copyFrom_128 ?_
  refine v_bipush (v := 12) X (by decide) dX3_copyFrom_129 ?_
  refine v_copy X (pO 0 t 1) (pO 1 t 1) (pO_lt (by omega) (by omega) (by omega)) (pO_lt (by omega) (by omega) (by omega)) (n := 12) rfl (by decide) (zc_O cI cZ cT o _ (by omega) (by omega) (by omega)) (zc_O cI cZ cT o _ (by omega) (by omega) (by omega)) hw_X3_copyFrom_65l hw_X3_copyFrom_acn hw_X3_copyFrom_acs hw_X3_copyFrom_aci (S' := z_cpA (z_cpA (s_tcp S t) 1 (27 + 3 * t + 0) 0 (27 + 3 * t + 0)) 1 (27 + 3 * t + 1) 0 (27 + 3 * t + 1)) (zs_pO cI cZ cT o _ (by omega) (by omega) (by omega) _) (Nat.le_of_ble_eq_true rfl) (Nat.le_of_ble_eq_true rfl) dX3_copyFrom_131 ?_
  refine v_aload_n X 1 dX3_copyFrom_134 rfl rfl ?_
  refine v_getT X (by omega) (by omega) 15 (by decide) hi_X3_copyFrom_X3 hl_X3_copyFrom_59 rfl (v := .ref (o + pO 0 t 2)) rfl dX3_copyFrom_135 ?_
  refine v_iconst (v := 0) X (by decide) dX3_copyFrom_138 ?_
  refine v_aload_n X 0 dX3_copyFrom_139 rfl rfl ?_
  refine v_getT X (by omega) (by omega) 15 (by decide) hi_X3_copyFrom_X3 hl_X3_copyFrom_59 rfl (v := .ref (o + pO 1 t 2)) rfl dX3_copyFrom_140 ?_
  refine v_iconst (v := 0) X (by decide) dX3_copyFrom_143 ?_
  refine v_bipush (v := 12) X (by decide) dX3_copyFrom_144 ?_
  refine v_copy X (pO 0 t 2) (pO 1 t 2) (pO_lt (by omega) (by omega) (by omega)) (pO_lt (by omega) (by omega) (by omega)) (n := 12) rfl (by decide) (zc_O cI cZ cT o _ (by omega) (by omega) (by omega)) (zc_O cI cZ cT o _ (by omega) (by omega) (by omega)) hw_X3_copyFrom_65l hw_X3_copyFrom_acn hw_X3_copyFrom_acs hw_X3_copyFrom_aci (S' := z_cpA (z_cpA (z_cpA (s_tcp S t) 1 (27 + 3 * t + 0) 0 (27 + 3 * t + 0)) 1 (27 + 3 * t + 1) 0 (27 + 3 * t + 1)) 1 (27 + 3 * t + 2) 0 (27 + 3 * t + 2)) (zs_pO cI cZ cT o _ (by omega) (by omega) (by omega) _) (Nat.le_of_ble_eq_true rfl) (Nat.le_of_ble_eq_true rfl) dX3_copyFrom_146 ?_
  exact v_vret X dX3_copyFrom_149 (by rfl)
theorem hi_X1_copyFrom_X1 : ∀ w ∈ wsX10, w ∈ wsX1_copyFrom := by decide +kernel
theorem hl_X1_copyFrom_12 : Cond.fieldLink RX1 12 RX1 (TX1 0).2.1 (TX1 0).2.2.1 ∈ wsX1_copyFrom := by decide +kernel
theorem hy_X0_copyFrom_V : yX0_copyFrom.cls = RX0 ∧ yX0_copyFrom.cls ≠ "java/lang/invoke/MethodHandle" ∧ yX0_copyFrom.cls ≠ "java/lang/invoke/VarHandle" ∧ (parseMethodDescriptor yX0_copyFrom.desc).map (fun d => d.parameters.length) = some 1 := by decide +kernel
theorem hl_X1_copyFrom_24 : Cond.fieldLink RX1 24 RX1 (TX1 2).2.1 (TX1 2).2.2.1 ∈ wsX1_copyFrom := by decide +kernel
theorem hl_X1_copyFrom_28 : Cond.fieldLink RX1 28 RX1 (TX1 3).2.1 (TX1 3).2.2.1 ∈ wsX1_copyFrom := by decide +kernel
theorem hl_X1_copyFrom_20 : Cond.fieldLink RX1 20 RX1 (TX1 1).2.1 (TX1 1).2.2.1 ∈ wsX1_copyFrom := by decide +kernel
theorem hy_X3_copyFrom_V : yX3_copyFrom.cls = RX3 ∧ yX3_copyFrom.cls ≠ "java/lang/invoke/MethodHandle" ∧ yX3_copyFrom.cls ≠ "java/lang/invoke/VarHandle" ∧ (parseMethodDescriptor yX3_copyFrom.desc).map (fun d => d.parameters.length) = some 1 := by decide +kernel
set_option maxRecDepth 100000 in
set_option maxHeartbeats 4000000 in
/-- X1_copyFrom -/
theorem c_X1_copyFrom (l : Launch) (G : va_G) (cI cZ cT : ClassId) (o : Nat) (S : zS) (n : Nat) (h12 : S 0 12 0 = nI n) (hn : n ≤ 8) (hbo : z_bo S 0) : zU l G cI cZ cT o yX1_copyFrom wsX1_copyFrom { frames := 2, cells := 0, slots := 0, locals := 81 } [.ref (o + pS 1), .ref (o + pS 0)] S (fun u => u = s_scopy S n) := by
  refine z_ofV (cc := cX1_copyFrom) (maxL := 3) (by decide) rfl (by simp [lg_sl, Value.category]) ?_
  intro p9 e9 s9 m9 a9 b9 h9 c9 X
  refine v_lo [0, 1] (lo' := [(0, .ref (o + pS 1)), (1, .ref (o + pS 0))]) rfl ?_
  refine v_aload_n X 0 dX1_copyFrom_0 rfl rfl ?_
  refine v_getS X (by omega) 0 (by decide) hi_X1_copyFrom_X1 hl_X1_copyFrom_12 rfl (v := .ref (o + pG 1)) rfl dX1_copyFrom_1 ?_
  refine v_aload_n X 1 dX1_copyFrom_4 rfl rfl ?_
  refine v_getS X (by omega) 0 (by decide) hi_X1_copyFrom_X1 hl_X1_copyFrom_12 rfl (v := .ref (o + pG 0)) rfl dX1_copyFrom_5 ?_
  refine v_callVUf X [.ref (o + pG 0)] (pG 1) (pG_lt (by omega)) (c_X0_copyFrom l G cI cZ cT o S) (zc_G cI cZ cT o _ (by omega)) (C := RX0) (T := TX0) (N := 12) rfl 1 rfl gX1_copyFrom_X0_copyFrom rfl ⟨rfl, rfl⟩ hy_X0_copyFrom_V ⟨Nat.le_of_ble_eq_true rfl, Nat.le_of_ble_eq_true rfl⟩ rfl (Nat.le_of_ble_eq_true rfl) dX1_copyFrom_8 ?_
  refine v_aload_n X 0 dX1_copyFrom_11 rfl rfl ?_
  refine v_aload_n X 1 dX1_copyFrom_12 rfl rfl ?_
  refine v_getS X (by omega) 2 (by decide) hi_X1_copyFrom_X1 hl_X1_copyFrom_24 rfl (v := .int ((s_gcopy S) 0 12 0)) rfl dX1_copyFrom_13 ?_
  refine v_top (y := nI n) ((k0_gcopy k0.rf 0 12 0 (by decide)).trans h12) ?_
  refine v_putS2 X (by omega) hi_X1_copyFrom_X1 hl_X1_copyFrom_24 dX1_copyFrom_16 ?_
  refine v_aload_n X 0 dX1_copyFrom_19 rfl rfl ?_
  refine v_aload_n X 1 dX1_copyFrom_20 rfl rfl ?_
  refine v_getS X (by omega) 3 (by decide) hi_X1_copyFrom_X1 hl_X1_copyFrom_28 rfl (v := .int ((z_up (s_gcopy S) 1 12 0 (nI n)) 0 13 0)) rfl dX1_copyFrom_21 ?_
  refine v_top (y := (s_gcopy S) 0 13 0) (z_up_ne _ _ (by omega)) ?_
  refine v_putS3 X (by omega) hi_X1_copyFrom_X1 hl_X1_copyFrom_28 dX1_copyFrom_24 ?_
  refine v_st (S' := s_scp S n) (rfl) ?_
  refine v_iconst (v := 0) X (by decide) dX1_copyFrom_27 ?_
  refine v_istore_n (lo' := [(2, .int 0), (0, .ref (o + pS 1)), (1, .ref (o + pS 0))]) X dX1_copyFrom_28 rfl (by decide) rfl ?_
  have L_29 : ∀ (d i : Nat), i + d = n → z_V p9 l e9 (headSpec wsX1_copyFrom { frames := 2, cells := 0, slots := 0, locals := 81 }).room s9 m9 a9 b9 h9 c9 (MQ b9 (va_Qv (fun u => u = s_scopy S n) (z_B G cI cZ cT o) (z_A o s9.heap.size)) a9 s9 0 0 (z_A o s9.heap.size)) G cI cZ cT o 3 (s_tcopyN (s_scp S n) i) 29 [(0, .ref (o + pS 1)), (1, .ref (o + pS 0)), (2, .int (nI i))] [] := by
    intro d
    induction d with
    | zero =>
      intro i hi_29
      have he_29 : i = n := by omega
      rw [he_29]
      refine v_iload_n X 2 dX1_copyFrom_29 rfl rfl ?_
      refine v_aload_n X 0 dX1_copyFrom_30 rfl rfl ?_
      refine v_getS X (by omega) 2 (by decide) hi_X1_copyFrom_X1 hl_X1_copyFrom_24 rfl (v := .int ((s_tcopyN (s_scp S n) n) 1 12 0)) rfl dX1_copyFrom_31 ?_
      refine v_top (y := nI n) (tcopyN_12 S n n) ?_
      refine v_ncmp_ge X n n rfl rfl (by omega) (by omega) (tgt := 58) dX1_copyFrom_34 (by decide) (fun c_34 => ?_) (fun c_34 => ?_)
      ·
        exact v_vret X dX1_copyFrom_58 (by rfl)
      ·
        exact absurd c_34 (by omega)
    | succ d ih_29 =>
      intro i hi_29
      refine v_iload_n X 2 dX1_copyFrom_29 rfl rfl ?_
      refine v_aload_n X 0 dX1_copyFrom_30 rfl rfl ?_
      refine v_getS X (by omega) 2 (by decide) hi_X1_copyFrom_X1 hl_X1_copyFrom_24 rfl (v := .int ((s_tcopyN (s_scp S n) i) 1 12 0)) rfl dX1_copyFrom_31 ?_
      refine v_top (y := nI n) (tcopyN_12 S n i) ?_
      refine v_ncmp_ge X i n rfl rfl (by omega) (by omega) (tgt := 58) dX1_copyFrom_34 (by decide) (fun c_34 => ?_) (fun c_34 => ?_)
      ·
        exact absurd c_34 (by omega)
      ·
        refine v_aload_n X 0 dX1_copyFrom_37 rfl rfl ?_
        refine v_getS X (by omega) 1 (by decide) hi_X1_copyFrom_X1 hl_X1_copyFrom_20 rfl (v := .ref (o + pL 1)) rfl dX1_copyFrom_38 ?_
        refine v_iload_n X 2 dX1_copyFrom_41 rfl rfl ?_
        refine v_aald X (w := 1) (by omega) i rfl (by omega) dX1_copyFrom_42 ?_
        refine v_aload_n X 1 dX1_copyFrom_43 rfl rfl ?_
        refine v_getS X (by omega) 1 (by decide) hi_X1_copyFrom_X1 hl_X1_copyFrom_20 rfl (v := .ref (o + pL 0)) rfl dX1_copyFrom_44 ?_
        refine v_iload_n X 2 dX1_copyFrom_47 rfl rfl ?_
        refine v_aald X (w := 0) (by omega) i rfl (by omega) dX1_copyFrom_48 ?_
        refine v_callVUf X [.ref (o + pT 0 i)] (pT 1 i) (pT_lt (by omega) (by omega)) (c_X3_copyFrom l G cI cZ cT o (s_tcopyN (s_scp S n) i) i (by omega) (by rw [k0_tcopyN (k0_scp k0.rf n) i 0 21 i (by decide)]; exact (hbo i (by omega)).1) (by rw [k0_tcopyN (k0_scp k0.rf n) i 0 22 i (by decide)]; exact (hbo i (by omega)).2)) (zc_T cI cZ cT o _ (by omega) (by omega)) (C := RX3) (T := TX3) (N := 16) rfl 1 rfl gX1_copyFrom_X3_copyFrom rfl ⟨rfl, rfl⟩ hy_X3_copyFrom_V ⟨Nat.le_of_ble_eq_true rfl, Nat.le_of_ble_eq_true rfl⟩ rfl (Nat.le_of_ble_eq_true rfl) dX1_copyFrom_49 ?_
        refine v_iinc (v := nI (i + 1)) (lo' := [(2, .int (nI (i + 1))), (0, .ref (o + pS 1)), (1, .ref (o + pS 0))]) X 2 dX1_copyFrom_52 rfl (nI_1 i) (by decide) rfl ?_
        refine v_goto (tgt := 29) X dX1_copyFrom_55 (by decide) ?_
        refine v_lo [1, 2, 0] (lo' := [(0, .ref (o + pS 1)), (1, .ref (o + pS 0)), (2, .int (nI (i + 1)))]) rfl ?_
        refine v_eq (S' := s_tcopyN (s_scp S n) (i + 1)) (lo' := [(0, .ref (o + pS 1)), (1, .ref (o + pS 0)), (2, .int (nI (i + 1)))]) (by rfl) (by rfl) ?_
        exact ih_29 (i + 1) (by omega)
  refine v_lo [1, 2, 0] (lo' := [(0, .ref (o + pS 1)), (1, .ref (o + pS 0)), (2, .int 0)]) rfl ?_
  refine v_eq (S' := s_tcopyN (s_scp S n) 0) (lo' := [(0, .ref (o + pS 1)), (1, .ref (o + pS 0)), (2, .int (nI 0))]) (by rfl) (by rfl) ?_
  exact L_29 (n) 0 (by omega)
theorem hi_X2_append_X2 : ∀ w ∈ wsX20, w ∈ wsX2_append := by decide +kernel
theorem hl_X2_append_15 : Cond.fieldLink RX2 15 RX2 (TX2 1).2.1 (TX2 1).2.2.1 ∈ wsX2_append := by decide +kernel
theorem hl_X2_append_9 : Cond.fieldLink RX2 9 RX2 (TX2 0).2.1 (TX2 0).2.2.1 ∈ wsX2_append := by decide +kernel
set_option maxRecDepth 100000 in
set_option maxHeartbeats 4000000 in
/-- X2_append -/
theorem c_X2_append (l : Launch) (G : va_G) (cI cZ cT : ClassId) (o : Nat) (S : zS) (L : Nat) (x : Int32) (hL : L + 4 ≤ 200) (eL : S 2 1 0 = nI L) : zU l G cI cZ cT o yX2_append wsX2_append { frames := 0, cells := 0, slots := 0, locals := 0 } [.ref (o + 1), .int x] S (fun u => u = s_app S L x 4) := by
  refine z_ofV (cc := cX2_append) (maxL := 3) (by decide) rfl (by simp [lg_sl, Value.category]) ?_
  intro p9 e9 s9 m9 a9 b9 h9 c9 X
  refine v_lo [0, 1] (lo' := [(0, .ref (o + 1)), (1, .int x)]) rfl ?_
  refine v_aload_n X 0 dX2_append_0 rfl rfl ?_
  refine v_getP X 1 (by decide) hi_X2_append_X2 hl_X2_append_15 rfl (v := .int (S 2 1 0)) rfl dX2_append_1 ?_
  refine v_top (y := nI L) (eL) ?_
  refine v_if_lt X (tgt := 19) dX2_append_4 (by decide) (fun q => absurd q (nI_pos (by omega))) (fun _ => ?_)
  refine v_aload_n X 0 dX2_append_7 rfl rfl ?_
  refine v_getP X 1 (by decide) hi_X2_append_X2 hl_X2_append_15 rfl (v := .int (S 2 1 0)) rfl dX2_append_8 ?_
  refine v_top (y := nI L) (eL) ?_
  refine v_iconst (v := 4) X (by decide) dX2_append_11 ?_
  refine v_iadd X dX2_append_12 ?_
  refine v_top (y := nI (L + 4)) (nI_add L 4) ?_
  refine v_sipush (v := 200) X (by decide) dX2_append_13 ?_
  refine v_ncmp_le X (L + 4) 200 rfl rfl (by omega) (by omega) (tgt := 20) dX2_append_16 (by decide) (fun c_16 => ?_) (fun c_16 => ?_)
  ·
    refine v_iconst (v := 0) X (by decide) dX2_append_20 ?_
    refine v_istore_n (lo' := [(2, .int 0), (0, .ref (o + 1)), (1, .int x)]) X dX2_append_21 rfl (by decide) rfl ?_
    have L_22 : ∀ (d i : Nat), i + d = 4 → z_V p9 l e9 (headSpec wsX2_append { frames := 0, cells := 0, slots := 0, locals := 0 }).room s9 m9 a9 b9 h9 c9 (MQ b9 (va_Qv (fun u => u = s_app S L x 4) (z_B G cI cZ cT o) (z_A o s9.heap.size)) a9 s9 0 0 (z_A o s9.heap.size)) G cI cZ cT o 3 (s_app S L x i) 22 [(0, .ref (o + 1)), (1, .int x), (2, .int (nI i))] [] := by
      intro d
      induction d with
      | zero =>
        intro i hi_22
        have he_22 : i = 4 := by omega
        rw [he_22]
        refine v_iload_n X 2 dX2_append_22 rfl rfl ?_
        refine v_iconst (v := 4) X (by decide) dX2_append_23 ?_
        refine v_ncmp_ge X 4 4 rfl rfl (by omega) (by omega) (tgt := 65) dX2_append_24 (by decide) (fun c_24 => ?_) (fun c_24 => ?_)
        ·
          exact v_vret X dX2_append_65 (by rfl)
        ·
          exact absurd c_24 (by omega)
      | succ d ih_22 =>
        intro i hi_22
        refine v_iload_n X 2 dX2_append_22 rfl rfl ?_
        refine v_iconst (v := 4) X (by decide) dX2_append_23 ?_
        refine v_ncmp_ge X i 4 rfl rfl (by omega) (by omega) (tgt := 65) dX2_append_24 (by decide) (fun c_24 => ?_) (fun c_24 => ?_)
        ·
          exact absurd c_24 (by omega)
        ·
          refine v_aload_n X 0 dX2_append_27 rfl rfl ?_
          refine v_getP X 0 (by decide) hi_X2_append_X2 hl_X2_append_9 rfl (v := .ref (o + 2)) rfl dX2_append_28 ?_
          refine v_aload_n X 0 dX2_append_31 rfl rfl ?_
          refine v_getP X 1 (by decide) hi_X2_append_X2 hl_X2_append_15 rfl (v := .int ((s_app S L x i) 2 1 0)) rfl dX2_append_32 ?_
          refine v_top (y := nI (L + i)) (app_len x eL i) ?_
          refine v_iload_n X 1 dX2_append_35 rfl rfl ?_
          refine v_bipush (v := 24) X (by decide) dX2_append_36 ?_
          refine v_bipush (v := 8) X (by decide) dX2_append_38 ?_
          refine v_iload_n X 2 dX2_append_40 rfl rfl ?_
          refine v_imul X dX2_append_41 ?_
          refine v_top (y := nI (8 * i)) (pk_mul 8 i) ?_
          refine v_isub X dX2_append_42 ?_
          refine v_iushr X rfl dX2_append_43 ?_
          refine v_sipush (v := 255) X (by decide) dX2_append_44 ?_
          refine v_iand X dX2_append_47 ?_
          refine v_top (y := z_byte x i) (rfl) ?_
          refine v_ast X 2 (by decide) (zc_2 cI cZ cT o _) (L + i) rfl (by omega) (by decide) (zs_2 cI cZ cT o _ _ _) dX2_append_48 ?_
          refine v_aload_n X 0 dX2_append_49 rfl rfl ?_
          refine v_dup X rfl dX2_append_50 ?_
          refine v_getP X 1 (by decide) hi_X2_append_X2 hl_X2_append_15 rfl (v := .int ((z_up (s_app S L x i) 2 0 (L + i) (z_byte x i)) 2 1 0)) rfl dX2_append_51 ?_
          refine v_top (y := (s_app S L x i) 2 1 0) (z_up_ne _ _ (by omega)) ?_
          refine v_top (y := nI (L + i)) (app_len x eL i) ?_
          refine v_iconst (v := 1) X (by decide) dX2_append_54 ?_
          refine v_iadd X dX2_append_55 ?_
          refine v_top (y := nI ((L + i) + 1)) (nI_add (L + i) 1) ?_
          refine v_putP1 X hi_X2_append_X2 hl_X2_append_15 dX2_append_56 ?_
          refine v_iinc (v := nI (i + 1)) (lo' := [(2, .int (nI (i + 1))), (0, .ref (o + 1)), (1, .int x)]) X 2 dX2_append_59 rfl (nI_1 i) (by decide) rfl ?_
          refine v_goto (tgt := 22) X dX2_append_62 (by decide) ?_
          refine v_lo [1, 2, 0] (lo' := [(0, .ref (o + 1)), (1, .int x), (2, .int (nI (i + 1)))]) rfl ?_
          refine v_eq (S' := s_app S L x (i + 1)) (lo' := [(0, .ref (o + 1)), (1, .int x), (2, .int (nI (i + 1)))]) (by rfl) (by rfl) ?_
          exact ih_22 (i + 1) (by omega)
    refine v_lo [1, 2, 0] (lo' := [(0, .ref (o + 1)), (1, .int x), (2, .int 0)]) rfl ?_
    refine v_eq (S' := s_app S L x 0) (lo' := [(0, .ref (o + 1)), (1, .int x), (2, .int (nI 0))]) (by rfl) (by rfl) ?_
    exact L_22 (4) 0 (by omega)
  ·
    exact absurd c_16 (by omega)
theorem hi_X2_fits_X2 : ∀ w ∈ wsX20, w ∈ wsX2_fits := by decide +kernel
theorem hl_X2_fits_9 : Cond.fieldLink RX2 9 RX2 (TX2 0).2.1 (TX2 0).2.2.1 ∈ wsX2_fits := by decide +kernel
set_option maxRecDepth 100000 in
set_option maxHeartbeats 4000000 in
/-- X2_fits -/
theorem c_X2_fits (l : Launch) (G : va_G) (cI cZ cT : ClassId) (o : Nat) (S : zS) (p : Nat) (hp : p < 200) : zI l G cI cZ cT o yX2_fits wsX2_fits { frames := 0, cells := 0, slots := 0, locals := 0 } [.ref (o + 1), .int (nI p)] S (fun r u => r = s_fits S p ∧ u = S) := by
  refine z_ofZb (cc := cX2_fits) (maxL := 3) (by decide) rfl (by simp [lg_sl, Value.category]) ?_
  intro p9 e9 s9 m9 a9 b9 h9 c9 X
  refine v_lo [0, 1] (lo' := [(0, .ref (o + 1)), (1, .int (nI p))]) rfl ?_
  refine v_iload_n X 1 dX2_fits_0 rfl rfl ?_
  refine v_sipush (v := 156) X (by decide) dX2_fits_1 ?_
  refine v_ncmp_lt X p 156 rfl rfl (by omega) (by omega) (tgt := 9) dX2_fits_4 (by decide) (fun c_4 => ?_) (fun c_4 => ?_)
  ·
    refine v_aload_n X 0 dX2_fits_9 rfl rfl ?_
    refine v_getP X 0 (by decide) hi_X2_fits_X2 hl_X2_fits_9 rfl (v := .ref (o + 2)) rfl dX2_fits_10 ?_
    refine v_iload_n X 1 dX2_fits_13 rfl rfl ?_
    refine v_ald X 2 (by decide) (zc_2 cI cZ cT o _) p rfl (by omega) (by decide) dX2_fits_14 ?_
    refine v_istore_n (lo' := [(2, .int (S 2 0 p)), (0, .ref (o + 1)), (1, .int (nI p))]) X dX2_fits_15 rfl (by decide) rfl ?_
    refine v_iload_n X 2 dX2_fits_16 rfl rfl ?_
    refine v_bipush (v := 13) X (by decide) dX2_fits_17 ?_
    refine v_irem X (by decide) dX2_fits_19 ?_
    refine v_top (y := nI (p % 13)) (pk_rem (a := p) (d := 13) (by omega) (by omega) (by omega)) ?_
    refine v_bipush (v := 12) X (by decide) dX2_fits_20 ?_
    refine v_ncmp_ne X (p % 13) 12 rfl rfl (by omega) (by omega) (tgt := 37) dX2_fits_22 (by decide) (fun c_22 => ?_) (fun c_22 => ?_)
    ·
      refine v_iload_n X 0 dX2_fits_37 rfl rfl ?_
      refine v_bipush (v := 49) X (by decide) dX2_fits_38 ?_
      refine v_icmp_lt X (tgt := 49) dX2_fits_40 (by decide) (fun c_40 => ?_) (fun c_40 => ?_)
      ·
        refine v_iload_n X 0 dX2_fits_49 rfl rfl ?_
        refine v_bipush (v := 97) X (by decide) dX2_fits_50 ?_
        refine v_icmp_lt X (tgt := 61) dX2_fits_52 (by decide) (fun c_52 => ?_) (fun c_52 => ?_)
        ·
          refine v_iload_n X 0 dX2_fits_61 rfl rfl ?_
          refine v_bipush (v := 35) X (by decide) dX2_fits_62 ?_
          refine v_icmp_eq X (tgt := 73) dX2_fits_64 (by decide) (fun c_64 => ?_) (fun c_64 => ?_)
          ·
            refine v_iconst (v := 1) X (by decide) dX2_fits_73 ?_
            refine v_goto (tgt := 78) X dX2_fits_74 (by decide) ?_
            exact v_zret X rfl dX2_fits_78 (by simp [s_fits, s_ground, c_4, c_22, c_40, c_52, c_64])
          ·
            refine v_iload_n X 0 dX2_fits_67 rfl rfl ?_
            refine v_bipush (v := 46) X (by decide) dX2_fits_68 ?_
            refine v_icmp_ne X (tgt := 77) dX2_fits_70 (by decide) (fun c_70 => ?_) (fun c_70 => ?_)
            ·
              refine v_iconst (v := 0) X (by decide) dX2_fits_77 ?_
              exact v_zret X rfl dX2_fits_78 (by simp [s_fits, s_ground, c_4, c_22, c_40, c_52, c_64, c_70])
            ·
              refine v_iconst (v := 1) X (by decide) dX2_fits_73 ?_
              refine v_goto (tgt := 78) X dX2_fits_74 (by decide) ?_
              exact v_zret X rfl dX2_fits_78 (by simp [s_fits, s_ground, c_4, c_22, c_40, c_52, c_64, c_70])
        ·
          refine v_iload_n X 0 dX2_fits_55 rfl rfl ?_
          refine v_bipush (v := 105) X (by decide) dX2_fits_56 ?_
          refine v_icmp_le X (tgt := 73) dX2_fits_58 (by decide) (fun c_58 => ?_) (fun c_58 => ?_)
          ·
            refine v_iconst (v := 1) X (by decide) dX2_fits_73 ?_
            refine v_goto (tgt := 78) X dX2_fits_74 (by decide) ?_
            exact v_zret X rfl dX2_fits_78 (by simp [s_fits, s_ground, c_4, c_22, c_40, c_52, c_58])
          ·
            refine v_iload_n X 0 dX2_fits_61 rfl rfl ?_
            refine v_bipush (v := 35) X (by decide) dX2_fits_62 ?_
            refine v_icmp_eq X (tgt := 73) dX2_fits_64 (by decide) (fun c_64 => ?_) (fun c_64 => ?_)
            ·
              refine v_iconst (v := 1) X (by decide) dX2_fits_73 ?_
              refine v_goto (tgt := 78) X dX2_fits_74 (by decide) ?_
              exact v_zret X rfl dX2_fits_78 (by simp [s_fits, s_ground, c_4, c_22, c_40, c_52, c_58, c_64])
            ·
              refine v_iload_n X 0 dX2_fits_67 rfl rfl ?_
              refine v_bipush (v := 46) X (by decide) dX2_fits_68 ?_
              refine v_icmp_ne X (tgt := 77) dX2_fits_70 (by decide) (fun c_70 => ?_) (fun c_70 => ?_)
              ·
                refine v_iconst (v := 0) X (by decide) dX2_fits_77 ?_
                exact v_zret X rfl dX2_fits_78 (by simp [s_fits, s_ground, c_4, c_22, c_40, c_52, c_58, c_64, c_70])
              ·
                refine v_iconst (v := 1) X (by decide) dX2_fits_73 ?_
                refine v_goto (tgt := 78) X dX2_fits_74 (by decide) ?_
                exact v_zret X rfl dX2_fits_78 (by simp [s_fits, s_ground, c_4, c_22, c_40, c_52, c_58, c_64, c_70])
      ·
        refine v_iload_n X 0 dX2_fits_43 rfl rfl ?_
        refine v_bipush (v := 57) X (by decide) dX2_fits_44 ?_
        refine v_icmp_le X (tgt := 73) dX2_fits_46 (by decide) (fun c_46 => ?_) (fun c_46 => ?_)
        ·
          refine v_iconst (v := 1) X (by decide) dX2_fits_73 ?_
          refine v_goto (tgt := 78) X dX2_fits_74 (by decide) ?_
          exact v_zret X rfl dX2_fits_78 (by simp [s_fits, s_ground, c_4, c_22, c_40, c_46])
        ·
          refine v_iload_n X 0 dX2_fits_49 rfl rfl ?_
          refine v_bipush (v := 97) X (by decide) dX2_fits_50 ?_
          refine v_icmp_lt X (tgt := 61) dX2_fits_52 (by decide) (fun c_52 => ?_) (fun c_52 => ?_)
          ·
            refine v_iload_n X 0 dX2_fits_61 rfl rfl ?_
            refine v_bipush (v := 35) X (by decide) dX2_fits_62 ?_
            refine v_icmp_eq X (tgt := 73) dX2_fits_64 (by decide) (fun c_64 => ?_) (fun c_64 => ?_)
            ·
              refine v_iconst (v := 1) X (by decide) dX2_fits_73 ?_
              refine v_goto (tgt := 78) X dX2_fits_74 (by decide) ?_
              exact v_zret X rfl dX2_fits_78 (by simp [s_fits, s_ground, c_4, c_22, c_40, c_46, c_52, c_64])
            ·
              refine v_iload_n X 0 dX2_fits_67 rfl rfl ?_
              refine v_bipush (v := 46) X (by decide) dX2_fits_68 ?_
              refine v_icmp_ne X (tgt := 77) dX2_fits_70 (by decide) (fun c_70 => ?_) (fun c_70 => ?_)
              ·
                refine v_iconst (v := 0) X (by decide) dX2_fits_77 ?_
                exact v_zret X rfl dX2_fits_78 (by simp [s_fits, s_ground, c_4, c_22, c_40, c_46, c_52, c_64, c_70])
              ·
                refine v_iconst (v := 1) X (by decide) dX2_fits_73 ?_
                refine v_goto (tgt := 78) X dX2_fits_74 (by decide) ?_
                exact v_zret X rfl dX2_fits_78 (by simp [s_fits, s_ground, c_4, c_22, c_40, c_46, c_52, c_64, c_70])
          ·
            refine v_iload_n X 0 dX2_fits_55 rfl rfl ?_
            refine v_bipush (v := 105) X (by decide) dX2_fits_56 ?_
            refine v_icmp_le X (tgt := 73) dX2_fits_58 (by decide) (fun c_58 => ?_) (fun c_58 => ?_)
            ·
              refine v_iconst (v := 1) X (by decide) dX2_fits_73 ?_
              refine v_goto (tgt := 78) X dX2_fits_74 (by decide) ?_
              exact v_zret X rfl dX2_fits_78 (by simp [s_fits, s_ground, c_4, c_22, c_40, c_46, c_52, c_58])
            ·
              refine v_iload_n X 0 dX2_fits_61 rfl rfl ?_
              refine v_bipush (v := 35) X (by decide) dX2_fits_62 ?_
              refine v_icmp_eq X (tgt := 73) dX2_fits_64 (by decide) (fun c_64 => ?_) (fun c_64 => ?_)
              ·
                refine v_iconst (v := 1) X (by decide) dX2_fits_73 ?_
                refine v_goto (tgt := 78) X dX2_fits_74 (by decide) ?_
                exact v_zret X rfl dX2_fits_78 (by simp [s_fits, s_ground, c_4, c_22, c_40, c_46, c_52, c_58, c_64])
              ·
                refine v_iload_n X 0 dX2_fits_67 rfl rfl ?_
                refine v_bipush (v := 46) X (by decide) dX2_fits_68 ?_
                refine v_icmp_ne X (tgt := 77) dX2_fits_70 (by decide) (fun c_70 => ?_) (fun c_70 => ?_)
                ·
                  refine v_iconst (v := 0) X (by decide) dX2_fits_77 ?_
                  exact v_zret X rfl dX2_fits_78 (by simp [s_fits, s_ground, c_4, c_22, c_40, c_46, c_52, c_58, c_64, c_70])
                ·
                  refine v_iconst (v := 1) X (by decide) dX2_fits_73 ?_
                  refine v_goto (tgt := 78) X dX2_fits_74 (by decide) ?_
                  exact v_zret X rfl dX2_fits_78 (by simp [s_fits, s_ground, c_4, c_22, c_40, c_46, c_52, c_58, c_64, c_70])
    ·
      refine v_iload_n X 0 dX2_fits_25 rfl rfl ?_
      refine v_bipush (v := 10) X (by decide) dX2_fits_26 ?_
      refine v_icmp_ne X (tgt := 35) dX2_fits_28 (by decide) (fun c_28 => ?_) (fun c_28 => ?_)
      ·
        refine v_iconst (v := 0) X (by decide) dX2_fits_35 ?_
        exact v_zret X rfl dX2_fits_36 (by simp [s_fits, s_ground, c_4, c_22, c_28])
      ·
        refine v_iconst (v := 1) X (by decide) dX2_fits_31 ?_
        refine v_goto (tgt := 36) X dX2_fits_32 (by decide) ?_
        exact v_zret X rfl dX2_fits_36 (by simp [s_fits, s_ground, c_4, c_22, c_28])
  ·
    refine v_iconst (v := 0) X (by decide) dX2_fits_7 ?_
    exact v_zret X rfl dX2_fits_8 (by simp [s_fits, s_ground, c_4])
theorem hi_X2_placeOfError_X2 : ∀ w ∈ wsX20, w ∈ wsX2_placeOfError := by decide +kernel
theorem hl_X2_placeOfError_15 : Cond.fieldLink RX2 15 RX2 (TX2 1).2.1 (TX2 1).2.2.1 ∈ wsX2_placeOfError := by decide +kernel
theorem hy_X2_fits_V : yX2_fits.cls = RX2 ∧ yX2_fits.cls ≠ "java/lang/invoke/MethodHandle" ∧ yX2_fits.cls ≠ "java/lang/invoke/VarHandle" ∧ (parseMethodDescriptor yX2_fits.desc).map (fun d => d.parameters.length) = some 1 := by decide +kernel
set_option maxRecDepth 100000 in
set_option maxHeartbeats 4000000 in
/-- X2_placeOfError -/
theorem c_X2_placeOfError (l : Launch) (G : va_G) (cI cZ cT : ClassId) (o : Nat) (S : zS) (L : Nat) (hL : L ≤ 200) (eL : S 2 1 0 = nI L) : zI l G cI cZ cT o yX2_placeOfError wsX2_placeOfError { frames := 1, cells := 0, slots := 0, locals := 22 } [.ref (o + 1)] S (fun r u => r = s_err S L ∧ u = S) := by
  refine z_ofI (cc := cX2_placeOfError) (maxL := 2) (by decide) rfl (by simp [lg_sl, Value.category]) ?_
  intro p9 e9 s9 m9 a9 b9 h9 c9 X
  refine v_lo [0] (lo' := [(0, .ref (o + 1))]) rfl ?_
  refine v_iconst (v := 0) X (by decide) dX2_placeOfError_0 ?_
  refine v_istore_n (lo' := [(1, .int 0), (0, .ref (o + 1))]) X dX2_placeOfError_1 rfl (by decide) rfl ?_
  have L_2 : ∀ (d i : Nat), i + d = L → s_badN S i = i → z_V p9 l e9 (headSpec wsX2_placeOfError { frames := 1, cells := 0, slots := 0, locals := 22 }).room s9 m9 a9 b9 h9 c9 (MQ b9 (va_Qi (fun r u => r = s_err S L ∧ u = S) (z_B G cI cZ cT o) (z_A o s9.heap.size)) a9 s9 0 0 (z_A o s9.heap.size)) G cI cZ cT o 2 (S) 2 [(0, .ref (o + 1)), (1, .int (nI i))] [] := by
    intro d
    induction d with
    | zero =>
      intro i hi_2 hp_2
      have he_2 : i = L := by omega
      rw [he_2] at hp_2 ⊢
      refine v_iload_n X 1 dX2_placeOfError_2 rfl rfl ?_
      refine v_aload_n X 0 dX2_placeOfError_3 rfl rfl ?_
      refine v_getP X 1 (by decide) hi_X2_placeOfError_X2 hl_X2_placeOfError_15 rfl (v := .int (S 2 1 0)) rfl dX2_placeOfError_4 ?_
      refine v_top (y := nI L) (eL) ?_
      refine v_ncmp_ge X L L rfl rfl (by omega) (by omega) (tgt := 26) dX2_placeOfError_7 (by decide) (fun c_7 => ?_) (fun c_7 => ?_)
      ·
        refine v_aload_n X 0 dX2_placeOfError_26 rfl rfl ?_
        refine v_getP X 1 (by decide) hi_X2_placeOfError_X2 hl_X2_placeOfError_15 rfl (v := .int (S 2 1 0)) rfl dX2_placeOfError_27 ?_
        refine v_top (y := nI L) (eL) ?_
        refine v_sipush (v := 156) X (by decide) dX2_placeOfError_30 ?_
        refine v_ncmp_ge X L 156 rfl rfl (by omega) (by omega) (tgt := 43) dX2_placeOfError_33 (by decide) (fun c_33 => ?_) (fun c_33 => ?_)
        ·
          refine v_iconst (v := -1) X (by decide) dX2_placeOfError_43 ?_
          exact v_iret X dX2_placeOfError_44 (by first | (simp [s_err, hp_2, c_7, c_33]; done) | (simp [s_err, hp_2, c_7, c_33]; intro h; exact absurd h (by omega)))
        ·
          refine v_aload_n X 0 dX2_placeOfError_36 rfl rfl ?_
          refine v_getP X 1 (by decide) hi_X2_placeOfError_X2 hl_X2_placeOfError_15 rfl (v := .int (S 2 1 0)) rfl dX2_placeOfError_37 ?_
          refine v_top (y := nI L) (eL) ?_
          refine v_goto (tgt := 44) X dX2_placeOfError_40 (by decide) ?_
          exact v_iret X dX2_placeOfError_44 (by first | (simp [s_err, hp_2, c_7, c_33]; done) | (simp [s_err, hp_2, c_7, c_33]; intro h; exact absurd h (by omega)))
      ·
        exact absurd c_7 (by omega)
    | succ d ih_2 =>
      intro i hi_2 hp_2
      refine v_iload_n X 1 dX2_placeOfError_2 rfl rfl ?_
      refine v_aload_n X 0 dX2_placeOfError_3 rfl rfl ?_
      refine v_getP X 1 (by decide) hi_X2_placeOfError_X2 hl_X2_placeOfError_15 rfl (v := .int (S 2 1 0)) rfl dX2_placeOfError_4 ?_
      refine v_top (y := nI L) (eL) ?_
      refine v_ncmp_ge X i L rfl rfl (by omega) (by omega) (tgt := 26) dX2_placeOfError_7 (by decide) (fun c_7 => ?_) (fun c_7 => ?_)
      ·
        exact absurd c_7 (by omega)
      ·
        refine v_aload_n X 0 dX2_placeOfError_10 rfl rfl ?_
        refine v_iload_n X 1 dX2_placeOfError_11 rfl rfl ?_
        refine v_callVIf X [.int (nI i)] (1) (by decide) (c_X2_fits l G cI cZ cT o S i (by omega)) (zc_P cI cZ cT o _) (C := RX2) (T := TX2) (N := 2) rfl 1 rfl gX2_placeOfError_X2_fits rfl ⟨rfl, rfl⟩ hy_X2_fits_V ⟨Nat.le_of_ble_eq_true rfl, Nat.le_of_ble_eq_true rfl⟩ rfl (Nat.le_of_ble_eq_true rfl) dX2_placeOfError_12 ?_
        refine v_if_ne X (tgt := 20) dX2_placeOfError_15 (by decide) (fun c_15 => ?_) (fun c_15 => ?_)
        ·
          refine v_iinc (v := nI (i + 1)) (lo' := [(1, .int (nI (i + 1))), (0, .ref (o + 1))]) X 1 dX2_placeOfError_20 rfl (nI_1 i) (by decide) rfl ?_
          refine v_goto (tgt := 2) X dX2_placeOfError_23 (by decide) ?_
          refine v_lo [1, 0] (lo' := [(0, .ref (o + 1)), (1, .int (nI (i + 1)))]) rfl ?_
          refine v_eq (S' := S) (lo' := [(0, .ref (o + 1)), (1, .int (nI (i + 1)))]) (by rfl) (by rfl) ?_
          exact ih_2 (i + 1) (by omega) (by simp [s_badN, hp_2, c_7, c_15])
        ·
          refine v_iload_n X 1 dX2_placeOfError_18 rfl rfl ?_
          exact v_iret X dX2_placeOfError_19 (by exact ⟨by rw [s_err, s_badN_of hp_2 c_15 L (by omega), if_pos (by omega)], rfl⟩)
  refine v_lo [1, 0] (lo' := [(0, .ref (o + 1)), (1, .int 0)]) rfl ?_
  refine v_eq (S' := S) (lo' := [(0, .ref (o + 1)), (1, .int (nI 0))]) (by rfl) (by rfl) ?_
  exact L_2 (L) 0 (by omega) (by rfl)
end ZM5
