section ZM6
def z_oi : Option Nat → Int32
  | none => -1
  | some b => nI b
def s_into (S : zS) (w c : Nat) (k : Int32) : Int32 := if s_isTunnel S w c = 0 then (if s_isRock S w c = 0 then (if 0 < k then (s_workLeft S w c + k - 1) / k else -1) else -1) else 1
def z_closer (S : zS) (c : Nat) : Option Nat → Option Nat
  | none => some c
  | some b => if S 2 4 c < S 2 4 b then some c else some b
def s_near1 (S : zS) (c : Nat) (q : Option Nat) : Option Nat := if S 2 5 c = 0 then (if S 2 4 c < 0 then q else z_closer S c q) else q
def s_nearN (S : zS) : Nat → Option Nat
  | 0 => none
  | c + 1 => s_near1 S c (s_nearN S c)
def s_nw1 (S : zS) (w c : Nat) (q : Option Nat) : Option Nat := if 0 < S w 1 c then (if S 2 4 c < 0 then q else z_closer S c q) else q
def s_nwN (S : zS) (w : Nat) : Nat → Option Nat
  | 0 => none
  | c + 1 => s_nw1 S w c (s_nwN S w c)
theorem z_closer_lt {S : zS} {c : Nat} {q : Option Nat} (h : ∀ b, q = some b → b < c) : ∀ b, z_closer S c q = some b → b < c + 1 := by
  intro b hb
  cases q with
  | none => cases hb; omega
  | some b' =>
    have h' := h b' rfl
    have hb : (if S 2 4 c < S 2 4 b' then some c else some b') = some b := hb
    split at hb
    · cases hb; omega
    · cases hb; omega
theorem s_nearN_lt {S : zS} : ∀ i b, s_nearN S i = some b → b < i
  | 0, _, h => by cases h
  | c + 1, b, h => by
    have ih := s_nearN_lt (S := S) c
    have h : s_near1 S c (s_nearN S c) = some b := h
    unfold s_near1 at h
    split at h
    · split at h
      · have := ih b h; omega
      · exact z_closer_lt ih b h
    · have := ih b h; omega
theorem s_nwN_lt {S : zS} {w : Nat} : ∀ i b, s_nwN S w i = some b → b < i
  | 0, _, h => by cases h
  | c + 1, b, h => by
    have ih := s_nwN_lt (S := S) (w := w) c
    have h : s_nw1 S w c (s_nwN S w c) = some b := h
    unfold s_nw1 at h
    split at h
    · split at h
      · have := ih b h; omega
      · exact z_closer_lt ih b h
    · have := ih b h; omega
def s_relax (S : zS) (c m : Nat) (h : Int32) : zS := if h = -1 then S else if S 2 4 m < 0 then z_up S 2 4 m (S 2 4 c + h) else if S 2 4 c + h < S 2 4 m then z_up S 2 4 m (S 2 4 c + h) else S
def s_step1 (S : zS) (w c : Nat) (k : Int32) (d : Nat) : zS := if nbb c d = true then s_relax S c (nbn c d) (s_into S w (nbn c d) k) else S
def s_stepN (S : zS) (w c : Nat) (k : Int32) : Nat → zS
  | 0 => S
  | d + 1 => s_step1 (s_stepN S w c k d) w c k d
def s_init (S : zS) (st : Nat) : Nat → zS
  | 0 => S
  | c + 1 => z_up (z_up (s_init S st c) 2 4 c (if c = st then 0 else -1)) 2 5 c 0
def s_srch1 (T : zS) (w : Nat) (k : Int32) : Option Nat → zS
  | none => T
  | some c => s_stepN (z_up T 2 5 c 1) w c k 4
def s_srchN (S : zS) (w st : Nat) (k : Int32) : Nat → zS
  | 0 => s_init S st 144
  | i + 1 => s_srch1 (s_srchN S w st k i) w k (s_nearN (s_srchN S w st k i) 144)
theorem s_srchN_end {S : zS} {w st : Nat} {k : Int32} {i : Nat} (h : s_nearN (s_srchN S w st k i) 144 = none) : ∀ j, s_srchN S w st k (i + j) = s_srchN S w st k i
  | 0 => rfl
  | j + 1 => by
    show s_srch1 (s_srchN S w st k (i + j)) w k (s_nearN (s_srchN S w st k (i + j)) 144) = _
    rw [s_srchN_end h j, h]; rfl
def s_srch (S : zS) (w st : Nat) (k : Int32) : zS := s_srchN S w st k 144
/-- only the ways' own rows have changed -/
def wk (S S' : zS) : Prop := ∀ w k i, ¬ (w = 2 ∧ (k = 4 ∨ k = 5)) → S' w k i = S w k i
theorem wk.rf {S : zS} : wk S S := fun _ _ _ _ => rfl
theorem wk.up {S S1 : zS} (h : wk S S1) {k : Nat} (hk : k = 4 ∨ k = 5) (i : Nat) (x : Int32) : wk S (z_up S1 2 k i x) := fun w' k' i' q => (z_up_ne S1 x (by omega)).trans (h w' k' i' q)
theorem wk_relax {S S1 : zS} (h : wk S S1) (c m : Nat) (x : Int32) : wk S (s_relax S1 c m x) := by
  unfold s_relax
  split
  · exact h
  · split
    · exact h.up (Or.inl rfl) _ _
    · split
      · exact h.up (Or.inl rfl) _ _
      · exact h
theorem wk_stepN {S S1 : zS} (h : wk S S1) (w c : Nat) (k : Int32) : ∀ d, wk S (s_stepN S1 w c k d)
  | 0 => h
  | d + 1 => by
    show wk S (s_step1 (s_stepN S1 w c k d) w c k d)
    unfold s_step1
    split
    · exact wk_relax (wk_stepN h w c k d) _ _ _
    · exact wk_stepN h w c k d
theorem wk_init {S S1 : zS} (h : wk S S1) (st : Nat) : ∀ c, wk S (s_init S1 st c)
  | 0 => h
  | c + 1 => ((wk_init h st c).up (Or.inl rfl) _ _).up (Or.inr rfl) _ _
theorem wk_srchN {S S1 : zS} (h : wk S S1) (w st : Nat) (k : Int32) : ∀ i, wk S (s_srchN S1 w st k i)
  | 0 => wk_init h st 144
  | i + 1 => by
    show wk S (s_srch1 (s_srchN S1 w st k i) w k (s_nearN (s_srchN S1 w st k i) 144))
    cases s_nearN (s_srchN S1 w st k i) 144 with
    | none => exact wk_srchN h w st k i
    | some c => exact wk_stepN ((wk_srchN h w st k i).up (Or.inr rfl) _ _) w c k 4

set_option maxRecDepth 100000 in
set_option maxHeartbeats 4000000 in
/-- X4_hoursInto -/
theorem c_X4_hoursInto (l : Launch) (G : va_G) (cI cZ cT : ClassId) (o : Nat) (S : zS) (w c : Nat) (k : Int32) (hw : w < 2) (hc : c < 144) : zI l G cI cZ cT o yX4_hoursInto wsX4_hoursInto { frames := 1, cells := 0, slots := 0, locals := 21 } [.ref (o + pG w), .int (nI c), .int k] S (fun r u => r = s_into S w c k ∧ u = S) := by
  refine z_ofI (cc := cX4_hoursInto) (maxL := 3) (by decide) rfl (by simp [lg_sl, Value.category]) ?_
  intro p9 e9 s9 m9 a9 b9 h9 c9 X
  refine v_lo [0, 1, 2] (lo' := [(0, .ref (o + pG w)), (1, .int (nI c)), (2, .int k)]) rfl ?_
  refine v_aload_n X 0 dX4_hoursInto_0 rfl rfl ?_
  refine v_iload_n X 1 dX4_hoursInto_1 rfl rfl ?_
  refine v_callVIf X [.int (nI c)] (pG w) (pG_lt (by omega)) (c_X0_isTunnel l G cI cZ cT o S w c (by omega) (by omega)) (zc_G cI cZ cT o _ (by omega)) (C := RX0) (T := TX0) (N := 12) rfl 1 rfl gX4_hoursInto_X0_isTunnel rfl ⟨rfl, rfl⟩ hy_X0_isTunnel_V ⟨Nat.le_of_ble_eq_true rfl, Nat.le_of_ble_eq_true rfl⟩ rfl (Nat.le_of_ble_eq_true rfl) dX4_hoursInto_2 ?_
  refine v_if_eq X (tgt := 10) dX4_hoursInto_5 (by decide) (fun c_5 => ?_) (fun c_5 => ?_)
  ·
    refine v_aload_n X 0 dX4_hoursInto_10 rfl rfl ?_
    refine v_iload_n X 1 dX4_hoursInto_11 rfl rfl ?_
    refine v_callVIf X [.int (nI c)] (pG w) (pG_lt (by omega)) (c_X0_isRock l G cI cZ cT o S w c (by omega) (by omega)) (zc_G cI cZ cT o _ (by omega)) (C := RX0) (T := TX0) (N := 12) rfl 1 rfl gX4_hoursInto_X0_isRock rfl ⟨rfl, rfl⟩ hy_X0_isRock_V ⟨Nat.le_of_ble_eq_true rfl, Nat.le_of_ble_eq_true rfl⟩ rfl (Nat.le_of_ble_eq_true rfl) dX4_hoursInto_12 ?_
    refine v_if_ne X (tgt := 22) dX4_hoursInto_15 (by decide) (fun c_15 => ?_) (fun c_15 => ?_)
    ·
      refine v_iconst (v := -1) X (by decide) dX4_hoursInto_22 ?_
      exact v_iret X dX4_hoursInto_23 (by simp [s_into, c_5, c_15])
    ·
      refine v_iload_n X 2 dX4_hoursInto_18 rfl rfl ?_
      refine v_if_gt X (tgt := 24) dX4_hoursInto_19 (by decide) (fun c_19 => ?_) (fun c_19 => ?_)
      ·
        refine v_aload_n X 0 dX4_hoursInto_24 rfl rfl ?_
        refine v_iload_n X 1 dX4_hoursInto_25 rfl rfl ?_
        refine v_callVIf X [.int (nI c)] (pG w) (pG_lt (by omega)) (c_X0_workLeft l G cI cZ cT o S w c (by omega) (by omega)) (zc_G cI cZ cT o _ (by omega)) (C := RX0) (T := TX0) (N := 12) rfl 1 rfl gX4_hoursInto_X0_workLeft rfl ⟨rfl, rfl⟩ hy_X0_workLeft_V ⟨Nat.le_of_ble_eq_true rfl, Nat.le_of_ble_eq_true rfl⟩ rfl (Nat.le_of_ble_eq_true rfl) dX4_hoursInto_26 ?_
        refine v_iload_n X 2 dX4_hoursInto_29 rfl rfl ?_
        refine v_iadd X dX4_hoursInto_30 ?_
        refine v_iconst (v := 1) X (by decide) dX4_hoursInto_31 ?_
        refine v_isub X dX4_hoursInto_32 ?_
        refine v_iload_n X 2 dX4_hoursInto_33 rfl rfl ?_
        refine v_idiv X (fun q => by rw [q] at c_19; exact absurd c_19 (by decide)) dX4_hoursInto_34 ?_
        exact v_iret X dX4_hoursInto_35 (by simp [s_into, c_5, c_15, c_19])
      ·
        refine v_iconst (v := -1) X (by decide) dX4_hoursInto_22 ?_
        exact v_iret X dX4_hoursInto_23 (by simp [s_into, c_5, c_15, c_19])
  ·
    refine v_iconst (v := 1) X (by decide) dX4_hoursInto_8 ?_
    exact v_iret X dX4_hoursInto_9 (by simp [s_into, c_5])
theorem hi_X4_nearestUnsettled_X4 : ∀ w ∈ wsX40, w ∈ wsX4_nearestUnsettled := by decide +kernel
theorem hl_X4_nearestUnsettled_15 : Cond.fieldLink RX4 15 RX4 (TX4 1).2.1 (TX4 1).2.2.1 ∈ wsX4_nearestUnsettled := by decide +kernel
theorem hl_X4_nearestUnsettled_9 : Cond.fieldLink RX4 9 RX4 (TX4 0).2.1 (TX4 0).2.2.1 ∈ wsX4_nearestUnsettled := by decide +kernel
set_option maxRecDepth 100000 in
set_option maxHeartbeats 4000000 in
/-- X4_nearestUnsettled -/
theorem c_X4_nearestUnsettled (l : Launch) (G : va_G) (cI cZ cT : ClassId) (o : Nat) (S : zS)  : zI l G cI cZ cT o yX4_nearestUnsettled wsX4_nearestUnsettled { frames := 0, cells := 0, slots := 0, locals := 0 } [.ref (o + 94)] S (fun r u => r = z_oi (s_nearN S 144) ∧ u = S) := by
  refine z_ofI (cc := cX4_nearestUnsettled) (maxL := 3) (by decide) rfl (by simp [lg_sl, Value.category]) ?_
  intro p9 e9 s9 m9 a9 b9 h9 c9 X
  refine v_lo [0] (lo' := [(0, .ref (o + 94))]) rfl ?_
  refine v_iconst (v := -1) X (by decide) dX4_nearestUnsettled_0 ?_
  refine v_istore_n (lo' := [(1, .int (-1)), (0, .ref (o + 94))]) X dX4_nearestUnsettled_1 rfl (by decide) rfl ?_
  refine v_iconst (v := 0) X (by decide) dX4_nearestUnsettled_2 ?_
  refine v_istore_n (lo' := [(2, .int 0), (1, .int (-1)), (0, .ref (o + 94))]) X dX4_nearestUnsettled_3 rfl (by decide) rfl ?_
  have L_4 : ∀ (d i : Nat), i + d = 144 → z_V p9 l e9 (headSpec wsX4_nearestUnsettled { frames := 0, cells := 0, slots := 0, locals := 0 }).room s9 m9 a9 b9 h9 c9 (MQ b9 (va_Qi (fun r u => r = z_oi (s_nearN S 144) ∧ u = S) (z_B G cI cZ cT o) (z_A o s9.heap.size)) a9 s9 0 0 (z_A o s9.heap.size)) G cI cZ cT o 3 (S) 4 [(0, .ref (o + 94)), (1, .int (z_oi (s_nearN S i))), (2, .int (nI i))] [] := by
    intro d
    induction d with
    | zero =>
      intro i hi_4
      have he_4 : i = 144 := by omega
      rw [he_4]
      refine v_iload_n X 2 dX4_nearestUnsettled_4 rfl rfl ?_
      refine v_sipush (v := 144) X (by decide) dX4_nearestUnsettled_5 ?_
      refine v_ncmp_ge X 144 144 rfl rfl (by omega) (by omega) (tgt := 56) dX4_nearestUnsettled_8 (by decide) (fun c_8 => ?_) (fun c_8 => ?_)
      ·
        refine v_iload_n X 1 dX4_nearestUnsettled_56 rfl rfl ?_
        exact v_iret X dX4_nearestUnsettled_57 (by exact ⟨rfl, rfl⟩)
      ·
        exact absurd c_8 (by omega)
    | succ d ih_4 =>
      intro i hi_4
      refine v_iload_n X 2 dX4_nearestUnsettled_4 rfl rfl ?_
      refine v_sipush (v := 144) X (by decide) dX4_nearestUnsettled_5 ?_
      refine v_ncmp_ge X i 144 rfl rfl (by omega) (by omega) (tgt := 56) dX4_nearestUnsettled_8 (by decide) (fun c_8 => ?_) (fun c_8 => ?_)
      ·
        exact absurd c_8 (by omega)
      ·
        refine v_aload_n X 0 dX4_nearestUnsettled_11 rfl rfl ?_
        refine v_getW X 1 (by decide) hi_X4_nearestUnsettled_X4 hl_X4_nearestUnsettled_15 rfl (v := .ref (o + 96)) rfl dX4_nearestUnsettled_12 ?_
        refine v_iload_n X 2 dX4_nearestUnsettled_15 rfl rfl ?_
        refine v_bald X i rfl (by omega) dX4_nearestUnsettled_16 ?_
        refine v_if_ne X (tgt := 50) dX4_nearestUnsettled_17 (by decide) (fun c_17 => ?_) (fun c_17 => ?_)
        ·
          refine v_iinc (v := nI (i + 1)) (lo' := [(2, .int (nI (i + 1))), (0, .ref (o + 94)), (1, .int (z_oi (s_nearN S i)))]) X 2 dX4_nearestUnsettled_50 rfl (nI_1 i) (by decide) rfl ?_
          refine v_goto (tgt := 4) X dX4_nearestUnsettled_53 (by decide) ?_
          refine v_lo [1, 2, 0] (lo' := [(0, .ref (o + 94)), (1, .int (z_oi (s_nearN S i))), (2, .int (nI (i + 1)))]) rfl ?_
          refine v_eq (S' := S) (lo' := [(0, .ref (o + 94)), (1, .int (z_oi (s_nearN S (i + 1)))), (2, .int (nI (i + 1)))]) (by rfl) (by simp [s_nearN, s_near1, z_closer, z_oi, c_8, c_17]) ?_
          exact ih_4 (i + 1) (by omega)
        ·
          refine v_aload_n X 0 dX4_nearestUnsettled_20 rfl rfl ?_
          refine v_getW X 0 (by decide) hi_X4_nearestUnsettled_X4 hl_X4_nearestUnsettled_9 rfl (v := .ref (o + 95)) rfl dX4_nearestUnsettled_21 ?_
          refine v_iload_n X 2 dX4_nearestUnsettled_24 rfl rfl ?_
          refine v_ald X 95 (by decide) (zc_95 cI cZ cT o _) i rfl (by omega) (by decide) dX4_nearestUnsettled_25 ?_
          refine v_if_lt X (tgt := 50) dX4_nearestUnsettled_26 (by decide) (fun c_26 => ?_) (fun c_26 => ?_)
          ·
            refine v_iinc (v := nI (i + 1)) (lo' := [(2, .int (nI (i + 1))), (0, .ref (o + 94)), (1, .int (z_oi (s_nearN S i)))]) X 2 dX4_nearestUnsettled_50 rfl (nI_1 i) (by decide) rfl ?_
            refine v_goto (tgt := 4) X dX4_nearestUnsettled_53 (by decide) ?_
            refine v_lo [1, 2, 0] (lo' := [(0, .ref (o + 94)), (1, .int (z_oi (s_nearN S i))), (2, .int (nI (i + 1)))]) rfl ?_
            refine v_eq (S' := S) (lo' := [(0, .ref (o + 94)), (1, .int (z_oi (s_nearN S (i + 1)))), (2, .int (nI (i + 1)))]) (by rfl) (by simp [s_nearN, s_near1, z_closer, z_oi, c_8, c_17, c_26]) ?_
            exact ih_4 (i + 1) (by omega)
          ·
            rcases (show ∃ q9, q9 = s_nearN S i from ⟨_, rfl⟩) with ⟨_ | b, hbq⟩
            ·
              have hbq := hbq.symm
              refine v_iload_n X 1 dX4_nearestUnsettled_29 rfl rfl ?_
              refine v_top (y := -1) (by first | rfl | (rw [hbq]; rfl)) ?_
              refine v_if_lt X (tgt := 48) dX4_nearestUnsettled_30 (by decide) (fun _ => ?_) (fun q => absurd q (by decide))
              refine v_iload_n X 2 dX4_nearestUnsettled_48 rfl rfl ?_
              refine v_istore_n (lo' := [(1, .int (nI i)), (0, .ref (o + 94)), (2, .int (nI i))]) X dX4_nearestUnsettled_49 rfl (by decide) rfl ?_
              refine v_iinc (v := nI (i + 1)) (lo' := [(2, .int (nI (i + 1))), (1, .int (nI i)), (0, .ref (o + 94))]) X 2 dX4_nearestUnsettled_50 rfl (nI_1 i) (by decide) rfl ?_
              refine v_goto (tgt := 4) X dX4_nearestUnsettled_53 (by decide) ?_
              refine v_lo [2, 1, 0] (lo' := [(0, .ref (o + 94)), (1, .int (nI i)), (2, .int (nI (i + 1)))]) rfl ?_
              refine v_eq (S' := S) (lo' := [(0, .ref (o + 94)), (1, .int (z_oi (s_nearN S (i + 1)))), (2, .int (nI (i + 1)))]) (by rfl) (by simp [s_nearN, s_near1, z_closer, z_oi, c_8, c_17, c_26, hbq]) ?_
              exact ih_4 (i + 1) (by omega)
            ·
              have hbq := hbq.symm
              have hb9 := s_nearN_lt _ b hbq
              refine v_iload_n X 1 dX4_nearestUnsettled_29 rfl rfl ?_
              refine v_top (y := nI b) (by first | rfl | (rw [hbq]; rfl)) ?_
              refine v_if_lt X (tgt := 48) dX4_nearestUnsettled_30 (by decide) (fun q => absurd q (nI_pos (by omega))) (fun _ => ?_)
              refine v_aload_n X 0 dX4_nearestUnsettled_33 rfl rfl ?_
              refine v_getW X 0 (by decide) hi_X4_nearestUnsettled_X4 hl_X4_nearestUnsettled_9 rfl (v := .ref (o + 95)) rfl dX4_nearestUnsettled_34 ?_
              refine v_iload_n X 2 dX4_nearestUnsettled_37 rfl rfl ?_
              refine v_ald X 95 (by decide) (zc_95 cI cZ cT o _) i rfl (by omega) (by decide) dX4_nearestUnsettled_38 ?_
              refine v_aload_n X 0 dX4_nearestUnsettled_39 rfl rfl ?_
              refine v_getW X 0 (by decide) hi_X4_nearestUnsettled_X4 hl_X4_nearestUnsettled_9 rfl (v := .ref (o + 95)) rfl dX4_nearestUnsettled_40 ?_
              refine v_iload_n X 1 dX4_nearestUnsettled_43 rfl rfl ?_
              refine v_top (y := nI b) (by first | rfl | (rw [hbq]; rfl)) ?_
              refine v_ald X 95 (by decide) (zc_95 cI cZ cT o _) b rfl (by omega) (by decide) dX4_nearestUnsettled_44 ?_
              refine v_icmp_ge X (tgt := 50) dX4_nearestUnsettled_45 (by decide) (fun c_45 => ?_) (fun c_45 => ?_)
              ·
                refine v_iinc (v := nI (i + 1)) (lo' := [(2, .int (nI (i + 1))), (0, .ref (o + 94)), (1, .int (z_oi (s_nearN S i)))]) X 2 dX4_nearestUnsettled_50 rfl (nI_1 i) (by decide) rfl ?_
                refine v_goto (tgt := 4) X dX4_nearestUnsettled_53 (by decide) ?_
                refine v_lo [1, 2, 0] (lo' := [(0, .ref (o + 94)), (1, .int (z_oi (s_nearN S i))), (2, .int (nI (i + 1)))]) rfl ?_
                refine v_eq (S' := S) (lo' := [(0, .ref (o + 94)), (1, .int (z_oi (s_nearN S (i + 1)))), (2, .int (nI (i + 1)))]) (by rfl) (by simp [s_nearN, s_near1, z_closer, z_oi, c_8, c_17, c_26, hbq, c_45]) ?_
                exact ih_4 (i + 1) (by omega)
              ·
                refine v_iload_n X 2 dX4_nearestUnsettled_48 rfl rfl ?_
                refine v_istore_n (lo' := [(1, .int (nI i)), (0, .ref (o + 94)), (2, .int (nI i))]) X dX4_nearestUnsettled_49 rfl (by decide) rfl ?_
                refine v_iinc (v := nI (i + 1)) (lo' := [(2, .int (nI (i + 1))), (1, .int (nI i)), (0, .ref (o + 94))]) X 2 dX4_nearestUnsettled_50 rfl (nI_1 i) (by decide) rfl ?_
                refine v_goto (tgt := 4) X dX4_nearestUnsettled_53 (by decide) ?_
                refine v_lo [2, 1, 0] (lo' := [(0, .ref (o + 94)), (1, .int (nI i)), (2, .int (nI (i + 1)))]) rfl ?_
                refine v_eq (S' := S) (lo' := [(0, .ref (o + 94)), (1, .int (z_oi (s_nearN S (i + 1)))), (2, .int (nI (i + 1)))]) (by rfl) (by simp [s_nearN, s_near1, z_closer, z_oi, c_8, c_17, c_26, hbq, c_45]) ?_
                exact ih_4 (i + 1) (by omega)
  refine v_lo [2, 1, 0] (lo' := [(0, .ref (o + 94)), (1, .int (-1)), (2, .int 0)]) rfl ?_
  refine v_eq (S' := S) (lo' := [(0, .ref (o + 94)), (1, .int (z_oi (s_nearN S 0))), (2, .int (nI 0))]) (by rfl) (by rfl) ?_
  exact L_4 (144) 0 (by omega)
theorem hi_X4_nearestWall_X0 : ∀ w ∈ wsX00, w ∈ wsX4_nearestWall := by decide +kernel
theorem hl_X4_nearestWall_48 : Cond.fieldLink RX4 48 RX0 (TX0 1).2.1 (TX0 1).2.2.1 ∈ wsX4_nearestWall := by decide +kernel
theorem hi_X4_nearestWall_X4 : ∀ w ∈ wsX40, w ∈ wsX4_nearestWall := by decide +kernel
theorem hl_X4_nearestWall_9 : Cond.fieldLink RX4 9 RX4 (TX4 0).2.1 (TX4 0).2.2.1 ∈ wsX4_nearestWall := by decide +kernel
set_option maxRecDepth 100000 in
set_option maxHeartbeats 4000000 in
/-- X4_nearestWall -/
theorem c_X4_nearestWall (l : Launch) (G : va_G) (cI cZ cT : ClassId) (o : Nat) (S : zS) (w : Nat) (hw : w < 2) : zI l G cI cZ cT o yX4_nearestWall wsX4_nearestWall { frames := 0, cells := 0, slots := 0, locals := 0 } [.ref (o + 94), .ref (o + pG w)] S (fun r u => r = z_oi (s_nwN S w 144) ∧ u = S) := by
  refine z_ofI (cc := cX4_nearestWall) (maxL := 4) (by decide) rfl (by simp [lg_sl, Value.category]) ?_
  intro p9 e9 s9 m9 a9 b9 h9 c9 X
  refine v_lo [0, 1] (lo' := [(0, .ref (o + 94)), (1, .ref (o + pG w))]) rfl ?_
  refine v_iconst (v := -1) X (by decide) dX4_nearestWall_0 ?_
  refine v_istore_n (lo' := [(2, .int (-1)), (0, .ref (o + 94)), (1, .ref (o + pG w))]) X dX4_nearestWall_1 rfl (by decide) rfl ?_
  refine v_iconst (v := 0) X (by decide) dX4_nearestWall_2 ?_
  refine v_istore_n (lo' := [(3, .int 0), (2, .int (-1)), (0, .ref (o + 94)), (1, .ref (o + pG w))]) X dX4_nearestWall_3 rfl (by decide) rfl ?_
  have L_4 : ∀ (d i : Nat), i + d = 144 → z_V p9 l e9 (headSpec wsX4_nearestWall { frames := 0, cells := 0, slots := 0, locals := 0 }).room s9 m9 a9 b9 h9 c9 (MQ b9 (va_Qi (fun r u => r = z_oi (s_nwN S w 144) ∧ u = S) (z_B G cI cZ cT o) (z_A o s9.heap.size)) a9 s9 0 0 (z_A o s9.heap.size)) G cI cZ cT o 4 (S) 4 [(0, .ref (o + 94)), (1, .ref (o + pG w)), (2, .int (z_oi (s_nwN S w i))), (3, .int (nI i))] [] := by
    intro d
    induction d with
    | zero =>
      intro i hi_4
      have he_4 : i = 144 := by omega
      rw [he_4]
      refine v_iload_n X 3 dX4_nearestWall_4 rfl rfl ?_
      refine v_sipush (v := 144) X (by decide) dX4_nearestWall_5 ?_
      refine v_ncmp_ge X 144 144 rfl rfl (by omega) (by omega) (tgt := 56) dX4_nearestWall_8 (by decide) (fun c_8 => ?_) (fun c_8 => ?_)
      ·
        refine v_iload_n X 2 dX4_nearestWall_56 rfl rfl ?_
        exact v_iret X dX4_nearestWall_57 (by exact ⟨rfl, rfl⟩)
      ·
        exact absurd c_8 (by omega)
    | succ d ih_4 =>
      intro i hi_4
      refine v_iload_n X 3 dX4_nearestWall_4 rfl rfl ?_
      refine v_sipush (v := 144) X (by decide) dX4_nearestWall_5 ?_
      refine v_ncmp_ge X i 144 rfl rfl (by omega) (by omega) (tgt := 56) dX4_nearestWall_8 (by decide) (fun c_8 => ?_) (fun c_8 => ?_)
      ·
        exact absurd c_8 (by omega)
      ·
        refine v_aload_n X 1 dX4_nearestWall_11 rfl rfl ?_
        refine v_getG X (by omega) 1 (by decide) hi_X4_nearestWall_X0 hl_X4_nearestWall_48 rfl (v := .ref (o + pA w 1)) rfl dX4_nearestWall_12 ?_
        refine v_iload_n X 3 dX4_nearestWall_15 rfl rfl ?_
        refine v_ialdA X (w := w) (by omega) 1 (by omega) i rfl (by omega) dX4_nearestWall_16 ?_
        refine v_if_le X (tgt := 50) dX4_nearestWall_17 (by decide) (fun c_17 => ?_) (fun c_17 => ?_)
        ·
          refine v_iinc (v := nI (i + 1)) (lo' := [(3, .int (nI (i + 1))), (0, .ref (o + 94)), (1, .ref (o + pG w)), (2, .int (z_oi (s_nwN S w i)))]) X 3 dX4_nearestWall_50 rfl (nI_1 i) (by decide) rfl ?_
          refine v_goto (tgt := 4) X dX4_nearestWall_53 (by decide) ?_
          refine v_lo [1, 2, 3, 0] (lo' := [(0, .ref (o + 94)), (1, .ref (o + pG w)), (2, .int (z_oi (s_nwN S w i))), (3, .int (nI (i + 1)))]) rfl ?_
          refine v_eq (S' := S) (lo' := [(0, .ref (o + 94)), (1, .ref (o + pG w)), (2, .int (z_oi (s_nwN S w (i + 1)))), (3, .int (nI (i + 1)))]) (by rfl) (by simp [s_nwN, s_nw1, z_closer, z_oi, c_8, c_17]) ?_
          exact ih_4 (i + 1) (by omega)
        ·
          refine v_aload_n X 0 dX4_nearestWall_20 rfl rfl ?_
          refine v_getW X 0 (by decide) hi_X4_nearestWall_X4 hl_X4_nearestWall_9 rfl (v := .ref (o + 95)) rfl dX4_nearestWall_21 ?_
          refine v_iload_n X 3 dX4_nearestWall_24 rfl rfl ?_
          refine v_ald X 95 (by decide) (zc_95 cI cZ cT o _) i rfl (by omega) (by decide) dX4_nearestWall_25 ?_
          refine v_if_lt X (tgt := 50) dX4_nearestWall_26 (by decide) (fun c_26 => ?_) (fun c_26 => ?_)
          ·
            refine v_iinc (v := nI (i + 1)) (lo' := [(3, .int (nI (i + 1))), (0, .ref (o + 94)), (1, .ref (o + pG w)), (2, .int (z_oi (s_nwN S w i)))]) X 3 dX4_nearestWall_50 rfl (nI_1 i) (by decide) rfl ?_
            refine v_goto (tgt := 4) X dX4_nearestWall_53 (by decide) ?_
            refine v_lo [1, 2, 3, 0] (lo' := [(0, .ref (o + 94)), (1, .ref (o + pG w)), (2, .int (z_oi (s_nwN S w i))), (3, .int (nI (i + 1)))]) rfl ?_
            refine v_eq (S' := S) (lo' := [(0, .ref (o + 94)), (1, .ref (o + pG w)), (2, .int (z_oi (s_nwN S w (i + 1)))), (3, .int (nI (i + 1)))]) (by rfl) (by simp [s_nwN, s_nw1, z_closer, z_oi, c_8, c_17, c_26]) ?_
            exact ih_4 (i + 1) (by omega)
          ·
            rcases (show ∃ q9, q9 = s_nwN S w i from ⟨_, rfl⟩) with ⟨_ | b, hbq⟩
            ·
              have hbq := hbq.symm
              refine v_iload_n X 2 dX4_nearestWall_29 rfl rfl ?_
              refine v_top (y := -1) (by first | rfl | (rw [hbq]; rfl)) ?_
              refine v_if_lt X (tgt := 48) dX4_nearestWall_30 (by decide) (fun _ => ?_) (fun q => absurd q (by decide))
              refine v_iload_n X 3 dX4_nearestWall_48 rfl rfl ?_
              refine v_istore_n (lo' := [(2, .int (nI i)), (0, .ref (o + 94)), (1, .ref (o + pG w)), (3, .int (nI i))]) X dX4_nearestWall_49 rfl (by decide) rfl ?_
              refine v_iinc (v := nI (i + 1)) (lo' := [(3, .int (nI (i + 1))), (2, .int (nI i)), (0, .ref (o + 94)), (1, .ref (o + pG w))]) X 3 dX4_nearestWall_50 rfl (nI_1 i) (by decide) rfl ?_
              refine v_goto (tgt := 4) X dX4_nearestWall_53 (by decide) ?_
              refine v_lo [2, 3, 1, 0] (lo' := [(0, .ref (o + 94)), (1, .ref (o + pG w)), (2, .int (nI i)), (3, .int (nI (i + 1)))]) rfl ?_
              refine v_eq (S' := S) (lo' := [(0, .ref (o + 94)), (1, .ref (o + pG w)), (2, .int (z_oi (s_nwN S w (i + 1)))), (3, .int (nI (i + 1)))]) (by rfl) (by simp [s_nwN, s_nw1, z_closer, z_oi, c_8, c_17, c_26, hbq]) ?_
              exact ih_4 (i + 1) (by omega)
            ·
              have hbq := hbq.symm
              have hb9 := s_nwN_lt _ b hbq
              refine v_iload_n X 2 dX4_nearestWall_29 rfl rfl ?_
              refine v_top (y := nI b) (by first | rfl | (rw [hbq]; rfl)) ?_
              refine v_if_lt X (tgt := 48) dX4_nearestWall_30 (by decide) (fun q => absurd q (nI_pos (by omega))) (fun _ => ?_)
              refine v_aload_n X 0 dX4_nearestWall_33 rfl rfl ?_
              refine v_getW X 0 (by decide) hi_X4_nearestWall_X4 hl_X4_nearestWall_9 rfl (v := .ref (o + 95)) rfl dX4_nearestWall_34 ?_
              refine v_iload_n X 3 dX4_nearestWall_37 rfl rfl ?_
              refine v_ald X 95 (by decide) (zc_95 cI cZ cT o _) i rfl (by omega) (by decide) dX4_nearestWall_38 ?_
              refine v_aload_n X 0 dX4_nearestWall_39 rfl rfl ?_
              refine v_getW X 0 (by decide) hi_X4_nearestWall_X4 hl_X4_nearestWall_9 rfl (v := .ref (o + 95)) rfl dX4_nearestWall_40 ?_
              refine v_iload_n X 2 dX4_nearestWall_43 rfl rfl ?_
              refine v_top (y := nI b) (by first | rfl | (rw [hbq]; rfl)) ?_
              refine v_ald X 95 (by decide) (zc_95 cI cZ cT o _) b rfl (by omega) (by decide) dX4_nearestWall_44 ?_
              refine v_icmp_ge X (tgt := 50) dX4_nearestWall_45 (by decide) (fun c_45 => ?_) (fun c_45 => ?_)
              ·
                refine v_iinc (v := nI (i + 1)) (lo' := [(3, .int (nI (i + 1))), (0, .ref (o + 94)), (1, .ref (o + pG w)), (2, .int (z_oi (s_nwN S w i)))]) X 3 dX4_nearestWall_50 rfl (nI_1 i) (by decide) rfl ?_
                refine v_goto (tgt := 4) X dX4_nearestWall_53 (by decide) ?_
                refine v_lo [1, 2, 3, 0] (lo' := [(0, .ref (o + 94)), (1, .ref (o + pG w)), (2, .int (z_oi (s_nwN S w i))), (3, .int (nI (i + 1)))]) rfl ?_
                refine v_eq (S' := S) (lo' := [(0, .ref (o + 94)), (1, .ref (o + pG w)), (2, .int (z_oi (s_nwN S w (i + 1)))), (3, .int (nI (i + 1)))]) (by rfl) (by simp [s_nwN, s_nw1, z_closer, z_oi, c_8, c_17, c_26, hbq, c_45]) ?_
                exact ih_4 (i + 1) (by omega)
              ·
                refine v_iload_n X 3 dX4_nearestWall_48 rfl rfl ?_
                refine v_istore_n (lo' := [(2, .int (nI i)), (0, .ref (o + 94)), (1, .ref (o + pG w)), (3, .int (nI i))]) X dX4_nearestWall_49 rfl (by decide) rfl ?_
                refine v_iinc (v := nI (i + 1)) (lo' := [(3, .int (nI (i + 1))), (2, .int (nI i)), (0, .ref (o + 94)), (1, .ref (o + pG w))]) X 3 dX4_nearestWall_50 rfl (nI_1 i) (by decide) rfl ?_
                refine v_goto (tgt := 4) X dX4_nearestWall_53 (by decide) ?_
                refine v_lo [2, 3, 1, 0] (lo' := [(0, .ref (o + 94)), (1, .ref (o + pG w)), (2, .int (nI i)), (3, .int (nI (i + 1)))]) rfl ?_
                refine v_eq (S' := S) (lo' := [(0, .ref (o + 94)), (1, .ref (o + pG w)), (2, .int (z_oi (s_nwN S w (i + 1)))), (3, .int (nI (i + 1)))]) (by rfl) (by simp [s_nwN, s_nw1, z_closer, z_oi, c_8, c_17, c_26, hbq, c_45]) ?_
                exact ih_4 (i + 1) (by omega)
  refine v_lo [2, 3, 1, 0] (lo' := [(0, .ref (o + 94)), (1, .ref (o + pG w)), (2, .int (-1)), (3, .int 0)]) rfl ?_
  refine v_eq (S' := S) (lo' := [(0, .ref (o + 94)), (1, .ref (o + pG w)), (2, .int (z_oi (s_nwN S w 0))), (3, .int (nI 0))]) (by rfl) (by rfl) ?_
  exact L_4 (144) 0 (by omega)
theorem hw_X4_stepOnFrom_st_X5_neighbour : Cond.static yX5_neighbour ∈ wsX4_stepOnFrom := by decide +kernel
theorem hw_X4_stepOnFrom_in_X5 : Cond.initialized yX5_neighbour.cls ∈ wsX4_stepOnFrom := by decide +kernel
theorem hn_X4_27 : Cond.methodLinkNest RX4 27 yX5_neighbour RX5 ∈ z_nest := by simp [z_nest]
theorem hy_X4_hoursInto_S : yX4_hoursInto.cls ≠ "java/lang/invoke/MethodHandle" ∧ yX4_hoursInto.cls ≠ "java/lang/invoke/VarHandle" ∧ (parseMethodDescriptor yX4_hoursInto.desc).map (fun d => d.parameters.length) = some 3 := by decide +kernel
theorem hi_X4_stepOnFrom_X4 : ∀ w ∈ wsX40, w ∈ wsX4_stepOnFrom := by decide +kernel
theorem hl_X4_stepOnFrom_9 : Cond.fieldLink RX4 9 RX4 (TX4 0).2.1 (TX4 0).2.2.1 ∈ wsX4_stepOnFrom := by decide +kernel
set_option maxRecDepth 100000 in
set_option maxHeartbeats 4000000 in
/-- X4_stepOnFrom -/
theorem c_X4_stepOnFrom (l : Launch) (G : va_G) (cI cZ cT : ClassId) (o : Nat) (S : zS) (w c : Nat) (k : Int32) (hw : w < 2) (hc : c < 144) : zU l G cI cZ cT o yX4_stepOnFrom wsX4_stepOnFrom { frames := 2, cells := 0, slots := 0, locals := 43 } [.ref (o + 94), .ref (o + pG w), .int (nI c), .int k] S (fun u => u = s_stepN S w c k 4) := by
  refine z_ofV (cc := cX4_stepOnFrom) (maxL := 7) (by decide) rfl (by simp [lg_sl, Value.category]) ?_
  intro p9 e9 s9 m9 a9 b9 h9 c9 X
  refine v_lo [0, 1, 2, 3] (lo' := [(0, .ref (o + 94)), (1, .ref (o + pG w)), (2, .int (nI c)), (3, .int k)]) rfl ?_
  refine v_iconst (v := 0) X (by decide) dX4_stepOnFrom_0 ?_
  refine v_istore (lo' := [(4, .int 0), (0, .ref (o + 94)), (1, .ref (o + pG w)), (2, .int (nI c)), (3, .int k)]) X dX4_stepOnFrom_1 (by decide) rfl ?_
  have L_3 : ∀ (d d9 : Nat), d9 + d = 4 → z_V p9 l e9 (headSpec wsX4_stepOnFrom { frames := 2, cells := 0, slots := 0, locals := 43 }).room s9 m9 a9 b9 h9 c9 (MQ b9 (va_Qv (fun u => u = s_stepN S w c k 4) (z_B G cI cZ cT o) (z_A o s9.heap.size)) a9 s9 0 0 (z_A o s9.heap.size)) G cI cZ cT o 7 (s_stepN S w c k d9) 3 [(0, .ref (o + 94)), (1, .ref (o + pG w)), (2, .int (nI c)), (3, .int k), (4, .int (nI d9))] [] := by
    intro d
    induction d with
    | zero =>
      intro d9 hi_3
      have he_3 : d9 = 4 := by omega
      rw [he_3]
      refine v_iload X 4 dX4_stepOnFrom_3 rfl ?_
      refine v_iconst (v := 4) X (by decide) dX4_stepOnFrom_5 ?_
      refine v_ncmp_ge X 4 4 rfl rfl (by omega) (by omega) (tgt := 91) dX4_stepOnFrom_6 (by decide) (fun c_6 => ?_) (fun c_6 => ?_)
      ·
        exact v_vret X dX4_stepOnFrom_91 (by rfl)
      ·
        exact absurd c_6 (by omega)
    | succ d ih_3 =>
      intro d9 hi_3
      refine v_iload X 4 dX4_stepOnFrom_3 rfl ?_
      refine v_iconst (v := 4) X (by decide) dX4_stepOnFrom_5 ?_
      refine v_ncmp_ge X d9 4 rfl rfl (by omega) (by omega) (tgt := 91) dX4_stepOnFrom_6 (by decide) (fun c_6 => ?_) (fun c_6 => ?_)
      ·
        exact absurd c_6 (by omega)
      ·
        refine v_iload_n X 2 dX4_stepOnFrom_9 rfl rfl ?_
        refine v_iload X 4 dX4_stepOnFrom_10 rfl ?_
        refine v_callNIf X [.int (nI c), .int (nI d9)] (c_X5_neighbour l G cI cZ cT o (s_stepN S w c k d9) c d9 (by omega) (by omega)) 2 rfl hn_X4_27 gX4_stepOnFrom_X5_neighbour_n27 hw_X4_stepOnFrom_st_X5_neighbour hw_X4_stepOnFrom_in_X5 rfl ⟨rfl, rfl⟩ hy_X5_neighbour_N ⟨Nat.le_of_ble_eq_true rfl, Nat.le_of_ble_eq_true rfl⟩ rfl (Nat.le_of_ble_eq_true rfl) dX4_stepOnFrom_12 ?_
        by_cases hb_29 : nbb c d9 = true
        ·
          have hB_29 := nbn_lt (c := c) (d := d9) (by omega) hb_29
          refine v_top (y := nI (nbn c d9)) (if_pos hb_29) ?_
          refine v_istore (lo' := [(5, .int (nI (nbn c d9))), (0, .ref (o + 94)), (1, .ref (o + pG w)), (2, .int (nI c)), (3, .int k), (4, .int (nI d9))]) X dX4_stepOnFrom_15 (by decide) rfl ?_
          refine v_iload X 0 dX4_stepOnFrom_17 rfl ?_
          refine v_if_ge X (tgt := 25) dX4_stepOnFrom_19 (by decide) (fun _ => ?_) (fun q => absurd q (nI_pos (by omega)))
          refine v_aload_n X 2 dX4_stepOnFrom_25 rfl rfl ?_
          refine v_iload X 0 dX4_stepOnFrom_26 rfl ?_
          refine v_iload_n X 4 dX4_stepOnFrom_28 rfl rfl ?_
          refine v_callSIf X [.ref (o + pG w), .int (nI (nbn c d9)), .int k] (c_X4_hoursInto l G cI cZ cT o (s_stepN S w c k d9) w (nbn c d9) k (by omega) (by omega)) 3 rfl gX4_stepOnFrom_X4_hoursInto rfl ⟨rfl, rfl⟩ hy_X4_hoursInto_S ⟨Nat.le_of_ble_eq_true rfl, Nat.le_of_ble_eq_true rfl⟩ rfl (Nat.le_of_ble_eq_true rfl) dX4_stepOnFrom_29 ?_
          refine v_istore (lo' := [(6, .int (s_into (s_stepN S w c k d9) w (nbn c d9) k)), (5, .int (nI (nbn c d9))), (0, .ref (o + 94)), (1, .ref (o + pG w)), (2, .int (nI c)), (3, .int k), (4, .int (nI d9))]) X dX4_stepOnFrom_32 (by decide) rfl ?_
          refine v_iload X 0 dX4_stepOnFrom_34 rfl ?_
          refine v_iconst (v := -1) X (by decide) dX4_stepOnFrom_36 ?_
          refine v_icmp_eq X (tgt := 85) dX4_stepOnFrom_37 (by decide) (fun c_37 => ?_) (fun c_37 => ?_)
          ·
            refine v_iinc (v := nI (d9 + 1)) (lo' := [(4, .int (nI (d9 + 1))), (6, .int (s_into (s_stepN S w c k d9) w (nbn c d9) k)), (5, .int (nI (nbn c d9))), (0, .ref (o + 94)), (1, .ref (o + pG w)), (2, .int (nI c)), (3, .int k)]) X 6 dX4_stepOnFrom_85 rfl (nI_1 d9) (by decide) rfl ?_
            refine v_goto (tgt := 3) X dX4_stepOnFrom_88 (by decide) ?_
            refine v_lo [3, 4, 5, 6, 0] (lo' := [(0, .ref (o + 94)), (1, .ref (o + pG w)), (2, .int (nI c)), (3, .int k), (4, .int (nI (d9 + 1)))]) rfl ?_
            refine v_eq (S' := s_stepN S w c k (d9 + 1)) (lo' := [(0, .ref (o + 94)), (1, .ref (o + pG w)), (2, .int (nI c)), (3, .int k), (4, .int (nI (d9 + 1)))]) (by simp [s_stepN, s_step1, s_relax, c_6, hb_29, c_37]) (by rfl) ?_
            exact ih_3 (d9 + 1) (by omega)
          ·
            refine v_aload_n X 2 dX4_stepOnFrom_40 rfl rfl ?_
            refine v_getW X 0 (by decide) hi_X4_stepOnFrom_X4 hl_X4_stepOnFrom_9 rfl (v := .ref (o + 95)) rfl dX4_stepOnFrom_41 ?_
            refine v_iload X 1 dX4_stepOnFrom_44 rfl ?_
            refine v_ald X 95 (by decide) (zc_95 cI cZ cT o _) (nbn c d9) rfl (by omega) (by decide) dX4_stepOnFrom_46 ?_
            refine v_if_lt X (tgt := 69) dX4_stepOnFrom_47 (by decide) (fun c_47 => ?_) (fun c_47 => ?_)
            ·
              refine v_aload_n X 2 dX4_stepOnFrom_69 rfl rfl ?_
              refine v_getW X 0 (by decide) hi_X4_stepOnFrom_X4 hl_X4_stepOnFrom_9 rfl (v := .ref (o + 95)) rfl dX4_stepOnFrom_70 ?_
              refine v_iload X 1 dX4_stepOnFrom_73 rfl ?_
              refine v_aload_n X 2 dX4_stepOnFrom_75 rfl rfl ?_
              refine v_getW X 0 (by decide) hi_X4_stepOnFrom_X4 hl_X4_stepOnFrom_9 rfl (v := .ref (o + 95)) rfl dX4_stepOnFrom_76 ?_
              refine v_iload_n X 4 dX4_stepOnFrom_79 rfl rfl ?_
              refine v_ald X 95 (by decide) (zc_95 cI cZ cT o _) c rfl (by omega) (by decide) dX4_stepOnFrom_80 ?_
              refine v_iload X 0 dX4_stepOnFrom_81 rfl ?_
              refine v_iadd X dX4_stepOnFrom_83 ?_
              refine v_ast X 95 (by decide) (zc_95 cI cZ cT o _) (nbn c d9) rfl (by omega) (by decide) (zs_95 cI cZ cT o _ _ _) dX4_stepOnFrom_84 ?_
              refine v_iinc (v := nI (d9 + 1)) (lo' := [(4, .int (nI (d9 + 1))), (6, .int (s_into (s_stepN S w c k d9) w (nbn c d9) k)), (5, .int (nI (nbn c d9))), (0, .ref (o + 94)), (1, .ref (o + pG w)), (2, .int (nI c)), (3, .int k)]) X 6 dX4_stepOnFrom_85 rfl (nI_1 d9) (by decide) rfl ?_
              refine v_goto (tgt := 3) X dX4_stepOnFrom_88 (by decide) ?_
              refine v_lo [3, 4, 5, 6, 0] (lo' := [(0, .ref (o + 94)), (1, .ref (o + pG w)), (2, .int (nI c)), (3, .int k), (4, .int (nI (d9 + 1)))]) rfl ?_
              refine v_eq (S' := s_stepN S w c k (d9 + 1)) (lo' := [(0, .ref (o + 94)), (1, .ref (o + pG w)), (2, .int (nI c)), (3, .int k), (4, .int (nI (d9 + 1)))]) (by simp [s_stepN, s_step1, s_relax, c_6, hb_29, c_37, c_47]) (by rfl) ?_
              exact ih_3 (d9 + 1) (by omega)
            ·
              refine v_aload_n X 2 dX4_stepOnFrom_50 rfl rfl ?_
              refine v_getW X 0 (by decide) hi_X4_stepOnFrom_X4 hl_X4_stepOnFrom_9 rfl (v := .ref (o + 95)) rfl dX4_stepOnFrom_51 ?_
              refine v_iload_n X 4 dX4_stepOnFrom_54 rfl rfl ?_
              refine v_ald X 95 (by decide) (zc_95 cI cZ cT o _) c rfl (by omega) (by decide) dX4_stepOnFrom_55 ?_
              refine v_iload X 0 dX4_stepOnFrom_56 rfl ?_
              refine v_iadd X dX4_stepOnFrom_58 ?_
              refine v_aload_n X 2 dX4_stepOnFrom_59 rfl rfl ?_
              refine v_getW X 0 (by decide) hi_X4_stepOnFrom_X4 hl_X4_stepOnFrom_9 rfl (v := .ref (o + 95)) rfl dX4_stepOnFrom_60 ?_
              refine v_iload X 1 dX4_stepOnFrom_63 rfl ?_
              refine v_ald X 95 (by decide) (zc_95 cI cZ cT o _) (nbn c d9) rfl (by omega) (by decide) dX4_stepOnFrom_65 ?_
              refine v_icmp_ge X (tgt := 85) dX4_stepOnFrom_66 (by decide) (fun c_66 => ?_) (fun c_66 => ?_)
              ·
                refine v_iinc (v := nI (d9 + 1)) (lo' := [(4, .int (nI (d9 + 1))), (6, .int (s_into (s_stepN S w c k d9) w (nbn c d9) k)), (5, .int (nI (nbn c d9))), (0, .ref (o + 94)), (1, .ref (o + pG w)), (2, .int (nI c)), (3, .int k)]) X 6 dX4_stepOnFrom_85 rfl (nI_1 d9) (by decide) rfl ?_
                refine v_goto (tgt := 3) X dX4_stepOnFrom_88 (by decide) ?_
                refine v_lo [3, 4, 5, 6, 0] (lo' := [(0, .ref (o + 94)), (1, .ref (o + pG w)), (2, .int (nI c)), (3, .int k), (4, .int (nI (d9 + 1)))]) rfl ?_
                refine v_eq (S' := s_stepN S w c k (d9 + 1)) (lo' := [(0, .ref (o + 94)), (1, .ref (o + pG w)), (2, .int (nI c)), (3, .int k), (4, .int (nI (d9 + 1)))]) (by simp [s_stepN, s_step1, s_relax, c_6, hb_29, c_37, c_47, c_66]) (by rfl) ?_
                exact ih_3 (d9 + 1) (by omega)
              ·
                refine v_aload_n X 2 dX4_stepOnFrom_69 rfl rfl ?_
                refine v_getW X 0 (by decide) hi_X4_stepOnFrom_X4 hl_X4_stepOnFrom_9 rfl (v := .ref (o + 95)) rfl dX4_stepOnFrom_70 ?_
                refine v_iload X 1 dX4_stepOnFrom_73 rfl ?_
                refine v_aload_n X 2 dX4_stepOnFrom_75 rfl rfl ?_
                refine v_getW X 0 (by decide) hi_X4_stepOnFrom_X4 hl_X4_stepOnFrom_9 rfl (v := .ref (o + 95)) rfl dX4_stepOnFrom_76 ?_
                refine v_iload_n X 4 dX4_stepOnFrom_79 rfl rfl ?_
                refine v_ald X 95 (by decide) (zc_95 cI cZ cT o _) c rfl (by omega) (by decide) dX4_stepOnFrom_80 ?_
                refine v_iload X 0 dX4_stepOnFrom_81 rfl ?_
                refine v_iadd X dX4_stepOnFrom_83 ?_
                refine v_ast X 95 (by decide) (zc_95 cI cZ cT o _) (nbn c d9) rfl (by omega) (by decide) (zs_95 cI cZ cT o _ _ _) dX4_stepOnFrom_84 ?_
                refine v_iinc (v := nI (d9 + 1)) (lo' := [(4, .int (nI (d9 + 1))), (6, .int (s_into (s_stepN S w c k d9) w (nbn c d9) k)), (5, .int (nI (nbn c d9))), (0, .ref (o + 94)), (1, .ref (o + pG w)), (2, .int (nI c)), (3, .int k)]) X 6 dX4_stepOnFrom_85 rfl (nI_1 d9) (by decide) rfl ?_
                refine v_goto (tgt := 3) X dX4_stepOnFrom_88 (by decide) ?_
                refine v_lo [3, 4, 5, 6, 0] (lo' := [(0, .ref (o + 94)), (1, .ref (o + pG w)), (2, .int (nI c)), (3, .int k), (4, .int (nI (d9 + 1)))]) rfl ?_
                refine v_eq (S' := s_stepN S w c k (d9 + 1)) (lo' := [(0, .ref (o + 94)), (1, .ref (o + pG w)), (2, .int (nI c)), (3, .int k), (4, .int (nI (d9 + 1)))]) (by simp [s_stepN, s_step1, s_relax, c_6, hb_29, c_37, c_47, c_66]) (by rfl) ?_
                exact ih_3 (d9 + 1) (by omega)
        ·
          refine v_top (y := -1) (if_neg hb_29) ?_
          refine v_istore (lo' := [(5, .int (-1)), (0, .ref (o + 94)), (1, .ref (o + pG w)), (2, .int (nI c)), (3, .int k), (4, .int (nI d9))]) X dX4_stepOnFrom_15 (by decide) rfl ?_
          refine v_iload X 0 dX4_stepOnFrom_17 rfl ?_
          refine v_if_ge X (tgt := 25) dX4_stepOnFrom_19 (by decide) (fun q => absurd q (by decide)) (fun _ => ?_)
          refine v_goto (tgt := 85) X dX4_stepOnFrom_22 (by decide) ?_
          refine v_iinc (v := nI (d9 + 1)) (lo' := [(4, .int (nI (d9 + 1))), (5, .int (-1)), (0, .ref (o + 94)), (1, .ref (o + pG w)), (2, .int (nI c)), (3, .int k)]) X 5 dX4_stepOnFrom_85 rfl (nI_1 d9) (by decide) rfl ?_
          refine v_goto (tgt := 3) X dX4_stepOnFrom_88 (by decide) ?_
          refine v_lo [2, 3, 4, 5, 0] (lo' := [(0, .ref (o + 94)), (1, .ref (o + pG w)), (2, .int (nI c)), (3, .int k), (4, .int (nI (d9 + 1)))]) rfl ?_
          refine v_eq (S' := s_stepN S w c k (d9 + 1)) (lo' := [(0, .ref (o + 94)), (1, .ref (o + pG w)), (2, .int (nI c)), (3, .int k), (4, .int (nI (d9 + 1)))]) (by simp [s_stepN, s_step1, s_relax, c_6, hb_29]) (by rfl) ?_
          exact ih_3 (d9 + 1) (by omega)
  refine v_lo [1, 2, 3, 4, 0] (lo' := [(0, .ref (o + 94)), (1, .ref (o + pG w)), (2, .int (nI c)), (3, .int k), (4, .int 0)]) rfl ?_
  refine v_eq (S' := s_stepN S w c k 0) (lo' := [(0, .ref (o + 94)), (1, .ref (o + pG w)), (2, .int (nI c)), (3, .int k), (4, .int (nI 0))]) (by rfl) (by rfl) ?_
  exact L_3 (4) 0 (by omega)
theorem hy_X4_nearestUnsettled_V : yX4_nearestUnsettled.cls = RX4 ∧ yX4_nearestUnsettled.cls ≠ "java/lang/invoke/MethodHandle" ∧ yX4_nearestUnsettled.cls ≠ "java/lang/invoke/VarHandle" ∧ (parseMethodDescriptor yX4_nearestUnsettled.desc).map (fun d => d.parameters.length) = some 0 := by decide +kernel
theorem hi_X4_searchFrom_X4 : ∀ w ∈ wsX40, w ∈ wsX4_searchFrom := by decide +kernel
theorem hl_X4_searchFrom_15 : Cond.fieldLink RX4 15 RX4 (TX4 1).2.1 (TX4 1).2.2.1 ∈ wsX4_searchFrom := by decide +kernel
theorem hy_X4_stepOnFrom_V : yX4_stepOnFrom.cls = RX4 ∧ yX4_stepOnFrom.cls ≠ "java/lang/invoke/MethodHandle" ∧ yX4_stepOnFrom.cls ≠ "java/lang/invoke/VarHandle" ∧ (parseMethodDescriptor yX4_stepOnFrom.desc).map (fun d => d.parameters.length) = some 3 := by decide +kernel
theorem hl_X4_searchFrom_9 : Cond.fieldLink RX4 9 RX4 (TX4 0).2.1 (TX4 0).2.2.1 ∈ wsX4_searchFrom := by decide +kernel
set_option maxRecDepth 100000 in
set_option maxHeartbeats 4000000 in
/-- X4_searchFrom -/
theorem c_X4_searchFrom (l : Launch) (G : va_G) (cI cZ cT : ClassId) (o : Nat) (S : zS) (w a : Nat) (k : Int32) (hw : w < 2) (ha : a < 144) : zU l G cI cZ cT o yX4_searchFrom wsX4_searchFrom { frames := 3, cells := 0, slots := 0, locals := 69 } [.ref (o + 94), .ref (o + pG w), .int (nI a), .int k] S (fun u => u = s_srch S w a k) := by
  refine z_ofV (cc := cX4_searchFrom) (maxL := 6) (by decide) rfl (by simp [lg_sl, Value.category]) ?_
  intro p9 e9 s9 m9 a9 b9 h9 c9 X
  refine v_lo [0, 1, 2, 3] (lo' := [(0, .ref (o + 94)), (1, .ref (o + pG w)), (2, .int (nI a)), (3, .int k)]) rfl ?_
  refine v_iconst (v := 0) X (by decide) dX4_searchFrom_0 ?_
  refine v_istore (lo' := [(4, .int 0), (0, .ref (o + 94)), (1, .ref (o + pG w)), (2, .int (nI a)), (3, .int k)]) X dX4_searchFrom_1 (by decide) rfl ?_
  have L_3 : ∀ (d i : Nat), i + d = 144 → z_V p9 l e9 (headSpec wsX4_searchFrom { frames := 3, cells := 0, slots := 0, locals := 69 }).room s9 m9 a9 b9 h9 c9 (MQ b9 (va_Qv (fun u => u = s_srch S w a k) (z_B G cI cZ cT o) (z_A o s9.heap.size)) a9 s9 0 0 (z_A o s9.heap.size)) G cI cZ cT o 6 (s_init S a i) 3 [(0, .ref (o + 94)), (1, .ref (o + pG w)), (2, .int (nI a)), (3, .int k), (4, .int (nI i))] [] := by
    intro d
    induction d with
    | zero =>
      intro i hi_3
      have he_3 : i = 144 := by omega
      rw [he_3]
      refine v_iload X 4 dX4_searchFrom_3 rfl ?_
      refine v_sipush (v := 144) X (by decide) dX4_searchFrom_5 ?_
      refine v_ncmp_ge X 144 144 rfl rfl (by omega) (by omega) (tgt := 43) dX4_searchFrom_8 (by decide) (fun c_8 => ?_) (fun c_8 => ?_)
      ·
        refine v_iconst (v := 0) X (by decide) dX4_searchFrom_43 ?_
        refine v_istore (lo' := [(4, .int 0), (0, .ref (o + 94)), (1, .ref (o + pG w)), (2, .int (nI a)), (3, .int k)]) X dX4_searchFrom_44 (by decide) rfl ?_
        have L_46 : ∀ (d i : Nat), i + d = 144 → z_V p9 l e9 (headSpec wsX4_searchFrom { frames := 3, cells := 0, slots := 0, locals := 69 }).room s9 m9 a9 b9 h9 c9 (MQ b9 (va_Qv (fun u => u = s_srch S w a k) (z_B G cI cZ cT o) (z_A o s9.heap.size)) a9 s9 0 0 (z_A o s9.heap.size)) G cI cZ cT o 6 (s_srchN S w a k i) 46 [(0, .ref (o + 94)), (1, .ref (o + pG w)), (2, .int (nI a)), (3, .int k), (4, .int (nI i))] [] := by
          intro d
          induction d with
          | zero =>
            intro i hi_46
            have he_46 : i = 144 := by omega
            rw [he_46]
            refine v_iload X 4 dX4_searchFrom_46 rfl ?_
            refine v_sipush (v := 144) X (by decide) dX4_searchFrom_48 ?_
            refine v_ncmp_ge X 144 144 rfl rfl (by omega) (by omega) (tgt := 88) dX4_searchFrom_51 (by decide) (fun c_51 => ?_) (fun c_51 => ?_)
            ·
              exact v_vret X dX4_searchFrom_88 (by rfl)
            ·
              exact absurd c_51 (by omega)
          | succ d ih_46 =>
            intro i hi_46
            refine v_iload X 4 dX4_searchFrom_46 rfl ?_
            refine v_sipush (v := 144) X (by decide) dX4_searchFrom_48 ?_
            refine v_ncmp_ge X i 144 rfl rfl (by omega) (by omega) (tgt := 88) dX4_searchFrom_51 (by decide) (fun c_51 => ?_) (fun c_51 => ?_)
            ·
              exact absurd c_51 (by omega)
            ·
              refine v_aload_n X 0 dX4_searchFrom_54 rfl rfl ?_
              refine v_callVIf X [] (94) (by decide) (c_X4_nearestUnsettled l G cI cZ cT o (s_srchN S w a k i)) (zc_W cI cZ cT o _) (C := RX4) (T := TX4) (N := 2) rfl 0 rfl gX4_searchFrom_X4_nearestUnsettled rfl ⟨rfl, rfl⟩ hy_X4_nearestUnsettled_V ⟨Nat.le_of_ble_eq_true rfl, Nat.le_of_ble_eq_true rfl⟩ rfl (Nat.le_of_ble_eq_true rfl) dX4_searchFrom_55 ?_
              rcases hq_41 : s_nearN (s_srchN S w a k i) 144 with _ | b
              ·
                refine v_top (y := -1) (by first | rfl | (rw [hq_41]; rfl)) ?_
                refine v_istore (lo' := [(5, .int (-1)), (0, .ref (o + 94)), (1, .ref (o + pG w)), (2, .int (nI a)), (3, .int k), (4, .int (nI i))]) X dX4_searchFrom_58 (by decide) rfl ?_
                refine v_iload X 0 dX4_searchFrom_60 rfl ?_
                refine v_if_ge X (tgt := 66) dX4_searchFrom_62 (by decide) (fun q => absurd q (by decide)) (fun _ => ?_)
                exact v_vret X dX4_searchFrom_65 (by exact (by have e := s_srchN_end hq_41 (144 - i); rw [show i + (144 - i) = 144 by omega] at e; exact e.symm))
              ·
                have hb9 := s_nearN_lt _ b hq_41
                refine v_top (y := nI b) (by first | rfl | (rw [hq_41]; rfl)) ?_
                refine v_istore (lo' := [(5, .int (nI b)), (0, .ref (o + 94)), (1, .ref (o + pG w)), (2, .int (nI a)), (3, .int k), (4, .int (nI i))]) X dX4_searchFrom_58 (by decide) rfl ?_
                refine v_iload X 0 dX4_searchFrom_60 rfl ?_
                refine v_if_ge X (tgt := 66) dX4_searchFrom_62 (by decide) (fun _ => ?_) (fun q => absurd q (nI_pos (by omega)))
                refine v_aload_n X 1 dX4_searchFrom_66 rfl rfl ?_
                refine v_getW X 1 (by decide) hi_X4_searchFrom_X4 hl_X4_searchFrom_15 rfl (v := .ref (o + 96)) rfl dX4_searchFrom_67 ?_
                refine v_iload X 0 dX4_searchFrom_70 rfl ?_
                refine v_iconst (v := 1) X (by decide) dX4_searchFrom_72 ?_
                refine v_bast X b rfl (by omega) rfl dX4_searchFrom_73 ?_
                refine v_aload_n X 1 dX4_searchFrom_74 rfl rfl ?_
                refine v_aload_n X 2 dX4_searchFrom_75 rfl rfl ?_
                refine v_iload X 0 dX4_searchFrom_76 rfl ?_
                refine v_iload_n X 4 dX4_searchFrom_78 rfl rfl ?_
                refine v_callVUf X [.ref (o + pG w), .int (nI b), .int k] (94) (by decide) (c_X4_stepOnFrom l G cI cZ cT o (z_up (s_srchN S w a k i) 2 5 b 1) w b k (by omega) (by omega)) (zc_W cI cZ cT o _) (C := RX4) (T := TX4) (N := 2) rfl 3 rfl gX4_searchFrom_X4_stepOnFrom rfl ⟨rfl, rfl⟩ hy_X4_stepOnFrom_V ⟨Nat.le_of_ble_eq_true rfl, Nat.le_of_ble_eq_true rfl⟩ rfl (Nat.le_of_ble_eq_true rfl) dX4_searchFrom_79 ?_
                refine v_iinc (v := nI (i + 1)) (lo' := [(4, .int (nI (i + 1))), (5, .int (nI b)), (0, .ref (o + 94)), (1, .ref (o + pG w)), (2, .int (nI a)), (3, .int k)]) X 5 dX4_searchFrom_82 rfl (nI_1 i) (by decide) rfl ?_
                refine v_goto (tgt := 46) X dX4_searchFrom_85 (by decide) ?_
                refine v_lo [2, 3, 4, 5, 0] (lo' := [(0, .ref (o + 94)), (1, .ref (o + pG w)), (2, .int (nI a)), (3, .int k), (4, .int (nI (i + 1)))]) rfl ?_
                refine v_eq (S' := s_srchN S w a k (i + 1)) (lo' := [(0, .ref (o + 94)), (1, .ref (o + pG w)), (2, .int (nI a)), (3, .int k), (4, .int (nI (i + 1)))]) (by simp [s_srchN, s_srch1, c_8, c_51, hq_41]) (by rfl) ?_
                exact ih_46 (i + 1) (by omega)
        refine v_lo [1, 2, 3, 4, 0] (lo' := [(0, .ref (o + 94)), (1, .ref (o + pG w)), (2, .int (nI a)), (3, .int k), (4, .int 0)]) rfl ?_
        refine v_eq (S' := s_srchN S w a k 0) (lo' := [(0, .ref (o + 94)), (1, .ref (o + pG w)), (2, .int (nI a)), (3, .int k), (4, .int (nI 0))]) (by rfl) (by rfl) ?_
        exact L_46 (144) 0 (by omega)
      ·
        exact absurd c_8 (by omega)
    | succ d ih_3 =>
      intro i hi_3
      refine v_iload X 4 dX4_searchFrom_3 rfl ?_
      refine v_sipush (v := 144) X (by decide) dX4_searchFrom_5 ?_
      refine v_ncmp_ge X i 144 rfl rfl (by omega) (by omega) (tgt := 43) dX4_searchFrom_8 (by decide) (fun c_8 => ?_) (fun c_8 => ?_)
      ·
        exact absurd c_8 (by omega)
      ·
        refine v_aload_n X 0 dX4_searchFrom_11 rfl rfl ?_
        refine v_getW X 0 (by decide) hi_X4_searchFrom_X4 hl_X4_searchFrom_9 rfl (v := .ref (o + 95)) rfl dX4_searchFrom_12 ?_
        refine v_iload X 4 dX4_searchFrom_15 rfl ?_
        refine v_iload X 4 dX4_searchFrom_17 rfl ?_
        refine v_iload_n X 2 dX4_searchFrom_19 rfl rfl ?_
        refine v_ncmp_ne X i a rfl rfl (by omega) (by omega) (tgt := 27) dX4_searchFrom_20 (by decide) (fun c_20 => ?_) (fun c_20 => ?_)
        ·
          refine v_iconst (v := -1) X (by decide) dX4_searchFrom_27 ?_
          refine v_ast X 95 (by decide) (zc_95 cI cZ cT o _) i rfl (by omega) (by decide) (zs_95 cI cZ cT o _ _ _) dX4_searchFrom_28 ?_
          refine v_aload_n X 0 dX4_searchFrom_29 rfl rfl ?_
          refine v_getW X 1 (by decide) hi_X4_searchFrom_X4 hl_X4_searchFrom_15 rfl (v := .ref (o + 96)) rfl dX4_searchFrom_30 ?_
          refine v_iload X 4 dX4_searchFrom_33 rfl ?_
          refine v_iconst (v := 0) X (by decide) dX4_searchFrom_35 ?_
          refine v_bast X i rfl (by omega) rfl dX4_searchFrom_36 ?_
          refine v_iinc (v := nI (i + 1)) (lo' := [(4, .int (nI (i + 1))), (0, .ref (o + 94)), (1, .ref (o + pG w)), (2, .int (nI a)), (3, .int k)]) X 4 dX4_searchFrom_37 rfl (nI_1 i) (by decide) rfl ?_
          refine v_goto (tgt := 3) X dX4_searchFrom_40 (by decide) ?_
          refine v_lo [1, 2, 3, 4, 0] (lo' := [(0, .ref (o + 94)), (1, .ref (o + pG w)), (2, .int (nI a)), (3, .int k), (4, .int (nI (i + 1)))]) rfl ?_
          refine v_eq (S' := s_init S a (i + 1)) (lo' := [(0, .ref (o + 94)), (1, .ref (o + pG w)), (2, .int (nI a)), (3, .int k), (4, .int (nI (i + 1)))]) (by simp [s_init, c_8, c_20]) (by rfl) ?_
          exact ih_3 (i + 1) (by omega)
        ·
          refine v_iconst (v := 0) X (by decide) dX4_searchFrom_23 ?_
          refine v_goto (tgt := 28) X dX4_searchFrom_24 (by decide) ?_
          refine v_ast X 95 (by decide) (zc_95 cI cZ cT o _) i rfl (by omega) (by decide) (zs_95 cI cZ cT o _ _ _) dX4_searchFrom_28 ?_
          refine v_aload_n X 0 dX4_searchFrom_29 rfl rfl ?_
          refine v_getW X 1 (by decide) hi_X4_searchFrom_X4 hl_X4_searchFrom_15 rfl (v := .ref (o + 96)) rfl dX4_searchFrom_30 ?_
          refine v_iload X 4 dX4_searchFrom_33 rfl ?_
          refine v_iconst (v := 0) X (by decide) dX4_searchFrom_35 ?_
          refine v_bast X i rfl (by omega) rfl dX4_searchFrom_36 ?_
          refine v_iinc (v := nI (i + 1)) (lo' := [(4, .int (nI (i + 1))), (0, .ref (o + 94)), (1, .ref (o + pG w)), (2, .int (nI a)), (3, .int k)]) X 4 dX4_searchFrom_37 rfl (nI_1 i) (by decide) rfl ?_
          refine v_goto (tgt := 3) X dX4_searchFrom_40 (by decide) ?_
          refine v_lo [1, 2, 3, 4, 0] (lo' := [(0, .ref (o + 94)), (1, .ref (o + pG w)), (2, .int (nI a)), (3, .int k), (4, .int (nI (i + 1)))]) rfl ?_
          refine v_eq (S' := s_init S a (i + 1)) (lo' := [(0, .ref (o + 94)), (1, .ref (o + pG w)), (2, .int (nI a)), (3, .int k), (4, .int (nI (i + 1)))]) (by simp [s_init, c_8, c_20]) (by rfl) ?_
          exact ih_3 (i + 1) (by omega)
  refine v_lo [1, 2, 3, 4, 0] (lo' := [(0, .ref (o + 94)), (1, .ref (o + pG w)), (2, .int (nI a)), (3, .int k), (4, .int 0)]) rfl ?_
  refine v_eq (S' := s_init S a 0) (lo' := [(0, .ref (o + 94)), (1, .ref (o + pG w)), (2, .int (nI a)), (3, .int k), (4, .int (nI 0))]) (by rfl) (by rfl) ?_
  exact L_3 (144) 0 (by omega)
end ZM6
