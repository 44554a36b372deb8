section ZM1
/-! what the class's methods do, said over the state (the same steps in the same order as the code, without the machine) -/
def z_sum (f : Nat → Int32) : Nat → Int32
  | 0 => 0
  | i + 1 => z_sum f i + f i
-- neighbours: is there one in a direction, and which
def nbb (c d : Nat) : Bool := if d = 0 then decide (0 < c / 12) else if d = 1 then decide (c % 12 < 11) else if d = 2 then decide (c / 12 < 11) else decide (0 < c % 12)
def nbn (c d : Nat) : Nat := if d = 0 then c - 12 else if d = 1 then c + 1 else if d = 2 then c + 12 else c - 1
def z_nb (c d : Nat) : Int32 := if nbb c d = true then nI (nbn c d) else -1
theorem nbn_lt {c d : Nat} (hc : c < 144) (h : nbb c d = true) : nbn c d < 144 := by
  unfold nbb at h
  unfold nbn
  split <;> rename_i h0
  · omega
  · rw [if_neg h0] at h
    split <;> rename_i h1
    · rw [if_pos h1] at h; have := of_decide_eq_true h; omega
    · rw [if_neg h1] at h
      split <;> rename_i h2
      · rw [if_pos h2] at h; have := of_decide_eq_true h; omega
      · omega
def z_abs (x : Int32) : Int32 := if 0 ≤ x then x else 0 - x
def z_max0 (x : Int32) : Int32 := if 0 < x then x else 0
def z_dist (a b : Nat) : Int32 := z_abs (nI (a % 12) - nI (b % 12)) + z_abs (nI (a / 12) - nI (b / 12))
def s_isRock (S : zS) (w c : Nat) : Int32 := if S w 0 c = 0 then 1 else 0
def s_isTunnel (S : zS) (w c : Nat) : Int32 := if S w 2 c = 1 then 1 else 0
def s_workLeft (S : zS) (w c : Nat) : Int32 := 3 * S w 0 c - S w 6 c
def s_empty (S : zS) (w c : Nat) : zS := z_up (z_up (z_up (z_up (z_up S w 3 c 0) w 4 c 0) w 5 c 0) w 6 c 0) w 7 c 0
def s_openTunnel (S : zS) (w c : Nat) : zS := z_up (s_empty S w c) w 2 c 1
def s_makeEarth (S : zS) (w c : Nat) (h : Int32) : zS := z_up (z_up (s_empty S w c) w 2 c 0) w 0 c h
def s_need (S : zS) (w c : Nat) : Int32 := if S w 0 c < 7 then (if S w 0 c < 4 then 2 else 1) else 0
def s_valueOf (S : zS) (w c k : Nat) : Int32 := S w k c
def s_givesWay (S : zS) (w c : Nat) : Int32 × zS :=
  if 0 < S w 7 c then (if S w 7 c - 1 = 0 then 1 else 0, z_up S w 7 c (S w 7 c - 1))
  else if S w 3 c < s_need S w c then (if 4 * S w 0 c < S w 4 c + 1 then 1 else 0, z_up S w 4 c (S w 4 c + 1))
  else (if 4 * S w 0 c < 0 then 1 else 0, z_up S w 4 c 0)
def s_fallIn0 (S : zS) (w c : Nat) : zS := z_up (z_up (s_makeEarth S w c 2) w 8 c 1) w 10 0 (s_makeEarth S w c 2 w 10 0 + 1)
def s_fallIn (S : zS) (w c : Nat) : zS :=
  if 0 < s_makeEarth S w c 2 w 1 c then
    (if z_max0 (s_makeEarth S w c 2 w 1 c - 8) = 0 then z_up (z_up (s_fallIn0 S w c) w 1 c (z_max0 (s_makeEarth S w c 2 w 1 c - 8))) w 11 0 (s_makeEarth S w c 2 w 11 0 + 1)
     else z_up (s_fallIn0 S w c) w 1 c (z_max0 (s_makeEarth S w c 2 w 1 c - 8)))
  else s_fallIn0 S w c
def s_settle1 (S : zS) (w c : Nat) : zS :=
  if s_isTunnel (z_up S w 8 c 0) w c = 0 then z_up S w 8 c 0
  else if (s_givesWay (z_up S w 8 c 0) w c).1 = 0 then (s_givesWay (z_up S w 8 c 0) w c).2
  else s_fallIn (s_givesWay (z_up S w 8 c 0) w c).2 w c
def s_settle (S : zS) (w : Nat) : Nat → zS
  | 0 => S
  | i + 1 => s_settle1 (s_settle S w i) w i
def s_burn (S : zS) (w c : Nat) : zS := if S w 7 c = 0 then z_up (z_up S w 3 c 0) w 7 c 4 else z_up S w 3 c 0
def s_burn1 (S : zS) (w c d : Nat) : zS := if nbb c d = true then (if s_isTunnel S w (nbn c d) = 0 then S else s_burn S w (nbn c d)) else S
def s_burnN (S : zS) (w c : Nat) : Nat → zS
  | 0 => S
  | d + 1 => s_burn1 (s_burnN S w c d) w c d
def s_fire1 (S : zS) (w c d : Nat) : zS := if nbb c d = true then (if s_isTunnel S w (nbn c d) = 0 then S else s_burnN (s_burn S w (nbn c d)) w (nbn c d) 4) else S
def s_fireN (S : zS) (w c : Nat) : Nat → zS
  | 0 => s_burn S w c
  | d + 1 => s_fire1 (s_fireN S w c d) w c d
def s_fire (S : zS) (w c : Nat) : zS := s_fireN S w c 4
def s_avg1 (S : zS) (w c d : Nat) (q : Int32 × Nat) : Int32 × Nat := if nbb c d = true then (if s_isTunnel S w (nbn c d) = 0 then q else (q.1 + S w 9 (nbn c d), q.2 + 1)) else q
def s_avgN (S : zS) (w c : Nat) : Nat → Int32 × Nat
  | 0 => (S w 9 c, 1)
  | d + 1 => s_avg1 S w c d (s_avgN S w c d)
theorem s_avgN_le (S : zS) (w c : Nat) : ∀ d, 1 ≤ (s_avgN S w c d).2 ∧ (s_avgN S w c d).2 ≤ d + 1
  | 0 => ⟨Nat.le_refl 1, Nat.le_refl 1⟩
  | d + 1 => by
    have h := s_avgN_le S w c d
    show 1 ≤ (s_avg1 S w c d (s_avgN S w c d)).2 ∧ (s_avg1 S w c d (s_avgN S w c d)).2 ≤ d + 1 + 1
    unfold s_avg1
    split
    · split
      · omega
      · show 1 ≤ (s_avgN S w c d).2 + 1 ∧ (s_avgN S w c d).2 + 1 ≤ d + 1 + 1; omega
    · omega
def s_avg (S : zS) (w c : Nat) : Int32 := (s_avgN S w c 4).1 / nI (s_avgN S w c 4).2
def s_smoke1 (S : zS) (w c : Nat) : zS := if s_isTunnel S w c = 0 then S else z_up S w 5 c (z_max0 (s_avg S w c - 1))
def s_smokeN (S : zS) (w : Nat) : Nat → zS
  | 0 => z_put S w 9 (va_cpy (S w 5) (S w 9) 0 0 144)
  | i + 1 => s_smoke1 (s_smokeN S w i) w i
def s_allSmoke (S : zS) (w : Nat) : Int32 := z_sum (S w 5) 144
def s_smoke (S : zS) (w : Nat) : zS := if s_allSmoke S w = 0 then S else s_smokeN S w 144
def s_up (S : zS) (w : Nat) : Int32 := z_sum (fun c => if 0 < S w 1 c then 1 else 0) 144
def s_down (S : zS) (w : Nat) : Int32 := z_sum (fun c => if S w 1 c = 0 then 1 else 0) 144

theorem hi_X0_isRock_X0 : ∀ w ∈ wsX00, w ∈ wsX0_isRock := by decide +kernel
theorem hl_X0_isRock_9 : Cond.fieldLink RX0 9 RX0 (TX0 0).2.1 (TX0 0).2.2.1 ∈ wsX0_isRock := by decide +kernel
set_option maxRecDepth 100000 in
set_option maxHeartbeats 4000000 in
/-- X0_isRock -/
theorem c_X0_isRock (l : Launch) (G : va_G) (cI cZ cT : ClassId) (o : Nat) (S : zS) (w c : Nat) (hw : w < 2) (hc : c < 144) : zI l G cI cZ cT o yX0_isRock wsX0_isRock { frames := 0, cells := 0, slots := 0, locals := 0 } [.ref (o + pG w), .int (nI c)] S (fun r u => r = s_isRock S w c ∧ u = S) := by
  refine z_ofZb (cc := cX0_isRock) (maxL := 2) (by decide) rfl (by simp [lg_sl, Value.category]) ?_
  intro p9 e9 s9 m9 a9 b9 h9 c9 X
  refine v_lo [0, 1] (lo' := [(0, .ref (o + pG w)), (1, .int (nI c))]) rfl ?_
  refine v_aload_n X 0 dX0_isRock_0 rfl rfl ?_
  refine v_getG X (by omega) 0 (by decide) hi_X0_isRock_X0 hl_X0_isRock_9 rfl (v := .ref (o + pA w 0)) rfl dX0_isRock_1 ?_
  refine v_iload_n X 1 dX0_isRock_4 rfl rfl ?_
  refine v_ialdA X (w := w) (by omega) 0 (by omega) c rfl (by omega) dX0_isRock_5 ?_
  refine v_if_ne X (tgt := 13) dX0_isRock_6 (by decide) (fun c_6 => ?_) (fun c_6 => ?_)
  ·
    refine v_iconst (v := 0) X (by decide) dX0_isRock_13 ?_
    exact v_zret X rfl dX0_isRock_14 (by simp [s_isRock, *])
  ·
    refine v_iconst (v := 1) X (by decide) dX0_isRock_9 ?_
    refine v_goto (tgt := 14) X dX0_isRock_10 (by decide) ?_
    exact v_zret X rfl dX0_isRock_14 (by simp [s_isRock, *])
theorem hi_X0_isTunnel_X0 : ∀ w ∈ wsX00, w ∈ wsX0_isTunnel := by decide +kernel
theorem hl_X0_isTunnel_18 : Cond.fieldLink RX0 18 RX0 (TX0 2).2.1 (TX0 2).2.2.1 ∈ wsX0_isTunnel := by decide +kernel
set_option maxRecDepth 100000 in
set_option maxHeartbeats 4000000 in
/-- X0_isTunnel -/
theorem c_X0_isTunnel (l : Launch) (G : va_G) (cI cZ cT : ClassId) (o : Nat) (S : zS) (w c : Nat) (hw : w < 2) (hc : c < 144) : zI l G cI cZ cT o yX0_isTunnel wsX0_isTunnel { frames := 0, cells := 0, slots := 0, locals := 0 } [.ref (o + pG w), .int (nI c)] S (fun r u => r = s_isTunnel S w c ∧ u = S) := by
  refine z_ofZb (cc := cX0_isTunnel) (maxL := 2) (by decide) rfl (by simp [lg_sl, Value.category]) ?_
  intro p9 e9 s9 m9 a9 b9 h9 c9 X
  refine v_lo [0, 1] (lo' := [(0, .ref (o + pG w)), (1, .int (nI c))]) rfl ?_
  refine v_aload_n X 0 dX0_isTunnel_0 rfl rfl ?_
  refine v_getG X (by omega) 2 (by decide) hi_X0_isTunnel_X0 hl_X0_isTunnel_18 rfl (v := .ref (o + pA w 2)) rfl dX0_isTunnel_1 ?_
  refine v_iload_n X 1 dX0_isTunnel_4 rfl rfl ?_
  refine v_ialdA X (w := w) (by omega) 2 (by omega) c rfl (by omega) dX0_isTunnel_5 ?_
  refine v_iconst (v := 1) X (by decide) dX0_isTunnel_6 ?_
  refine v_icmp_ne X (tgt := 14) dX0_isTunnel_7 (by decide) (fun c_7 => ?_) (fun c_7 => ?_)
  ·
    refine v_iconst (v := 0) X (by decide) dX0_isTunnel_14 ?_
    exact v_zret X rfl dX0_isTunnel_15 (by simp [s_isTunnel, *])
  ·
    refine v_iconst (v := 1) X (by decide) dX0_isTunnel_10 ?_
    refine v_goto (tgt := 15) X dX0_isTunnel_11 (by decide) ?_
    exact v_zret X rfl dX0_isTunnel_15 (by simp [s_isTunnel, *])
theorem hi_X0_workLeft_X0 : ∀ w ∈ wsX00, w ∈ wsX0_workLeft := by decide +kernel
theorem hl_X0_workLeft_9 : Cond.fieldLink RX0 9 RX0 (TX0 0).2.1 (TX0 0).2.2.1 ∈ wsX0_workLeft := by decide +kernel
theorem hl_X0_workLeft_30 : Cond.fieldLink RX0 30 RX0 (TX0 6).2.1 (TX0 6).2.2.1 ∈ wsX0_workLeft := by decide +kernel
set_option maxRecDepth 100000 in
set_option maxHeartbeats 4000000 in
/-- X0_workLeft -/
theorem c_X0_workLeft (l : Launch) (G : va_G) (cI cZ cT : ClassId) (o : Nat) (S : zS) (w c : Nat) (hw : w < 2) (hc : c < 144) : zI l G cI cZ cT o yX0_workLeft wsX0_workLeft { frames := 0, cells := 0, slots := 0, locals := 0 } [.ref (o + pG w), .int (nI c)] S (fun r u => r = s_workLeft S w c ∧ u = S) := by
  refine z_ofI (cc := cX0_workLeft) (maxL := 2) (by decide) rfl (by simp [lg_sl, Value.category]) ?_
  intro p9 e9 s9 m9 a9 b9 h9 c9 X
  refine v_lo [0, 1] (lo' := [(0, .ref (o + pG w)), (1, .int (nI c))]) rfl ?_
  refine v_iconst (v := 3) X (by decide) dX0_workLeft_0 ?_
  refine v_aload_n X 0 dX0_workLeft_1 rfl rfl ?_
  refine v_getG X (by omega) 0 (by decide) hi_X0_workLeft_X0 hl_X0_workLeft_9 rfl (v := .ref (o + pA w 0)) rfl dX0_workLeft_2 ?_
  refine v_iload_n X 1 dX0_workLeft_5 rfl rfl ?_
  refine v_ialdA X (w := w) (by omega) 0 (by omega) c rfl (by omega) dX0_workLeft_6 ?_
  refine v_imul X dX0_workLeft_7 ?_
  refine v_aload_n X 0 dX0_workLeft_8 rfl rfl ?_
  refine v_getG X (by omega) 6 (by decide) hi_X0_workLeft_X0 hl_X0_workLeft_30 rfl (v := .ref (o + pA w 6)) rfl dX0_workLeft_9 ?_
  refine v_iload_n X 1 dX0_workLeft_12 rfl rfl ?_
  refine v_ialdA X (w := w) (by omega) 6 (by omega) c rfl (by omega) dX0_workLeft_13 ?_
  refine v_isub X dX0_workLeft_14 ?_
  exact v_iret X dX0_workLeft_15 (by simp [s_workLeft, *])
theorem hi_X0_propsNeeded_X0 : ∀ w ∈ wsX00, w ∈ wsX0_propsNeeded := by decide +kernel
theorem hl_X0_propsNeeded_9 : Cond.fieldLink RX0 9 RX0 (TX0 0).2.1 (TX0 0).2.2.1 ∈ wsX0_propsNeeded := by decide +kernel
set_option maxRecDepth 100000 in
set_option maxHeartbeats 4000000 in
/-- X0_propsNeeded -/
theorem c_X0_propsNeeded (l : Launch) (G : va_G) (cI cZ cT : ClassId) (o : Nat) (S : zS) (w c : Nat) (hw : w < 2) (hc : c < 144) : zI l G cI cZ cT o yX0_propsNeeded wsX0_propsNeeded { frames := 0, cells := 0, slots := 0, locals := 0 } [.ref (o + pG w), .int (nI c)] S (fun r u => r = s_need S w c ∧ u = S) := by
  refine z_ofI (cc := cX0_propsNeeded) (maxL := 2) (by decide) rfl (by simp [lg_sl, Value.category]) ?_
  intro p9 e9 s9 m9 a9 b9 h9 c9 X
  refine v_lo [0, 1] (lo' := [(0, .ref (o + pG w)), (1, .int (nI c))]) rfl ?_
  refine v_aload_n X 0 dX0_propsNeeded_0 rfl rfl ?_
  refine v_getG X (by omega) 0 (by decide) hi_X0_propsNeeded_X0 hl_X0_propsNeeded_9 rfl (v := .ref (o + pA w 0)) rfl dX0_propsNeeded_1 ?_
  refine v_iload_n X 1 dX0_propsNeeded_4 rfl rfl ?_
  refine v_ialdA X (w := w) (by omega) 0 (by omega) c rfl (by omega) dX0_propsNeeded_5 ?_
  refine v_bipush (v := 7) X (by decide) dX0_propsNeeded_6 ?_
  refine v_icmp_lt X (tgt := 13) dX0_propsNeeded_8 (by decide) (fun c_8 => ?_) (fun c_8 => ?_)
  ·
    refine v_aload_n X 0 dX0_propsNeeded_13 rfl rfl ?_
    refine v_getG X (by omega) 0 (by decide) hi_X0_propsNeeded_X0 hl_X0_propsNeeded_9 rfl (v := .ref (o + pA w 0)) rfl dX0_propsNeeded_14 ?_
    refine v_iload_n X 1 dX0_propsNeeded_17 rfl rfl ?_
    refine v_ialdA X (w := w) (by omega) 0 (by omega) c rfl (by omega) dX0_propsNeeded_18 ?_
    refine v_iconst (v := 4) X (by decide) dX0_propsNeeded_19 ?_
    refine v_icmp_lt X (tgt := 27) dX0_propsNeeded_20 (by decide) (fun c_20 => ?_) (fun c_20 => ?_)
    ·
      refine v_iconst (v := 2) X (by decide) dX0_propsNeeded_27 ?_
      exact v_iret X dX0_propsNeeded_28 (by simp [s_need, *])
    ·
      refine v_iconst (v := 1) X (by decide) dX0_propsNeeded_23 ?_
      refine v_goto (tgt := 28) X dX0_propsNeeded_24 (by decide) ?_
      exact v_iret X dX0_propsNeeded_28 (by simp [s_need, *])
  ·
    refine v_iconst (v := 0) X (by decide) dX0_propsNeeded_11 ?_
    exact v_iret X dX0_propsNeeded_12 (by simp [s_need, *])
theorem hi_X0_empty_X0 : ∀ w ∈ wsX00, w ∈ wsX0_empty := by decide +kernel
theorem hl_X0_empty_21 : Cond.fieldLink RX0 21 RX0 (TX0 3).2.1 (TX0 3).2.2.1 ∈ wsX0_empty := by decide +kernel
theorem hl_X0_empty_24 : Cond.fieldLink RX0 24 RX0 (TX0 4).2.1 (TX0 4).2.2.1 ∈ wsX0_empty := by decide +kernel
theorem hl_X0_empty_27 : Cond.fieldLink RX0 27 RX0 (TX0 5).2.1 (TX0 5).2.2.1 ∈ wsX0_empty := by decide +kernel
theorem hl_X0_empty_30 : Cond.fieldLink RX0 30 RX0 (TX0 6).2.1 (TX0 6).2.2.1 ∈ wsX0_empty := by decide +kernel
theorem hl_X0_empty_33 : Cond.fieldLink RX0 33 RX0 (TX0 7).2.1 (TX0 7).2.2.1 ∈ wsX0_empty := by decide +kernel
set_option maxRecDepth 100000 in
set_option maxHeartbeats 4000000 in
/-- X0_empty -/
theorem c_X0_empty (l : Launch) (G : va_G) (cI cZ cT : ClassId) (o : Nat) (S : zS) (w c : Nat) (hw : w < 2) (hc : c < 144) : zU l G cI cZ cT o yX0_empty wsX0_empty { frames := 0, cells := 0, slots := 0, locals := 0 } [.ref (o + pG w), .int (nI c)] S (fun u => u = s_empty S w c) := by
  refine z_ofV (cc := cX0_empty) (maxL := 2) (by decide) rfl (by simp [lg_sl, Value.category]) ?_
  intro p9 e9 s9 m9 a9 b9 h9 c9 X
  refine v_lo [0, 1] (lo' := [(0, .ref (o + pG w)), (1, .int (nI c))]) rfl ?_
  refine v_aload_n X 0 dX0_empty_0 rfl rfl ?_
  refine v_getG X (by omega) 3 (by decide) hi_X0_empty_X0 hl_X0_empty_21 rfl (v := .ref (o + pA w 3)) rfl dX0_empty_1 ?_
  refine v_iload_n X 1 dX0_empty_4 rfl rfl ?_
  refine v_iconst (v := 0) X (by decide) dX0_empty_5 ?_
  refine v_iastA X (w := w) (by omega) 3 (by omega) c rfl (by omega) dX0_empty_6 ?_
  refine v_aload_n X 0 dX0_empty_7 rfl rfl ?_
  refine v_getG X (by omega) 4 (by decide) hi_X0_empty_X0 hl_X0_empty_24 rfl (v := .ref (o + pA w 4)) rfl dX0_empty_8 ?_
  refine v_iload_n X 1 dX0_empty_11 rfl rfl ?_
  refine v_iconst (v := 0) X (by decide) dX0_empty_12 ?_
  refine v_iastA X (w := w) (by omega) 4 (by omega) c rfl (by omega) dX0_empty_13 ?_
  refine v_aload_n X 0 dX0_empty_14 rfl rfl ?_
  refine v_getG X (by omega) 5 (by decide) hi_X0_empty_X0 hl_X0_empty_27 rfl (v := .ref (o + pA w 5)) rfl dX0_empty_15 ?_
  refine v_iload_n X 1 dX0_empty_18 rfl rfl ?_
  refine v_iconst (v := 0) X (by decide) dX0_empty_19 ?_
  refine v_iastA X (w := w) (by omega) 5 (by omega) c rfl (by omega) dX0_empty_20 ?_
  refine v_aload_n X 0 dX0_empty_21 rfl rfl ?_
  refine v_getG X (by omega) 6 (by decide) hi_X0_empty_X0 hl_X0_empty_30 rfl (v := .ref (o + pA w 6)) rfl dX0_empty_22 ?_
  refine v_iload_n X 1 dX0_empty_25 rfl rfl ?_
  refine v_iconst (v := 0) X (by decide) dX0_empty_26 ?_
  refine v_iastA X (w := w) (by omega) 6 (by omega) c rfl (by omega) dX0_empty_27 ?_
  refine v_aload_n X 0 dX0_empty_28 rfl rfl ?_
  refine v_getG X (by omega) 7 (by decide) hi_X0_empty_X0 hl_X0_empty_33 rfl (v := .ref (o + pA w 7)) rfl dX0_empty_29 ?_
  refine v_iload_n X 1 dX0_empty_32 rfl rfl ?_
  refine v_iconst (v := 0) X (by decide) dX0_empty_33 ?_
  refine v_iastA X (w := w) (by omega) 7 (by omega) c rfl (by omega) dX0_empty_34 ?_
  exact v_vret X dX0_empty_35 (by rfl)
theorem hy_X0_empty_V : yX0_empty.cls = RX0 ∧ yX0_empty.cls ≠ "java/lang/invoke/MethodHandle" ∧ yX0_empty.cls ≠ "java/lang/invoke/VarHandle" ∧ (parseMethodDescriptor yX0_empty.desc).map (fun d => d.parameters.length) = some 1 := by decide +kernel
theorem hi_X0_openTunnel_X0 : ∀ w ∈ wsX00, w ∈ wsX0_openTunnel := by decide +kernel
theorem hl_X0_openTunnel_18 : Cond.fieldLink RX0 18 RX0 (TX0 2).2.1 (TX0 2).2.2.1 ∈ wsX0_openTunnel := by decide +kernel
set_option maxRecDepth 100000 in
set_option maxHeartbeats 4000000 in
/-- X0_openTunnel -/
theorem c_X0_openTunnel (l : Launch) (G : va_G) (cI cZ cT : ClassId) (o : Nat) (S : zS) (w c : Nat) (hw : w < 2) (hc : c < 144) : zU l G cI cZ cT o yX0_openTunnel wsX0_openTunnel { frames := 1, cells := 0, slots := 0, locals := 21 } [.ref (o + pG w), .int (nI c)] S (fun u => u = s_openTunnel S w c) := by
  refine z_ofV (cc := cX0_openTunnel) (maxL := 2) (by decide) rfl (by simp [lg_sl, Value.category]) ?_
  intro p9 e9 s9 m9 a9 b9 h9 c9 X
  refine v_lo [0, 1] (lo' := [(0, .ref (o + pG w)), (1, .int (nI c))]) rfl ?_
  refine v_aload_n X 0 dX0_openTunnel_0 rfl rfl ?_
  refine v_iload_n X 1 dX0_openTunnel_1 rfl rfl ?_
  refine v_callVUf X [.int (nI c)] (pG w) (pG_lt (by omega)) (c_X0_empty l G cI cZ cT o S w c (by omega) (by omega)) (zc_G cI cZ cT o _ (by omega)) (C := RX0) (T := TX0) (N := 12) rfl 1 rfl gX0_openTunnel_X0_empty rfl ⟨rfl, rfl⟩ hy_X0_empty_V ⟨Nat.le_of_ble_eq_true rfl, Nat.le_of_ble_eq_true rfl⟩ rfl (Nat.le_of_ble_eq_true rfl) dX0_openTunnel_2 ?_
  refine v_aload_n X 0 dX0_openTunnel_5 rfl rfl ?_
  refine v_getG X (by omega) 2 (by decide) hi_X0_openTunnel_X0 hl_X0_openTunnel_18 rfl (v := .ref (o + pA w 2)) rfl dX0_openTunnel_6 ?_
  refine v_iload_n X 1 dX0_openTunnel_9 rfl rfl ?_
  refine v_iconst (v := 1) X (by decide) dX0_openTunnel_10 ?_
  refine v_iastA X (w := w) (by omega) 2 (by omega) c rfl (by omega) dX0_openTunnel_11 ?_
  exact v_vret X dX0_openTunnel_12 (by rfl)
theorem hi_X0_makeEarth_X0 : ∀ w ∈ wsX00, w ∈ wsX0_makeEarth := by decide +kernel
theorem hl_X0_makeEarth_18 : Cond.fieldLink RX0 18 RX0 (TX0 2).2.1 (TX0 2).2.2.1 ∈ wsX0_makeEarth := by decide +kernel
theorem hl_X0_makeEarth_9 : Cond.fieldLink RX0 9 RX0 (TX0 0).2.1 (TX0 0).2.2.1 ∈ wsX0_makeEarth := by decide +kernel
set_option maxRecDepth 100000 in
set_option maxHeartbeats 4000000 in
/-- X0_makeEarth -/
theorem c_X0_makeEarth (l : Launch) (G : va_G) (cI cZ cT : ClassId) (o : Nat) (S : zS) (w c : Nat) (h : Int32) (hw : w < 2) (hc : c < 144) : zU l G cI cZ cT o yX0_makeEarth wsX0_makeEarth { frames := 1, cells := 0, slots := 0, locals := 21 } [.ref (o + pG w), .int (nI c), .int h] S (fun u => u = s_makeEarth S w c h) := by
  refine z_ofV (cc := cX0_makeEarth) (maxL := 3) (by decide) rfl (by simp [lg_sl, Value.category]) ?_
  intro p9 e9 s9 m9 a9 b9 h9 c9 X
  refine v_lo [0, 1, 2] (lo' := [(0, .ref (o + pG w)), (1, .int (nI c)), (2, .int h)]) rfl ?_
  refine v_aload_n X 0 dX0_makeEarth_0 rfl rfl ?_
  refine v_iload_n X 1 dX0_makeEarth_1 rfl rfl ?_
  refine v_callVUf X [.int (nI c)] (pG w) (pG_lt (by omega)) (c_X0_empty l G cI cZ cT o S w c (by omega) (by omega)) (zc_G cI cZ cT o _ (by omega)) (C := RX0) (T := TX0) (N := 12) rfl 1 rfl gX0_makeEarth_X0_empty rfl ⟨rfl, rfl⟩ hy_X0_empty_V ⟨Nat.le_of_ble_eq_true rfl, Nat.le_of_ble_eq_true rfl⟩ rfl (Nat.le_of_ble_eq_true rfl) dX0_makeEarth_2 ?_
  refine v_aload_n X 0 dX0_makeEarth_5 rfl rfl ?_
  refine v_getG X (by omega) 2 (by decide) hi_X0_makeEarth_X0 hl_X0_makeEarth_18 rfl (v := .ref (o + pA w 2)) rfl dX0_makeEarth_6 ?_
  refine v_iload_n X 1 dX0_makeEarth_9 rfl rfl ?_
  refine v_iconst (v := 0) X (by decide) dX0_makeEarth_10 ?_
  refine v_iastA X (w := w) (by omega) 2 (by omega) c rfl (by omega) dX0_makeEarth_11 ?_
  refine v_aload_n X 0 dX0_makeEarth_12 rfl rfl ?_
  refine v_getG X (by omega) 0 (by decide) hi_X0_makeEarth_X0 hl_X0_makeEarth_9 rfl (v := .ref (o + pA w 0)) rfl dX0_makeEarth_13 ?_
  refine v_iload_n X 1 dX0_makeEarth_16 rfl rfl ?_
  refine v_iload_n X 2 dX0_makeEarth_17 rfl rfl ?_
  refine v_iastA X (w := w) (by omega) 0 (by omega) c rfl (by omega) dX0_makeEarth_18 ?_
  exact v_vret X dX0_makeEarth_19 (by rfl)
theorem hi_X0_tunnels_X0 : ∀ w ∈ wsX00, w ∈ wsX0_tunnels := by decide +kernel
theorem hl_X0_tunnels_18 : Cond.fieldLink RX0 18 RX0 (TX0 2).2.1 (TX0 2).2.2.1 ∈ wsX0_tunnels := by decide +kernel
set_option maxRecDepth 100000 in
set_option maxHeartbeats 4000000 in
/-- X0_tunnels -/
theorem c_X0_tunnels (l : Launch) (G : va_G) (cI cZ cT : ClassId) (o : Nat) (S : zS) (w : Nat) (hw : w < 2) : zI l G cI cZ cT o yX0_tunnels wsX0_tunnels { frames := 0, cells := 0, slots := 0, locals := 0 } [.ref (o + pG w)] S (fun r u => r = z_sum (S w 2) 144 ∧ u = S) := by
  refine z_ofI (cc := cX0_tunnels) (maxL := 3) (by decide) rfl (by simp [lg_sl, Value.category]) ?_
  intro p9 e9 s9 m9 a9 b9 h9 c9 X
  refine v_lo [0] (lo' := [(0, .ref (o + pG w))]) rfl ?_
  refine v_iconst (v := 0) X (by decide) dX0_tunnels_0 ?_
  refine v_istore_n (lo' := [(1, .int 0), (0, .ref (o + pG w))]) X dX0_tunnels_1 rfl (by decide) rfl ?_
  refine v_iconst (v := 0) X (by decide) dX0_tunnels_2 ?_
  refine v_istore_n (lo' := [(2, .int 0), (1, .int 0), (0, .ref (o + pG w))]) X dX0_tunnels_3 rfl (by decide) rfl ?_
  have L_4 : ∀ (d i : Nat), i + d = 144 → z_V p9 l e9 (headSpec wsX0_tunnels { frames := 0, cells := 0, slots := 0, locals := 0 }).room s9 m9 a9 b9 h9 c9 (MQ b9 (va_Qi (fun r u => r = z_sum (S w 2) 144 ∧ u = S) (z_B G cI cZ cT o) (z_A o s9.heap.size)) a9 s9 0 0 (z_A o s9.heap.size)) G cI cZ cT o 3 (S) 4 [(0, .ref (o + pG w)), (1, .int (z_sum (S w 2) i)), (2, .int (nI i))] [] := by
    intro d
    induction d with
    | zero =>
      intro i hi_4
      rw [show i = 144 from by omega]
      refine v_iload_n X 2 dX0_tunnels_4 rfl rfl ?_
      refine v_sipush (v := 144) X (by decide) dX0_tunnels_5 ?_
      refine v_ncmp_ge X 144 144 rfl rfl (by omega) (by omega) (tgt := 26) dX0_tunnels_8 (by decide) (fun c_8 => ?_) (fun c_8 => ?_)
      ·
        refine v_iload_n X 1 dX0_tunnels_26 rfl rfl ?_
        exact v_iret X dX0_tunnels_27 (by exact ⟨rfl, rfl⟩)
      ·
        exact absurd c_8 (by omega)
    | succ d ih_4 =>
      intro i hi_4
      refine v_iload_n X 2 dX0_tunnels_4 rfl rfl ?_
      refine v_sipush (v := 144) X (by decide) dX0_tunnels_5 ?_
      refine v_ncmp_ge X i 144 rfl rfl (by omega) (by omega) (tgt := 26) dX0_tunnels_8 (by decide) (fun c_8 => ?_) (fun c_8 => ?_)
      ·
        exact absurd c_8 (by omega)
      ·
        refine v_iload_n X 1 dX0_tunnels_11 rfl rfl ?_
        refine v_aload_n X 0 dX0_tunnels_12 rfl rfl ?_
        refine v_getG X (by omega) 2 (by decide) hi_X0_tunnels_X0 hl_X0_tunnels_18 rfl (v := .ref (o + pA w 2)) rfl dX0_tunnels_13 ?_
        refine v_iload_n X 2 dX0_tunnels_16 rfl rfl ?_
        refine v_ialdA X (w := w) (by omega) 2 (by omega) i rfl (by omega) dX0_tunnels_17 ?_
        refine v_iadd X dX0_tunnels_18 ?_
        refine v_istore_n (lo' := [(1, .int ((z_sum (S w 2) i) + (S w 2 i))), (0, .ref (o + pG w)), (2, .int (nI i))]) X dX0_tunnels_19 rfl (by decide) rfl ?_
        refine v_iinc (v := nI (i + 1)) (lo' := [(2, .int (nI (i + 1))), (1, .int ((z_sum (S w 2) i) + (S w 2 i))), (0, .ref (o + pG w))]) X 2 dX0_tunnels_20 rfl (nI_1 i) (by decide) rfl ?_
        refine v_goto (tgt := 4) X dX0_tunnels_23 (by decide) ?_
        refine v_lo [2, 1, 0] (lo' := [(0, .ref (o + pG w)), (1, .int ((z_sum (S w 2) i) + (S w 2 i))), (2, .int (nI (i + 1)))]) rfl ?_
        refine v_eq (S' := S) (lo' := [(0, .ref (o + pG w)), (1, .int (z_sum (S w 2) (i + 1))), (2, .int (nI (i + 1)))]) (by rfl) (by simp [z_sum, *]) ?_
        exact ih_4 (i + 1) (by omega)
  refine v_lo [2, 1, 0] (lo' := [(0, .ref (o + pG w)), (1, .int 0), (2, .int 0)]) rfl ?_
  refine v_eq (S' := S) (lo' := [(0, .ref (o + pG w)), (1, .int (z_sum (S w 2) 0)), (2, .int (nI 0))]) (by rfl) (by rfl) ?_
  exact L_4 (144) 0 (by omega)
theorem hi_X0_allSmoke_X0 : ∀ w ∈ wsX00, w ∈ wsX0_allSmoke := by decide +kernel
theorem hl_X0_allSmoke_27 : Cond.fieldLink RX0 27 RX0 (TX0 5).2.1 (TX0 5).2.2.1 ∈ wsX0_allSmoke := by decide +kernel
set_option maxRecDepth 100000 in
set_option maxHeartbeats 4000000 in
/-- X0_allSmoke -/
theorem c_X0_allSmoke (l : Launch) (G : va_G) (cI cZ cT : ClassId) (o : Nat) (S : zS) (w : Nat) (hw : w < 2) : zI l G cI cZ cT o yX0_allSmoke wsX0_allSmoke { frames := 0, cells := 0, slots := 0, locals := 0 } [.ref (o + pG w)] S (fun r u => r = s_allSmoke S w ∧ u = S) := by
  refine z_ofI (cc := cX0_allSmoke) (maxL := 3) (by decide) rfl (by simp [lg_sl, Value.category]) ?_
  intro p9 e9 s9 m9 a9 b9 h9 c9 X
  refine v_lo [0] (lo' := [(0, .ref (o + pG w))]) rfl ?_
  refine v_iconst (v := 0) X (by decide) dX0_allSmoke_0 ?_
  refine v_istore_n (lo' := [(1, .int 0), (0, .ref (o + pG w))]) X dX0_allSmoke_1 rfl (by decide) rfl ?_
  refine v_iconst (v := 0) X (by decide) dX0_allSmoke_2 ?_
  refine v_istore_n (lo' := [(2, .int 0), (1, .int 0), (0, .ref (o + pG w))]) X dX0_allSmoke_3 rfl (by decide) rfl ?_
  have L_4 : ∀ (d i : Nat), i + d = 144 → z_V p9 l e9 (headSpec wsX0_allSmoke { frames := 0, cells := 0, slots := 0, locals := 0 }).room s9 m9 a9 b9 h9 c9 (MQ b9 (va_Qi (fun r u => r = s_allSmoke S w ∧ u = S) (z_B G cI cZ cT o) (z_A o s9.heap.size)) a9 s9 0 0 (z_A o s9.heap.size)) G cI cZ cT o 3 (S) 4 [(0, .ref (o + pG w)), (1, .int (z_sum (S w 5) i)), (2, .int (nI i))] [] := by
    intro d
    induction d with
    | zero =>
      intro i hi_4
      rw [show i = 144 from by omega]
      refine v_iload_n X 2 dX0_allSmoke_4 rfl rfl ?_
      refine v_sipush (v := 144) X (by decide) dX0_allSmoke_5 ?_
      refine v_ncmp_ge X 144 144 rfl rfl (by omega) (by omega) (tgt := 26) dX0_allSmoke_8 (by decide) (fun c_8 => ?_) (fun c_8 => ?_)
      ·
        refine v_iload_n X 1 dX0_allSmoke_26 rfl rfl ?_
        exact v_iret X dX0_allSmoke_27 (by exact ⟨rfl, rfl⟩)
      ·
        exact absurd c_8 (by omega)
    | succ d ih_4 =>
      intro i hi_4
      refine v_iload_n X 2 dX0_allSmoke_4 rfl rfl ?_
      refine v_sipush (v := 144) X (by decide) dX0_allSmoke_5 ?_
      refine v_ncmp_ge X i 144 rfl rfl (by omega) (by omega) (tgt := 26) dX0_allSmoke_8 (by decide) (fun c_8 => ?_) (fun c_8 => ?_)
      ·
        exact absurd c_8 (by omega)
      ·
        refine v_iload_n X 1 dX0_allSmoke_11 rfl rfl ?_
        refine v_aload_n X 0 dX0_allSmoke_12 rfl rfl ?_
        refine v_getG X (by omega) 5 (by decide) hi_X0_allSmoke_X0 hl_X0_allSmoke_27 rfl (v := .ref (o + pA w 5)) rfl dX0_allSmoke_13 ?_
        refine v_iload_n X 2 dX0_allSmoke_16 rfl rfl ?_
        refine v_ialdA X (w := w) (by omega) 5 (by omega) i rfl (by omega) dX0_allSmoke_17 ?_
        refine v_iadd X dX0_allSmoke_18 ?_
        refine v_istore_n (lo' := [(1, .int ((z_sum (S w 5) i) + (S w 5 i))), (0, .ref (o + pG w)), (2, .int (nI i))]) X dX0_allSmoke_19 rfl (by decide) rfl ?_
        refine v_iinc (v := nI (i + 1)) (lo' := [(2, .int (nI (i + 1))), (1, .int ((z_sum (S w 5) i) + (S w 5 i))), (0, .ref (o + pG w))]) X 2 dX0_allSmoke_20 rfl (nI_1 i) (by decide) rfl ?_
        refine v_goto (tgt := 4) X dX0_allSmoke_23 (by decide) ?_
        refine v_lo [2, 1, 0] (lo' := [(0, .ref (o + pG w)), (1, .int ((z_sum (S w 5) i) + (S w 5 i))), (2, .int (nI (i + 1)))]) rfl ?_
        refine v_eq (S' := S) (lo' := [(0, .ref (o + pG w)), (1, .int (z_sum (S w 5) (i + 1))), (2, .int (nI (i + 1)))]) (by rfl) (by simp [z_sum, *]) ?_
        exact ih_4 (i + 1) (by omega)
  refine v_lo [2, 1, 0] (lo' := [(0, .ref (o + pG w)), (1, .int 0), (2, .int 0)]) rfl ?_
  refine v_eq (S' := S) (lo' := [(0, .ref (o + pG w)), (1, .int (z_sum (S w 5) 0)), (2, .int (nI 0))]) (by rfl) (by rfl) ?_
  exact L_4 (144) 0 (by omega)
theorem hi_X0_wallsStanding_X0 : ∀ w ∈ wsX00, w ∈ wsX0_wallsStanding := by decide +kernel
theorem hl_X0_wallsStanding_15 : Cond.fieldLink RX0 15 RX0 (TX0 1).2.1 (TX0 1).2.2.1 ∈ wsX0_wallsStanding := by decide +kernel
set_option maxRecDepth 100000 in
set_option maxHeartbeats 4000000 in
/-- X0_wallsStanding -/
theorem c_X0_wallsStanding (l : Launch) (G : va_G) (cI cZ cT : ClassId) (o : Nat) (S : zS) (w : Nat) (hw : w < 2) : zI l G cI cZ cT o yX0_wallsStanding wsX0_wallsStanding { frames := 0, cells := 0, slots := 0, locals := 0 } [.ref (o + pG w)] S (fun r u => r = s_up S w ∧ u = S) := by
  refine z_ofI (cc := cX0_wallsStanding) (maxL := 3) (by decide) rfl (by simp [lg_sl, Value.category]) ?_
  intro p9 e9 s9 m9 a9 b9 h9 c9 X
  refine v_lo [0] (lo' := [(0, .ref (o + pG w))]) rfl ?_
  refine v_iconst (v := 0) X (by decide) dX0_wallsStanding_0 ?_
  refine v_istore_n (lo' := [(1, .int 0), (0, .ref (o + pG w))]) X dX0_wallsStanding_1 rfl (by decide) rfl ?_
  refine v_iconst (v := 0) X (by decide) dX0_wallsStanding_2 ?_
  refine v_istore_n (lo' := [(2, .int 0), (1, .int 0), (0, .ref (o + pG w))]) X dX0_wallsStanding_3 rfl (by decide) rfl ?_
  have L_4 : ∀ (d i : Nat), i + d = 144 → z_V p9 l e9 (headSpec wsX0_wallsStanding { frames := 0, cells := 0, slots := 0, locals := 0 }).room s9 m9 a9 b9 h9 c9 (MQ b9 (va_Qi (fun r u => r = s_up S w ∧ u = S) (z_B G cI cZ cT o) (z_A o s9.heap.size)) a9 s9 0 0 (z_A o s9.heap.size)) G cI cZ cT o 3 (S) 4 [(0, .ref (o + pG w)), (1, .int (z_sum (fun c => if 0 < S w 1 c then 1 else 0) i)), (2, .int (nI i))] [] := by
    intro d
    induction d with
    | zero =>
      intro i hi_4
      rw [show i = 144 from by omega]
      refine v_iload_n X 2 dX0_wallsStanding_4 rfl rfl ?_
      refine v_sipush (v := 144) X (by decide) dX0_wallsStanding_5 ?_
      refine v_ncmp_ge X 144 144 rfl rfl (by omega) (by omega) (tgt := 34) dX0_wallsStanding_8 (by decide) (fun c_8 => ?_) (fun c_8 => ?_)
      ·
        refine v_iload_n X 1 dX0_wallsStanding_34 rfl rfl ?_
        exact v_iret X dX0_wallsStanding_35 (by exact ⟨rfl, rfl⟩)
      ·
        exact absurd c_8 (by omega)
    | succ d ih_4 =>
      intro i hi_4
      refine v_iload_n X 2 dX0_wallsStanding_4 rfl rfl ?_
      refine v_sipush (v := 144) X (by decide) dX0_wallsStanding_5 ?_
      refine v_ncmp_ge X i 144 rfl rfl (by omega) (by omega) (tgt := 34) dX0_wallsStanding_8 (by decide) (fun c_8 => ?_) (fun c_8 => ?_)
      ·
        exact absurd c_8 (by omega)
      ·
        refine v_iload_n X 1 dX0_wallsStanding_11 rfl rfl ?_
        refine v_aload_n X 0 dX0_wallsStanding_12 rfl rfl ?_
        refine v_getG X (by omega) 1 (by decide) hi_X0_wallsStanding_X0 hl_X0_wallsStanding_15 rfl (v := .ref (o + pA w 1)) rfl dX0_wallsStanding_13 ?_
        refine v_iload_n X 2 dX0_wallsStanding_16 rfl rfl ?_
        refine v_ialdA X (w := w) (by omega) 1 (by omega) i rfl (by omega) dX0_wallsStanding_17 ?_
        refine v_if_le X (tgt := 25) dX0_wallsStanding_18 (by decide) (fun c_18 => ?_) (fun c_18 => ?_)
        ·
          refine v_iconst (v := 0) X (by decide) dX0_wallsStanding_25 ?_
          refine v_iadd X dX0_wallsStanding_26 ?_
          refine v_istore_n (lo' := [(1, .int ((z_sum (fun c => if 0 < S w 1 c then 1 else 0) i) + 0)), (0, .ref (o + pG w)), (2, .int (nI i))]) X dX0_wallsStanding_27 rfl (by decide) rfl ?_
          refine v_iinc (v := nI (i + 1)) (lo' := [(2, .int (nI (i + 1))), (1, .int ((z_sum (fun c => if 0 < S w 1 c then 1 else 0) i) + 0)), (0, .ref (o + pG w))]) X 2 dX0_wallsStanding_28 rfl (nI_1 i) (by decide) rfl ?_
          refine v_goto (tgt := 4) X dX0_wallsStanding_31 (by decide) ?_
          refine v_lo [2, 1, 0] (lo' := [(0, .ref (o + pG w)), (1, .int ((z_sum (fun c => if 0 < S w 1 c then 1 else 0) i) + 0)), (2, .int (nI (i + 1)))]) rfl ?_
          refine v_eq (S' := S) (lo' := [(0, .ref (o + pG w)), (1, .int (z_sum (fun c => if 0 < S w 1 c then 1 else 0) (i + 1))), (2, .int (nI (i + 1)))]) (by rfl) (by simp [z_sum, *]) ?_
          exact ih_4 (i + 1) (by omega)
        ·
          refine v_iconst (v := 1) X (by decide) dX0_wallsStanding_21 ?_
          refine v_goto (tgt := 26) X dX0_wallsStanding_22 (by decide) ?_
          refine v_iadd X dX0_wallsStanding_26 ?_
          refine v_istore_n (lo' := [(1, .int ((z_sum (fun c => if 0 < S w 1 c then 1 else 0) i) + 1)), (0, .ref (o + pG w)), (2, .int (nI i))]) X dX0_wallsStanding_27 rfl (by decide) rfl ?_
          refine v_iinc (v := nI (i + 1)) (lo' := [(2, .int (nI (i + 1))), (1, .int ((z_sum (fun c => if 0 < S w 1 c then 1 else 0) i) + 1)), (0, .ref (o + pG w))]) X 2 dX0_wallsStanding_28 rfl (nI_1 i) (by decide) rfl ?_
          refine v_goto (tgt := 4) X dX0_wallsStanding_31 (by decide) ?_
          refine v_lo [2, 1, 0] (lo' := [(0, .ref (o + pG w)), (1, .int ((z_sum (fun c => if 0 < S w 1 c then 1 else 0) i) + 1)), (2, .int (nI (i + 1)))]) rfl ?_
          refine v_eq (S' := S) (lo' := [(0, .ref (o + pG w)), (1, .int (z_sum (fun c => if 0 < S w 1 c then 1 else 0) (i + 1))), (2, .int (nI (i + 1)))]) (by rfl) (by simp [z_sum, *]) ?_
          exact ih_4 (i + 1) (by omega)
  refine v_lo [2, 1, 0] (lo' := [(0, .ref (o + pG w)), (1, .int 0), (2, .int 0)]) rfl ?_
  refine v_eq (S' := S) (lo' := [(0, .ref (o + pG w)), (1, .int (z_sum (fun c => if 0 < S w 1 c then 1 else 0) 0)), (2, .int (nI 0))]) (by rfl) (by rfl) ?_
  exact L_4 (144) 0 (by omega)
theorem hi_X0_wallsFallen_X0 : ∀ w ∈ wsX00, w ∈ wsX0_wallsFallen := by decide +kernel
theorem hl_X0_wallsFallen_15 : Cond.fieldLink RX0 15 RX0 (TX0 1).2.1 (TX0 1).2.2.1 ∈ wsX0_wallsFallen := by decide +kernel
set_option maxRecDepth 100000 in
set_option maxHeartbeats 4000000 in
/-- X0_wallsFallen -/
theorem c_X0_wallsFallen (l : Launch) (G : va_G) (cI cZ cT : ClassId) (o : Nat) (S : zS) (w : Nat) (hw : w < 2) : zI l G cI cZ cT o yX0_wallsFallen wsX0_wallsFallen { frames := 0, cells := 0, slots := 0, locals := 0 } [.ref (o + pG w)] S (fun r u => r = s_down S w ∧ u = S) := by
  refine z_ofI (cc := cX0_wallsFallen) (maxL := 3) (by decide) rfl (by simp [lg_sl, Value.category]) ?_
  intro p9 e9 s9 m9 a9 b9 h9 c9 X
  refine v_lo [0] (lo' := [(0, .ref (o + pG w))]) rfl ?_
  refine v_iconst (v := 0) X (by decide) dX0_wallsFallen_0 ?_
  refine v_istore_n (lo' := [(1, .int 0), (0, .ref (o + pG w))]) X dX0_wallsFallen_1 rfl (by decide) rfl ?_
  refine v_iconst (v := 0) X (by decide) dX0_wallsFallen_2 ?_
  refine v_istore_n (lo' := [(2, .int 0), (1, .int 0), (0, .ref (o + pG w))]) X dX0_wallsFallen_3 rfl (by decide) rfl ?_
  have L_4 : ∀ (d i : Nat), i + d = 144 → z_V p9 l e9 (headSpec wsX0_wallsFallen { frames := 0, cells := 0, slots := 0, locals := 0 }).room s9 m9 a9 b9 h9 c9 (MQ b9 (va_Qi (fun r u => r = s_down S w ∧ u = S) (z_B G cI cZ cT o) (z_A o s9.heap.size)) a9 s9 0 0 (z_A o s9.heap.size)) G cI cZ cT o 3 (S) 4 [(0, .ref (o + pG w)), (1, .int (z_sum (fun c => if S w 1 c = 0 then 1 else 0) i)), (2, .int (nI i))] [] := by
    intro d
    induction d with
    | zero =>
      intro i hi_4
      rw [show i = 144 from by omega]
      refine v_iload_n X 2 dX0_wallsFallen_4 rfl rfl ?_
      refine v_sipush (v := 144) X (by decide) dX0_wallsFallen_5 ?_
      refine v_ncmp_ge X 144 144 rfl rfl (by omega) (by omega) (tgt := 34) dX0_wallsFallen_8 (by decide) (fun c_8 => ?_) (fun c_8 => ?_)
      ·
        refine v_iload_n X 1 dX0_wallsFallen_34 rfl rfl ?_
        exact v_iret X dX0_wallsFallen_35 (by exact ⟨rfl, rfl⟩)
      ·
        exact absurd c_8 (by omega)
    | succ d ih_4 =>
      intro i hi_4
      refine v_iload_n X 2 dX0_wallsFallen_4 rfl rfl ?_
      refine v_sipush (v := 144) X (by decide) dX0_wallsFallen_5 ?_
      refine v_ncmp_ge X i 144 rfl rfl (by omega) (by omega) (tgt := 34) dX0_wallsFallen_8 (by decide) (fun c_8 => ?_) (fun c_8 => ?_)
      ·
        exact absurd c_8 (by omega)
      ·
        refine v_iload_n X 1 dX0_wallsFallen_11 rfl rfl ?_
        refine v_aload_n X 0 dX0_wallsFallen_12 rfl rfl ?_
        refine v_getG X (by omega) 1 (by decide) hi_X0_wallsFallen_X0 hl_X0_wallsFallen_15 rfl (v := .ref (o + pA w 1)) rfl dX0_wallsFallen_13 ?_
        refine v_iload_n X 2 dX0_wallsFallen_16 rfl rfl ?_
        refine v_ialdA X (w := w) (by omega) 1 (by omega) i rfl (by omega) dX0_wallsFallen_17 ?_
        refine v_if_ne X (tgt := 25) dX0_wallsFallen_18 (by decide) (fun c_18 => ?_) (fun c_18 => ?_)
        ·
          refine v_iconst (v := 0) X (by decide) dX0_wallsFallen_25 ?_
          refine v_iadd X dX0_wallsFallen_26 ?_
          refine v_istore_n (lo' := [(1, .int ((z_sum (fun c => if S w 1 c = 0 then 1 else 0) i) + 0)), (0, .ref (o + pG w)), (2, .int (nI i))]) X dX0_wallsFallen_27 rfl (by decide) rfl ?_
          refine v_iinc (v := nI (i + 1)) (lo' := [(2, .int (nI (i + 1))), (1, .int ((z_sum (fun c => if S w 1 c = 0 then 1 else 0) i) + 0)), (0, .ref (o + pG w))]) X 2 dX0_wallsFallen_28 rfl (nI_1 i) (by decide) rfl ?_
          refine v_goto (tgt := 4) X dX0_wallsFallen_31 (by decide) ?_
          refine v_lo [2, 1, 0] (lo' := [(0, .ref (o + pG w)), (1, .int ((z_sum (fun c => if S w 1 c = 0 then 1 else 0) i) + 0)), (2, .int (nI (i + 1)))]) rfl ?_
          refine v_eq (S' := S) (lo' := [(0, .ref (o + pG w)), (1, .int (z_sum (fun c => if S w 1 c = 0 then 1 else 0) (i + 1))), (2, .int (nI (i + 1)))]) (by rfl) (by simp [z_sum, *]) ?_
          exact ih_4 (i + 1) (by omega)
        ·
          refine v_iconst (v := 1) X (by decide) dX0_wallsFallen_21 ?_
          refine v_goto (tgt := 26) X dX0_wallsFallen_22 (by decide) ?_
          refine v_iadd X dX0_wallsFallen_26 ?_
          refine v_istore_n (lo' := [(1, .int ((z_sum (fun c => if S w 1 c = 0 then 1 else 0) i) + 1)), (0, .ref (o + pG w)), (2, .int (nI i))]) X dX0_wallsFallen_27 rfl (by decide) rfl ?_
          refine v_iinc (v := nI (i + 1)) (lo' := [(2, .int (nI (i + 1))), (1, .int ((z_sum (fun c => if S w 1 c = 0 then 1 else 0) i) + 1)), (0, .ref (o + pG w))]) X 2 dX0_wallsFallen_28 rfl (nI_1 i) (by decide) rfl ?_
          refine v_goto (tgt := 4) X dX0_wallsFallen_31 (by decide) ?_
          refine v_lo [2, 1, 0] (lo' := [(0, .ref (o + pG w)), (1, .int ((z_sum (fun c => if S w 1 c = 0 then 1 else 0) i) + 1)), (2, .int (nI (i + 1)))]) rfl ?_
          refine v_eq (S' := S) (lo' := [(0, .ref (o + pG w)), (1, .int (z_sum (fun c => if S w 1 c = 0 then 1 else 0) (i + 1))), (2, .int (nI (i + 1)))]) (by rfl) (by simp [z_sum, *]) ?_
          exact ih_4 (i + 1) (by omega)
  refine v_lo [2, 1, 0] (lo' := [(0, .ref (o + pG w)), (1, .int 0), (2, .int 0)]) rfl ?_
  refine v_eq (S' := S) (lo' := [(0, .ref (o + pG w)), (1, .int (z_sum (fun c => if S w 1 c = 0 then 1 else 0) 0)), (2, .int (nI 0))]) (by rfl) (by rfl) ?_
  exact L_4 (144) 0 (by omega)
end ZM1
