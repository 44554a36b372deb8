section ZM1
/-! what the class's methods do, said over the state (the same steps in the same order as the code, without the machine) -/
def z_sum (f : Nat → Int32) : Nat → Int32
  | 0 => 0
  | i + 1 => z_sum f i + f i
-- neighbours: is there one in a direction, and which
def nbb (c d : Nat) : Bool := if d = 0 then decide (0 < c / 12) else if d = 1 then decide (c % 12 < 11) else if d = 2 then decide (c / 12 < 11) else decide (0 < c % 12)
def nbn (c d : Nat) : Nat := if d = 0 then c - 12 else if d = 1 then c + 1 else if d = 2 then c + 12 else c - 1
def z_nb (c d : Nat) : Int32 := if nbb c d = true then nI (nbn c d) else -1
theorem nbn_lt {c d : Nat} (hc : c < 144) (h : nbb c d = true) : nbn c d < 144 := by
  unfold nbb at h
  unfold nbn
  split <;> rename_i h0
  · omega
  · rw [if_neg h0] at h
    split <;> rename_i h1
    · rw [if_pos h1] at h; have := of_decide_eq_true h; omega
    · rw [if_neg h1] at h
      split <;> rename_i h2
      · rw [if_pos h2] at h; have := of_decide_eq_true h; omega
      · omega
def z_abs (x : Int32) : Int32 := if 0 ≤ x then x else 0 - x
def z_max0 (x : Int32) : Int32 := if 0 < x then x else 0
def z_dist (a b : Nat) : Int32 := z_abs (nI (a % 12) - nI (b % 12)) + z_abs (nI (a / 12) - nI (b / 12))
def s_isRock (S : zS) (w c : Nat) : Int32 := if S w 0 c = 0 then 1 else 0
def s_isTunnel (S : zS) (w c : Nat) : Int32 := if S w 2 c = 1 then 1 else 0
def s_workLeft (S : zS) (w c : Nat) : Int32 := 3 * S w 0 c - S w 6 c
def s_empty (S : zS) (w c : Nat) : zS := z_up (z_up (z_up (z_up (z_up S w 3 c 0) w 4 c 0) w 5 c 0) w 6 c 0) w 7 c 0
def s_openTunnel (S : zS) (w c : Nat) : zS := z_up (s_empty S w c) w 2 c 1
def s_makeEarth (S : zS) (w c : Nat) (h : Int32) : zS := z_up (z_up (s_empty S w c) w 2 c 0) w 0 c h
def s_need (S : zS) (w c : Nat) : Int32 := if S w 0 c < 7 then (if S w 0 c < 4 then 2 else 1) else 0
def s_valueOf (S : zS) (w c k : Nat) : Int32 := S w k c
def s_givesWay (S : zS) (w c : Nat) : Int32 × zS :=
  if 0 < S w 7 c then (if S w 7 c - 1 = 0 then 1 else 0, z_up S w 7 c (S w 7 c - 1))
  else if S w 3 c < s_need S w c then (if 4 * S w 0 c < S w 4 c + 1 then 1 else 0, z_up S w 4 c (S w 4 c + 1))
  else (if 4 * S w 0 c < 0 then 1 else 0, z_up S w 4 c 0)
def s_fallIn0 (S : zS) (w c : Nat) : zS := z_up (z_up (s_makeEarth S w c 2) w 8 c 1) w 10 0 (s_makeEarth S w c 2 w 10 0 + 1)
def s_fallIn (S : zS) (w c : Nat) : zS :=
  if 0 < s_makeEarth S w c 2 w 1 c then
    (if z_max0 (s_makeEarth S w c 2 w 1 c - 8) = 0 then z_up (z_up (s_fallIn0 S w c) w 1 c (z_max0 (s_makeEarth S w c 2 w 1 c - 8))) w 11 0 (s_makeEarth S w c 2 w 11 0 + 1)
     else z_up (s_fallIn0 S w c) w 1 c (z_max0 (s_makeEarth S w c 2 w 1 c - 8)))
  else s_fallIn0 S w c
def s_settle1 (S : zS) (w c : Nat) : zS :=
  if s_isTunnel (z_up S w 8 c 0) w c = 0 then z_up S w 8 c 0
  else if (s_givesWay (z_up S w 8 c 0) w c).1 = 0 then (s_givesWay (z_up S w 8 c 0) w c).2
  else s_fallIn (s_givesWay (z_up S w 8 c 0) w c).2 w c
def s_settle (S : zS) (w : Nat) : Nat → zS
  | 0 => S
  | i + 1 => s_settle1 (s_settle S w i) w i
def s_burn (S : zS) (w c : Nat) : zS := if S w 7 c = 0 then z_up (z_up S w 3 c 0) w 7 c 4 else z_up S w 3 c 0
def s_burn1 (S : zS) (w c d : Nat) : zS := if nbb c d = true then (if s_isTunnel S w (nbn c d) = 0 then S else s_burn S w (nbn c d)) else S
def s_burnN (S : zS) (w c : Nat) : Nat → zS
  | 0 => S
  | d + 1 => s_burn1 (s_burnN S w c d) w c d
def s_fire1 (S : zS) (w c d : Nat) : zS := if nbb c d = true then (if s_isTunnel S w (nbn c d) = 0 then S else s_burnN (s_burn S w (nbn c d)) w (nbn c d) 4) else S
def s_fireN (S : zS) (w c : Nat) : Nat → zS
  | 0 => s_burn S w c
  | d + 1 => s_fire1 (s_fireN S w c d) w c d
def s_fire (S : zS) (w c : Nat) : zS := s_fireN S w c 4
def s_avg1 (S : zS) (w c d : Nat) (q : Int32 × Nat) : Int32 × Nat := if nbb c d = true then (if s_isTunnel S w (nbn c d) = 0 then q else (q.1 + S w 9 (nbn c d), q.2 + 1)) else q
def s_avgN (S : zS) (w c : Nat) : Nat → Int32 × Nat
  | 0 => (S w 9 c, 1)
  | d + 1 => s_avg1 S w c d (s_avgN S w c d)
theorem s_avgN_le (S : zS) (w c : Nat) : ∀ d, 1 ≤ (s_avgN S w c d).2 ∧ (s_avgN S w c d).2 ≤ d + 1
  | 0 => ⟨Nat.le_refl 1, Nat.le_refl 1⟩
  | d + 1 => by
    have h := s_avgN_le S w c d
    show 1 ≤ (s_avg1 S w c d (s_avgN S w c d)).2 ∧ (s_avg1 S w c d (s_avgN S w c d)).2 ≤ d + 1 + 1
    unfold s_avg1
    split
    · split
      · omega
      · show 1 ≤ (s_avgN S w c d).2 + 1 ∧ (s_avgN S w c d).2 + 1 ≤ d + 1 + 1; omega
    · omega
def s_avg (S : zS) (w c : Nat) : Int32 := (s_avgN S w c 4).1 / nI (s_avgN S w c 4).2
def s_smoke1 (S : zS) (w c : Nat) : zS := if s_isTunnel S w c = 0 then S else z_up S w 5 c (z_max0 (s_avg S w c - 1))
def s_smokeN (S : zS) (w : Nat) : Nat → zS
  | 0 => z_cpA S w 9 w 5
  | i + 1 => s_smoke1 (s_smokeN S w i) w i
def s_allSmoke (S : zS) (w : Nat) : Int32 := z_sum (S w 5) 144
def s_smoke (S : zS) (w : Nat) : zS := if s_allSmoke S w = 0 then S else s_smokeN S w 144
def s_up (S : zS) (w : Nat) : Int32 := z_sum (fun c => if 0 < S w 1 c then 1 else 0) 144
def s_down (S : zS) (w : Nat) : Int32 := z_sum (fun c => if S w 1 c = 0 then 1 else 0) 144

theorem hi_X0_isRock_X0 : ∀ w ∈ wsX00, w ∈ wsX0_isRock := by decide +kernel
theorem hl_X0_isRock_9 : Cond.fieldLink RX0 9 RX0 (TX0 0).2.1 (TX0 0).2.2.1 ∈ wsX0_isRock := by decide +kernel
set_option maxRecDepth 100000 in
set_option maxHeartbeats 4000000 in
/-- X0_isRock -/
theorem c_X0_isRock (l : Launch) (G : va_G) (cI cZ cT : ClassId) (o : Nat) (S : zS) (w c : Nat) (hw : w < 2) (hc : c < 144) : zI l G cI cZ cT o yX0_isRock wsX0_isRock { frames := 0, cells := 0, slots := 0, locals := 0 } [.ref (o + pG w), .int (nI c)] S (fun r u => r = s_isRock S w c ∧ u = S) := by
  refine z_ofZb (cc := cX0_isRock) (maxL := 2) (by decide) rfl (by simp [lg_sl, Value.category]) ?_
  intro p9 e9 s9 m9 a9 b9 h9 c9 X
  refine v_lo [0, 1] (lo' := [(0, .ref (o + pG w)), (1, .int (nI c))]) rfl ?_
  refine v_aload_n X 0 dX0_isRock_0 rfl rfl ?_
  refine v_getG X (by omega) 0 (by decide) hi_X0_isRock_X0 hl_X0_isRock_9 rfl (v := .ref (o + pA w 0)) rfl dX0_isRock_1 ?_
  refine v_iload_n X 1 dX0_isRock_4 rfl rfl ?_
  refine v_ialdA X (w := w) (by omega) 0 (by omega) c rfl (by omega) dX0_isRock_5 ?_
  refine v_if_ne X (tgt := 13) dX0_isRock_6 (by decide) (fun c_6 => ?_) (fun c_6 => ?_)
  ·
    refine v_iconst (v := 0) X (by decide) dX0_isRock_13 ?_
    exact v_zret X rfl dX0_isRock_14 (by simp [s_isRock, *])
  ·
    refine v_iconst (v := 1) X (by decide) dX0_isRock_9 ?_
    refine v_goto (tgt := 14) X dX0_isRock_10 (by decide) ?_
    exact v_zret X rfl dX0_isRock_14 (by simp [s_isRock, *])
theorem hi_X0_isTunnel_X0 : ∀ w ∈ wsX00, w ∈ wsX0_isTunnel := by decide +kernel
theorem hl_X0_isTunnel_18 : Cond.fieldLink RX0 18 RX0 (TX0 2).2.1 (TX0 2).2.2.1 ∈ wsX0_isTunnel := by decide +kernel
set_option maxRecDepth 100000 in
set_option maxHeartbeats 4000000 in
/-- X0_isTunnel -/
theorem c_X0_isTunnel (l : Launch) (G : va_G) (cI cZ cT : ClassId) (o : Nat) (S : zS) (w c : Nat) (hw : w < 2) (hc : c < 144) : zI l G cI cZ cT o yX0_isTunnel wsX0_isTunnel { frames := 0, cells := 0, slots := 0, locals := 0 } [.ref (o + pG w), .int (nI c)] S (fun r u => r = s_isTunnel S w c ∧ u = S) := by
  refine z_ofZb (cc := cX0_isTunnel) (maxL := 2) (by decide) rfl (by simp [lg_sl, Value.category]) ?_
  intro p9 e9 s9 m9 a9 b9 h9 c9 X
  refine v_lo [0, 1] (lo' := [(0, .ref (o + pG w)), (1, .int (nI c))]) rfl ?_
  refine v_aload_n X 0 dX0_isTunnel_0 rfl rfl ?_
  refine v_getG X (by omega) 2 (by decide) hi_X0_isTunnel_X0 hl_X0_isTunnel_18 rfl (v := .ref (o + pA w 2)) rfl dX0_isTunnel_1 ?_
  refine v_iload_n X 1 dX0_isTunnel_4 rfl rfl ?_
  refine v_ialdA X (w := w) (by omega) 2 (by omega) c rfl (by omega) dX0_isTunnel_5 ?_
  refine v_iconst (v := 1) X (by decide) dX0_isTunnel_6 ?_
  refine v_icmp_ne X (tgt := 14) dX0_isTunnel_7 (by decide) (fun c_7 => ?_) (fun c_7 => ?_)
  ·
    refine v_iconst (v := 0) X (by decide) dX0_isTunnel_14 ?_
    exact v_zret X rfl dX0_isTunnel_15 (by simp [s_isTunnel, *])
  ·
    refine v_iconst (v := 1) X (by decide) dX0_isTunnel_10 ?_
    refine v_goto (tgt := 15) X dX0_isTunnel_11 (by decide) ?_
    exact v_zret X rfl dX0_isTunnel_15 (by simp [s_isTunnel, *])
theorem hi_X0_workLeft_X0 : ∀ w ∈ wsX00, w ∈ wsX0_workLeft := by decide +kernel
theorem hl_X0_workLeft_9 : Cond.fieldLink RX0 9 RX0 (TX0 0).2.1 (TX0 0).2.2.1 ∈ wsX0_workLeft := by decide +kernel
theorem hl_X0_workLeft_30 : Cond.fieldLink RX0 30 RX0 (TX0 6).2.1 (TX0 6).2.2.1 ∈ wsX0_workLeft := by decide +kernel
set_option maxRecDepth 100000 in
set_option maxHeartbeats 4000000 in
/-- X0_workLeft -/
theorem c_X0_workLeft (l : Launch) (G : va_G) (cI cZ cT : ClassId) (o : Nat) (S : zS) (w c : Nat) (hw : w < 2) (hc : c < 144) : zI l G cI cZ cT o yX0_workLeft wsX0_workLeft { frames := 0, cells := 0, slots := 0, locals := 0 } [.ref (o + pG w), .int (nI c)] S (fun r u => r = s_workLeft S w c ∧ u = S) := by
  refine z_ofI (cc := cX0_workLeft) (maxL := 2) (by decide) rfl (by simp [lg_sl, Value.category]) ?_
  intro p9 e9 s9 m9 a9 b9 h9 c9 X
  refine v_lo [0, 1] (lo' := [(0, .ref (o + pG w)), (1, .int (nI c))]) rfl ?_
  refine v_iconst (v := 3) X (by decide) dX0_workLeft_0 ?_
  refine v_aload_n X 0 dX0_workLeft_1 rfl rfl ?_
  refine v_getG X (by omega) 0 (by decide) hi_X0_workLeft_X0 hl_X0_workLeft_9 rfl (v := .ref (o + pA w 0)) rfl dX0_workLeft_2 ?_
  refine v_iload_n X 1 dX0_workLeft_5 rfl rfl ?_
  refine v_ialdA X (w := w) (by omega) 0 (by omega) c rfl (by omega) dX0_workLeft_6 ?_
  refine v_imul X dX0_workLeft_7 ?_
  refine v_aload_n X 0 dX0_workLeft_8 rfl rfl ?_
  refine v_getG X (by omega) 6 (by decide) hi_X0_workLeft_X0 hl_X0_workLeft_30 rfl (v := .ref (o + pA w 6)) rfl dX0_workLeft_9 ?_
  refine v_iload_n X 1 dX0_workLeft_12 rfl rfl ?_
  refine v_ialdA X (w := w) (by omega) 6 (by omega) c rfl (by omega) dX0_workLeft_13 ?_
  refine v_isub X dX0_workLeft_14 ?_
  exact v_iret X dX0_workLeft_15 (by simp [s_workLeft, *])
theorem hi_X0_propsNeeded_X0 : ∀ w ∈ wsX00, w ∈ wsX0_propsNeeded := by decide +kernel
theorem hl_X0_propsNeeded_9 : Cond.fieldLink RX0 9 RX0 (TX0 0).2.1 (TX0 0).2.2.1 ∈ wsX0_propsNeeded := by decide +kernel
set_option maxRecDepth 100000 in
set_option maxHeartbeats 4000000 in
/-- X0_propsNeeded -/
theorem c_X0_propsNeeded (l : Launch) (G : va_G) (cI cZ cT : ClassId) (o : Nat) (S : zS) (w c : Nat) (hw : w < 2) (hc : c < 144) : zI l G cI cZ cT o yX0_propsNeeded wsX0_propsNeeded { frames := 0, cells := 0, slots := 0, locals := 0 } [.ref (o + pG w), .int (nI c)] S (fun r u => r = s_need S w c ∧ u = S) := by
  refine z_ofI (cc := cX0_propsNeeded) (maxL := 2) (by decide) rfl (by simp [lg_sl, Value.category]) ?_
  intro p9 e9 s9 m9 a9 b9 h9 c9 X
  refine v_lo [0, 1] (lo' := [(0, .ref (o + pG w)), (1, .int (nI c))]) rfl ?_
  refine v_aload_n X 0 dX0_propsNeeded_0 rfl rfl ?_
  refine v_getG X (by omega) 0 (by decide) hi_X0_propsNeeded_X0 hl_X0_propsNeeded_9 rfl (v := .ref (o + pA w 0)) rfl dX0_propsNeeded_1 ?_
  refine v_iload_n X 1 dX0_propsNeeded_4 rfl rfl ?_
  refine v_ialdA X (w := w) (by omega) 0 (by omega) c rfl (by omega) dX0_propsNeeded_5 ?_
  refine v_bipush (v := 7) X (by decide) dX0_propsNeeded_6 ?_
  refine v_icmp_lt X (tgt := 13) dX0_propsNeeded_8 (by decide) (fun c_8 => ?_) (fun c_8 => ?_)
  ·
    refine v_aload_n X 0 dX0_propsNeeded_13 rfl rfl ?_
    refine v_getG X (by omega) 0 (by decide) hi_X0_propsNeeded_X0 hl_X0_propsNeeded_9 rfl (v := .ref (o + pA w 0)) rfl dX0_propsNeeded_14 ?_
    refine v_iload_n X 1 dX0_propsNeeded_17 rfl rfl ?_
    refine v_ialdA X (w := w) (by omega) 0 (by omega) c rfl (by omega) dX0_propsNeeded_18 ?_
    refine v_iconst (v := 4) X (by decide) dX0_propsNeeded_19 ?_
    refine v_icmp_lt X (tgt := 27) dX0_propsNeeded_20 (by decide) (fun c_20 => ?_) (fun c_20 => ?_)
    ·
      refine v_iconst (v := 2) X (by decide) dX0_propsNeeded_27 ?_
      exact v_iret X dX0_propsNeeded_28 (by simp [s_need, *])
    ·
      refine v_iconst (v := 1) X (by decide) dX0_propsNeeded_23 ?_
      refine v_goto (tgt := 28) X dX0_propsNeeded_24 (by decide) ?_
      exact v_iret X dX0_propsNeeded_28 (by simp [s_need, *])
  ·
    refine v_iconst (v := 0) X (by decide) dX0_propsNeeded_11 ?_
    exact v_iret X dX0_propsNeeded_12 (by simp [s_need, *])
theorem hi_X0_empty_X0 : ∀ w ∈ wsX00, w ∈ wsX0_empty := by decide +kernel
theorem hl_X0_empty_21 : Cond.fieldLink RX0 21 RX0 (TX0 3).2.1 (TX0 3).2.2.1 ∈ wsX0_empty := by decide +kernel
theorem hl_X0_empty_24 : Cond.fieldLink RX0 24 RX0 (TX0 4).2.1 (TX0 4).2.2.1 ∈ wsX0_empty := by decide +kernel
theorem hl_X0_empty_27 : Cond.fieldLink RX0 27 RX0 (TX0 5).2.1 (TX0 5).2.2.1 ∈ wsX0_empty := by decide +kernel
theorem hl_X0_empty_30 : Cond.fieldLink RX0 30 RX0 (TX0 6).2.1 (TX0 6).2.2.1 ∈ wsX0_empty := by decide +kernel
theorem hl_X0_empty_33 : Cond.fieldLink RX0 33 RX0 (TX0 7).2.1 (TX0 7).2.2.1 ∈ wsX0_empty := by decide +kernel
set_option maxRecDepth 100000 in
set_option maxHeartbeats 4000000 in
/-- X0_empty -/
theorem c_X0_empty (l : Launch) (G : va_G) (cI cZ cT : ClassId) (o : Nat) (S : zS) (w c : Nat) (hw : w < 2) (hc : c < 144) : zU l G cI cZ cT o yX0_empty wsX0_empty { frames := 0, cells := 0, slots := 0, locals := 0 } [.ref (o + pG w), .int (nI c)] S (fun u => u = s_empty S w c) := by
  refine z_ofV (cc := cX0_empty) (maxL := 2) (by decide) rfl (by simp [lg_sl, Value.category]) ?_
  intro p9 e9 s9 m9 a9 b9 h9 c9 X
  refine v_lo [0, 1] (lo' := [(0, .ref (o + pG w)), (1, .int (nI c))]) rfl ?_
  refine v_aload_n X 0 dX0_empty_0 rfl rfl ?_
  refine v_getG X (by omega) 3 (by decide) hi_X0_empty_X0 hl_X0_empty_21 rfl (v := .ref (o + pA w 3)) rfl dX0_empty_1 ?_
  refine v_iload_n X 1 dX0_empty_4 rfl rfl ?_
  refine v_iconst (v := 0) X (by decide) dX0_empty_5 ?_
  refine v_iastA X (w := w) (by omega) 3 (by omega) c rfl (by omega) dX0_empty_6 ?_
  refine v_aload_n X 0 dX0_empty_7 rfl rfl ?_
  refine v_getG X (by omega) 4 (by decide) hi_X0_empty_X0 hl_X0_empty_24 rfl (v := .ref (o + pA w 4)) rfl dX0_empty_8 ?_
  refine v_iload_n X 1 dX0_empty_11 rfl rfl ?_
  refine v_iconst (v := 0) X (by decide) dX0_empty_12 ?_
  refine v_iastA X (w := w) (by omega) 4 (by omega) c rfl (by omega) dX0_empty_13 ?_
  refine v_aload_n X 0 dX0_empty_14 rfl rfl ?_
  refine v_getG X (by omega) 5 (by decide) hi_X0_empty_X0 hl_X0_empty_27 rfl (v := .ref (o + pA w 5)) rfl dX0_empty_15 ?_
  refine v_iload_n X 1 dX0_empty_18 rfl rfl ?_
  refine v_iconst (v := 0) X (by decide) dX0_empty_19 ?_
  refine v_iastA X (w := w) (by omega) 5 (by omega) c rfl (by omega) dX0_empty_20 ?_
  refine v_aload_n X 0 dX0_empty_21 rfl rfl ?_
  refine v_getG X (by omega) 6 (by decide) hi_X0_empty_X0 hl_X0_empty_30 rfl (v := .ref (o + pA w 6)) rfl dX0_empty_22 ?_
  refine v_iload_n X 1 dX0_empty_25 rfl rfl ?_
  refine v_iconst (v := 0) X (by decide) dX0_empty_26 ?_
  refine v_iastA X (w := w) (by omega) 6 (by omega) c rfl (by omega) dX0_empty_27 ?_
  refine v_aload_n X 0 dX0_empty_28 rfl rfl ?_
  refine v_getG X (by omega) 7 (by decide) hi_X0_empty_X0 hl_X0_empty_33 rfl (v := .ref (o + pA w 7)) rfl dX0_empty_29 ?_
  refine v_iload_n X 1 dX0_empty_32 rfl rfl ?_
  refine v_iconst (v := 0) X (by decide) dX0_empty_33 ?_
  refine v_iastA X (w := w) (by omega) 7 (by omega) c rfl (by omega) dX0_empty_34 ?_
  exact v_vret X dX0_empty_35 (by rfl)
theorem hy_X0_empty_V : yX0_empty.cls = RX0 ∧ yX0_empty.cls ≠ "java/lang/invoke/MethodHandle" ∧ yX0_empty.cls ≠ "java/lang/invoke/VarHandle" ∧ (parseMethodDescriptor yX0_empty.desc).map (fun d => d.parameters.length) = some 1 := by decide +kernel
theorem hi_X0_openTunnel_X0 : ∀ w ∈ wsX00, w ∈ wsX0_openTunnel := by decide +kernel
theorem hl_X0_openTunnel_18 : Cond.fieldLink RX0 18 RX0 (TX0 2).2.1 (TX0 2).2.2.1 ∈ wsX0_openTunnel := by decide +kernel
set_option maxRecDepth 100000 in
set_option maxHeartbeats 4000000 in
/-- X0_openTunnel -/
theorem c_X0_openTunnel (l : Launch) (G : va_G) (cI cZ cT : ClassId) (o : Nat) (S : zS) (w c : Nat) (hw : w < 2) (hc : c < 144) : zU l G cI cZ cT o yX0_openTunnel wsX0_openTunnel { frames := 1, cells := 0, slots := 0, locals := 21 } [.ref (o + pG w), .int (nI c)] S (fun u => u = s_openTunnel S w c) := by
  refine z_ofV (cc := cX0_openTunnel) (maxL := 2) (by decide) rfl (by simp [lg_sl, Value.category]) ?_
  intro p9 e9 s9 m9 a9 b9 h9 c9 X
  refine v_lo [0, 1] (lo' := [(0, .ref (o + pG w)), (1, .int (nI c))]) rfl ?_
  refine v_aload_n X 0 dX0_openTunnel_0 rfl rfl ?_
  refine v_iload_n X 1 dX0_openTunnel_1 rfl rfl ?_
  refine v_callVUf X [.int (nI c)] (pG w) (pG_lt (by omega)) (c_X0_empty l G cI cZ cT o S w c (by omega) (by omega)) (zc_G cI cZ cT o _ (by omega)) (C := RX0) (T := TX0) (N := 12) rfl 1 rfl gX0_openTunnel_X0_empty rfl ⟨rfl, rfl⟩ hy_X0_empty_V ⟨Nat.le_of_ble_eq_true rfl, Nat.le_of_ble_eq_true rfl⟩ rfl (Nat.le_of_ble_eq_true rfl) dX0_openTunnel_2 ?_
  refine v_aload_n X 0 dX0_openTunnel_5 rfl rfl ?_
  refine v_getG X (by omega) 2 (by decide) hi_X0_openTunnel_X0 hl_X0_openTunnel_18 rfl (v := .ref (o + pA w 2)) rfl dX0_openTunnel_6 ?_
  refine v_iload_n X 1 dX0_openTunnel_9 rfl rfl ?_
  refine v_iconst (v := 1) X (by decide) dX0_openTunnel_10 ?_
  refine v_iastA X (w := w) (by omega) 2 (by omega) c rfl (by omega) dX0_openTunnel_11 ?_
  exact v_vret X dX0_openTunnel_12 (by rfl)
theorem hi_X0_makeEarth_X0 : ∀ w ∈ wsX00, w ∈ wsX0_makeEarth := by decide +kernel
theorem hl_X0_makeEarth_18 : Cond.fieldLink RX0 18 RX0 (TX0 2).2.1 (TX0 2).2.2.1 ∈ wsX0_makeEarth := by decide +kernel
theorem hl_X0_makeEarth_9 : Cond.fieldLink RX0 9 RX0 (TX0 0).2.1 (TX0 0).2.2.1 ∈ wsX0_makeEarth := by decide +kernel
set_option maxRecDepth 100000 in
set_option maxHeartbeats 4000000 in
/-- X0_makeEarth -/
theorem c_X0_makeEarth (l : Launch) (G : va_G) (cI cZ cT : ClassId) (o : Nat) (S : zS) (w c : Nat) (h : Int32) (hw : w < 2) (hc : c < 144) : zU l G cI cZ cT o yX0_makeEarth wsX0_makeEarth { frames := 1, cells := 0, slots := 0, locals := 21 } [.ref (o + pG w), .int (nI c), .int h] S (fun u => u = s_makeEarth S w c h) := by
  refine z_ofV (cc := cX0_makeEarth) (maxL := 3) (by decide) rfl (by simp [lg_sl, Value.category]) ?_
  intro p9 e9 s9 m9 a9 b9 h9 c9 X
  refine v_lo [0, 1, 2] (lo' := [(0, .ref (o + pG w)), (1, .int (nI c)), (2, .int h)]) rfl ?_
  refine v_aload_n X 0 dX0_makeEarth_0 rfl rfl ?_
  refine v_iload_n X 1 dX0_makeEarth_1 rfl rfl ?_
  refine v_callVUf X [.int (nI c)] (pG w) (pG_lt (by omega)) (c_X0_empty l G cI cZ cT o S w c (by omega) (by omega)) (zc_G cI cZ cT o _ (by omega)) (C := RX0) (T := TX0) (N := 12) rfl 1 rfl gX0_makeEarth_X0_empty rfl ⟨rfl, rfl⟩ hy_X0_empty_V ⟨Nat.le_of_ble_eq_true rfl, Nat.le_of_ble_eq_true rfl⟩ rfl (Nat.le_of_ble_eq_true rfl) dX0_makeEarth_2 ?_
  refine v_aload_n X 0 dX0_makeEarth_5 rfl rfl ?_
  refine v_getG X (by omega) 2 (by decide) hi_X0_makeEarth_X0 hl_X0_makeEarth_18 rfl (v := .ref (o + pA w 2)) rfl dX0_makeEarth_6 ?_
  refine v_iload_n X 1 dX0_makeEarth_9 rfl rfl ?_
  refine v_iconst (v := 0) X (by decide) dX0_makeEarth_10 ?_
  refine v_iastA X (w := w) (by omega) 2 (by omega) c rfl (by omega) dX0_makeEarth_11 ?_
  refine v_aload_n X 0 dX0_makeEarth_12 rfl rfl ?_
  refine v_getG X (by omega) 0 (by decide) hi_X0_makeEarth_X0 hl_X0_makeEarth_9 rfl (v := .ref (o + pA w 0)) rfl dX0_makeEarth_13 ?_
  refine v_iload_n X 1 dX0_makeEarth_16 rfl rfl ?_
  refine v_iload_n X 2 dX0_makeEarth_17 rfl rfl ?_
  refine v_iastA X (w := w) (by omega) 0 (by omega) c rfl (by omega) dX0_makeEarth_18 ?_
  exact v_vret X dX0_makeEarth_19 (by rfl)
theorem hi_X0_tunnels_X0 : ∀ w ∈ wsX00, w ∈ wsX0_tunnels := by decide +kernel
theorem hl_X0_tunnels_18 : Cond.fieldLink RX0 18 RX0 (TX0 2).2.1 (TX0 2).2.2.1 ∈ wsX0_tunnels := by decide +kernel
set_option maxRecDepth 100000 in
set_option maxHeartbeats 4000000 in
/-- X0_tunnels -/
theorem c_X0_tunnels (l : Launch) (G : va_G) (cI cZ cT : ClassId) (o : Nat) (S : zS) (w : Nat) (hw : w < 2) : zI l G cI cZ cT o yX0_tunnels wsX0_tunnels { frames := 0, cells := 0, slots := 0, locals := 0 } [.ref (o + pG w)] S (fun r u => r = z_sum (S w 2) 144 ∧ u = S) := by
  refine z_ofI (cc := cX0_tunnels) (maxL := 3) (by decide) rfl (by simp [lg_sl, Value.category]) ?_
  intro p9 e9 s9 m9 a9 b9 h9 c9 X
  refine v_lo [0] (lo' := [(0, .ref (o + pG w))]) rfl ?_
  refine v_iconst (v := 0) X (by decide) dX0_tunnels_0 ?_
  refine v_istore_n (lo' := [(1, .int 0), (0, .ref (o + pG w))]) X dX0_tunnels_1 rfl (by decide) rfl ?_
  refine v_iconst (v := 0) X (by decide) dX0_tunnels_2 ?_
  refine v_istore_n (lo' := [(2, .int 0), (1, .int 0), (0, .ref (o + pG w))]) X dX0_tunnels_3 rfl (by decide) rfl ?_
  have L_4 : ∀ (d i : Nat), i + d = 144 → z_V p9 l e9 (headSpec wsX0_tunnels { frames := 0, cells := 0, slots := 0, locals := 0 }).room s9 m9 a9 b9 h9 c9 (MQ b9 (va_Qi (fun r u => r = z_sum (S w 2) 144 ∧ u = S) (z_B G cI cZ cT o) (z_A o s9.heap.size)) a9 s9 0 0 (z_A o s9.heap.size)) G cI cZ cT o 3 (S) 4 [(0, .ref (o + pG w)), (1, .int (z_sum (S w 2) i)), (2, .int (nI i))] [] := by
    intro d
    induction d with
    | zero =>
      intro i hi_4
      have he_4 : i = 144 := by omega
      rw [he_4]
      refine v_iload_n X 2 dX0_tunnels_4 rfl rfl ?_
      refine v_sipush (v := 144) X (by decide) dX0_tunnels_5 ?_
      refine v_ncmp_ge X 144 144 rfl rfl (by omega) (by omega) (tgt := 26) dX0_tunnels_8 (by decide) (fun c_8 => ?_) (fun c_8 => ?_)
      ·
        refine v_iload_n X 1 dX0_tunnels_26 rfl rfl ?_
        exact v_iret X dX0_tunnels_27 (by exact ⟨rfl, rfl⟩)
      ·
        exact absurd c_8 (by omega)
    | succ d ih_4 =>
      intro i hi_4
      refine v_iload_n X 2 dX0_tunnels_4 rfl rfl ?_
      refine v_sipush (v := 144) X (by decide) dX0_tunnels_5 ?_
      refine v_ncmp_ge X i 144 rfl rfl (by omega) (by omega) (tgt := 26) dX0_tunnels_8 (by decide) (fun c_8 => ?_) (fun c_8 => ?_)
      ·
        exact absurd c_8 (by omega)
      ·
        refine v_iload_n X 1 dX0_tunnels_11 rfl rfl ?_
        refine v_aload_n X 0 dX0_tunnels_12 rfl rfl ?_
        refine v_getG X (by omega) 2 (by decide) hi_X0_tunnels_X0 hl_X0_tunnels_18 rfl (v := .ref (o + pA w 2)) rfl dX0_tunnels_13 ?_
        refine v_iload_n X 2 dX0_tunnels_16 rfl rfl ?_
        refine v_ialdA X (w := w) (by omega) 2 (by omega) i rfl (by omega) dX0_tunnels_17 ?_
        refine v_iadd X dX0_tunnels_18 ?_
        refine v_istore_n (lo' := [(1, .int ((z_sum (S w 2) i) + (S w 2 i))), (0, .ref (o + pG w)), (2, .int (nI i))]) X dX0_tunnels_19 rfl (by decide) rfl ?_
        refine v_iinc (v := nI (i + 1)) (lo' := [(2, .int (nI (i + 1))), (1, .int ((z_sum (S w 2) i) + (S w 2 i))), (0, .ref (o + pG w))]) X 2 dX0_tunnels_20 rfl (nI_1 i) (by decide) rfl ?_
        refine v_goto (tgt := 4) X dX0_tunnels_23 (by decide) ?_
        refine v_lo [2, 1, 0] (lo' := [(0, .ref (o + pG w)), (1, .int ((z_sum (S w 2) i) + (S w 2 i))), (2, .int (nI (i + 1)))]) rfl ?_
        refine v_eq (S' := S) (lo' := [(0, .ref (o + pG w)), (1, .int (z_sum (S w 2) (i + 1))), (2, .int (nI (i + 1)))]) (by rfl) (by simp [z_sum, *]) ?_
        exact ih_4 (i + 1) (by omega)
  refine v_lo [2, 1, 0] (lo' := [(0, .ref (o + pG w)), (1, .int 0), (2, .int 0)]) rfl ?_
  refine v_eq (S' := S) (lo' := [(0, .ref (o + pG w)), (1, .int (z_sum (S w 2) 0)), (2, .int (nI 0))]) (by rfl) (by rfl) ?_
  exact L_4 (144) 0 (by omega)
theorem hi_X0_allSmoke_X0 : ∀ w ∈ wsX00, w ∈ wsX0_allSmoke := by decide +kernel
theorem hl_X0_allSmoke_27 : Cond.fieldLink RX0 27 RX0 (TX0 5).2.1 (TX0 5).2.2.1 ∈ wsX0_allSmoke := by decide +kernel
set_option maxRecDepth 100000 in
set_option maxHeartbeats 4000000 in
/-- X0_allSmoke -/
theorem c_X0_allSmoke (l : Launch) (G : va_G) (cI cZ cT : ClassId) (o : Nat) (S : zS) (w : Nat) (hw : w < 2) : zI l G cI cZ cT o yX0_allSmoke wsX0_allSmoke { frames := 0, cells := 0, slots := 0, locals := 0 } [.ref (o + pG w)] S (fun r u => r = s_allSmoke S w ∧ u = S) := by
  refine z_ofI (cc := cX0_allSmoke) (maxL := 3) (by decide) rfl (by simp [lg_sl, Value.category]) ?_
  intro p9 e9 s9 m9 a9 b9 h9 c9 X
  refine v_lo [0] (lo' := [(0, .ref (o + pG w))]) rfl ?_
  refine v_iconst (v := 0) X (by decide) dX0_allSmoke_0 ?_
  refine v_istore_n (lo' := [(1, .int 0), (0, .ref (o + pG w))]) X dX0_allSmoke_1 rfl (by decide) rfl ?_
  refine v_iconst (v := 0) X (by decide) dX0_allSmoke_2 ?_
  refine v_istore_n (lo' := [(2, .int 0), (1, .int 0), (0, .ref (o + pG w))]) X dX0_allSmoke_3 rfl (by decide) rfl ?_
  have L_4 : ∀ (d i : Nat), i + d = 144 → z_V p9 l e9 (headSpec wsX0_allSmoke { frames := 0, cells := 0, slots := 0, locals := 0 }).room s9 m9 a9 b9 h9 c9 (MQ b9 (va_Qi (fun r u => r = s_allSmoke S w ∧ u = S) (z_B G cI cZ cT o) (z_A o s9.heap.size)) a9 s9 0 0 (z_A o s9.heap.size)) G cI cZ cT o 3 (S) 4 [(0, .ref (o + pG w)), (1, .int (z_sum (S w 5) i)), (2, .int (nI i))] [] := by
    intro d
    induction d with
    | zero =>
      intro i hi_4
      have he_4 : i = 144 := by omega
      rw [he_4]
      refine v_iload_n X 2 dX0_allSmoke_4 rfl rfl ?_
      refine v_sipush (v := 144) X (by decide) dX0_allSmoke_5 ?_
      refine v_ncmp_ge X 144 144 rfl rfl (by omega) (by omega) (tgt := 26) dX0_allSmoke_8 (by decide) (fun c_8 => ?_) (fun c_8 => ?_)
      ·
        refine v_iload_n X 1 dX0_allSmoke_26 rfl rfl ?_
        exact v_iret X dX0_allSmoke_27 (by exact ⟨rfl, rfl⟩)
      ·
        exact absurd c_8 (by omega)
    | succ d ih_4 =>
      intro i hi_4
      refine v_iload_n X 2 dX0_allSmoke_4 rfl rfl ?_
      refine v_sipush (v := 144) X (by decide) dX0_allSmoke_5 ?_
      refine v_ncmp_ge X i 144 rfl rfl (by omega) (by omega) (tgt := 26) dX0_allSmoke_8 (by decide) (fun c_8 => ?_) (fun c_8 => ?_)
      ·
        exact absurd c_8 (by omega)
      ·
        refine v_iload_n X 1 dX0_allSmoke_11 rfl rfl ?_
        refine v_aload_n X 0 dX0_allSmoke_12 rfl rfl ?_
        refine v_getG X (by omega) 5 (by decide) hi_X0_allSmoke_X0 hl_X0_allSmoke_27 rfl (v := .ref (o + pA w 5)) rfl dX0_allSmoke_13 ?_
        refine v_iload_n X 2 dX0_allSmoke_16 rfl rfl ?_
        refine v_ialdA X (w := w) (by omega) 5 (by omega) i rfl (by omega) dX0_allSmoke_17 ?_
        refine v_iadd X dX0_allSmoke_18 ?_
        refine v_istore_n (lo' := [(1, .int ((z_sum (S w 5) i) + (S w 5 i))), (0, .ref (o + pG w)), (2, .int (nI i))]) X dX0_allSmoke_19 rfl (by decide) rfl ?_
        refine v_iinc (v := nI (i + 1)) (lo' := [(2, .int (nI (i + 1))), (1, .int ((z_sum (S w 5) i) + (S w 5 i))), (0, .ref (o + pG w))]) X 2 dX0_allSmoke_20 rfl (nI_1 i) (by decide) rfl ?_
        refine v_goto (tgt := 4) X dX0_allSmoke_23 (by decide) ?_
        refine v_lo [2, 1, 0] (lo' := [(0, .ref (o + pG w)), (1, .int ((z_sum (S w 5) i) + (S w 5 i))), (2, .int (nI (i + 1)))]) rfl ?_
        refine v_eq (S' := S) (lo' := [(0, .ref (o + pG w)), (1, .int (z_sum (S w 5) (i + 1))), (2, .int (nI (i + 1)))]) (by rfl) (by simp [z_sum, *]) ?_
        exact ih_4 (i + 1) (by omega)
  refine v_lo [2, 1, 0] (lo' := [(0, .ref (o + pG w)), (1, .int 0), (2, .int 0)]) rfl ?_
  refine v_eq (S' := S) (lo' := [(0, .ref (o + pG w)), (1, .int (z_sum (S w 5) 0)), (2, .int (nI 0))]) (by rfl) (by rfl) ?_
  exact L_4 (144) 0 (by omega)
theorem hi_X0_wallsStanding_X0 : ∀ w ∈ wsX00, w ∈ wsX0_wallsStanding := by decide +kernel
theorem hl_X0_wallsStanding_15 : Cond.fieldLink RX0 15 RX0 (TX0 1).2.1 (TX0 1).2.2.1 ∈ wsX0_wallsStanding := by decide +kernel
set_option maxRecDepth 100000 in
set_option maxHeartbeats 4000000 in
/-- X0_wallsStanding -/
theorem c_X0_wallsStanding (l : Launch) (G : va_G) (cI cZ cT : ClassId) (o : Nat) (S : zS) (w : Nat) (hw : w < 2) : zI l G cI cZ cT o yX0_wallsStanding wsX0_wallsStanding { frames := 0, cells := 0, slots := 0, locals := 0 } [.ref (o + pG w)] S (fun r u => r = s_up S w ∧ u = S) := by
  refine z_ofI (cc := cX0_wallsStanding) (maxL := 3) (by decide) rfl (by simp [lg_sl, Value.category]) ?_
  intro p9 e9 s9 m9 a9 b9 h9 c9 X
  refine v_lo [0] (lo' := [(0, .ref (o + pG w))]) rfl ?_
  refine v_iconst (v := 0) X (by decide) dX0_wallsStanding_0 ?_
  refine v_istore_n (lo' := [(1, .int 0), (0, .ref (o + pG w))]) X dX0_wallsStanding_1 rfl (by decide) rfl ?_
  refine v_iconst (v := 0) X (by decide) dX0_wallsStanding_2 ?_
  refine v_istore_n (lo' := [(2, .int 0), (1, .int 0), (0, .ref (o + pG w))]) X dX0_wallsStanding_3 rfl (by decide) rfl ?_
  have L_4 : ∀ (d i : Nat), i + d = 144 → z_V p9 l e9 (headSpec wsX0_wallsStanding { frames := 0, cells := 0, slots := 0, locals := 0 }).room s9 m9 a9 b9 h9 c9 (MQ b9 (va_Qi (fun r u => r = s_up S w ∧ u = S) (z_B G cI cZ cT o) (z_A o s9.heap.size)) a9 s9 0 0 (z_A o s9.heap.size)) G cI cZ cT o 3 (S) 4 [(0, .ref (o + pG w)), (1, .int (z_sum (fun c => if 0 < S w 1 c then 1 else 0) i)), (2, .int (nI i))] [] := by
    intro d
    induction d with
    | zero =>
      intro i hi_4
      have he_4 : i = 144 := by omega
      rw [he_4]
      refine v_iload_n X 2 dX0_wallsStanding_4 rfl rfl ?_
      refine v_sipush (v := 144) X (by decide) dX0_wallsStanding_5 ?_
      refine v_ncmp_ge X 144 144 rfl rfl (by omega) (by omega) (tgt := 34) dX0_wallsStanding_8 (by decide) (fun c_8 => ?_) (fun c_8 => ?_)
      ·
        refine v_iload_n X 1 dX0_wallsStanding_34 rfl rfl ?_
        exact v_iret X dX0_wallsStanding_35 (by exact ⟨rfl, rfl⟩)
      ·
        exact absurd c_8 (by omega)
    | succ d ih_4 =>
      intro i hi_4
      refine v_iload_n X 2 dX0_wallsStanding_4 rfl rfl ?_
      refine v_sipush (v := 144) X (by decide) dX0_wallsStanding_5 ?_
      refine v_ncmp_ge X i 144 rfl rfl (by omega) (by omega) (tgt := 34) dX0_wallsStanding_8 (by decide) (fun c_8 => ?_) (fun c_8 => ?_)
      ·
        exact absurd c_8 (by omega)
      ·
        refine v_iload_n X 1 dX0_wallsStanding_11 rfl rfl ?_
        refine v_aload_n X 0 dX0_wallsStanding_12 rfl rfl ?_
        refine v_getG X (by omega) 1 (by decide) hi_X0_wallsStanding_X0 hl_X0_wallsStanding_15 rfl (v := .ref (o + pA w 1)) rfl dX0_wallsStanding_13 ?_
        refine v_iload_n X 2 dX0_wallsStanding_16 rfl rfl ?_
        refine v_ialdA X (w := w) (by omega) 1 (by omega) i rfl (by omega) dX0_wallsStanding_17 ?_
        refine v_if_le X (tgt := 25) dX0_wallsStanding_18 (by decide) (fun c_18 => ?_) (fun c_18 => ?_)
        ·
          refine v_iconst (v := 0) X (by decide) dX0_wallsStanding_25 ?_
          refine v_iadd X dX0_wallsStanding_26 ?_
          refine v_istore_n (lo' := [(1, .int ((z_sum (fun c => if 0 < S w 1 c then 1 else 0) i) + 0)), (0, .ref (o + pG w)), (2, .int (nI i))]) X dX0_wallsStanding_27 rfl (by decide) rfl ?_
          refine v_iinc (v := nI (i + 1)) (lo' := [(2, .int (nI (i + 1))), (1, .int ((z_sum (fun c => if 0 < S w 1 c then 1 else 0) i) + 0)), (0, .ref (o + pG w))]) X 2 dX0_wallsStanding_28 rfl (nI_1 i) (by decide) rfl ?_
          refine v_goto (tgt := 4) X dX0_wallsStanding_31 (by decide) ?_
          refine v_lo [2, 1, 0] (lo' := [(0, .ref (o + pG w)), (1, .int ((z_sum (fun c => if 0 < S w 1 c then 1 else 0) i) + 0)), (2, .int (nI (i + 1)))]) rfl ?_
          refine v_eq (S' := S) (lo' := [(0, .ref (o + pG w)), (1, .int (z_sum (fun c => if 0 < S w 1 c then 1 else 0) (i + 1))), (2, .int (nI (i + 1)))]) (by rfl) (by simp [z_sum, *]) ?_
          exact ih_4 (i + 1) (by omega)
        ·
          refine v_iconst (v := 1) X (by decide) dX0_wallsStanding_21 ?_
          refine v_goto (tgt := 26) X dX0_wallsStanding_22 (by decide) ?_
          refine v_iadd X dX0_wallsStanding_26 ?_
          refine v_istore_n (lo' := [(1, .int ((z_sum (fun c => if 0 < S w 1 c then 1 else 0) i) + 1)), (0, .ref (o + pG w)), (2, .int (nI i))]) X dX0_wallsStanding_27 rfl (by decide) rfl ?_
          refine v_iinc (v := nI (i + 1)) (lo' := [(2, .int (nI (i + 1))), (1, .int ((z_sum (fun c => if 0 < S w 1 c then 1 else 0) i) + 1)), (0, .ref (o + pG w))]) X 2 dX0_wallsStanding_28 rfl (nI_1 i) (by decide) rfl ?_
          refine v_goto (tgt := 4) X dX0_wallsStanding_31 (by decide) ?_
          refine v_lo [2, 1, 0] (lo' := [(0, .ref (o + pG w)), (1, .int ((z_sum (fun c => if 0 < S w 1 c then 1 else 0) i) + 1)), (2, .int (nI (i + 1)))]) rfl ?_
          refine v_eq (S' := S) (lo' := [(0, .ref (o + pG w)), (1, .int (z_sum (fun c => if 0 < S w 1 c then 1 else 0) (i + 1))), (2, .int (nI (i + 1)))]) (by rfl) (by simp [z_sum, *]) ?_
          exact ih_4 (i + 1) (by omega)
  refine v_lo [2, 1, 0] (lo' := [(0, .ref (o + pG w)), (1, .int 0), (2, .int 0)]) rfl ?_
  refine v_eq (S' := S) (lo' := [(0, .ref (o + pG w)), (1, .int (z_sum (fun c => if 0 < S w 1 c then 1 else 0) 0)), (2, .int (nI 0))]) (by rfl) (by rfl) ?_
  exact L_4 (144) 0 (by omega)
theorem hi_X0_wallsFallen_X0 : ∀ w ∈ wsX00, w ∈ wsX0_wallsFallen := by decide +kernel
theorem hl_X0_wallsFallen_15 : Cond.fieldLink RX0 15 RX0 (TX0 1).2.1 (TX0 1).2.2.1 ∈ wsX0_wallsFallen := by decide +kernel
set_option maxRecDepth 100000 in
set_option maxHeartbeats 4000000 in
/-- X0_wallsFallen -/
theorem c_X0_wallsFallen (l : Launch) (G : va_G) (cI cZ cT : ClassId) (o : Nat) (S : zS) (w : Nat) (hw : w < 2) : zI l G cI cZ cT o yX0_wallsFallen wsX0_wallsFallen { frames := 0, cells := 0, slots := 0, locals := 0 } [.ref (o + pG w)] S (fun r u => r = s_down S w ∧ u = S) := by
  refine z_ofI (cc := cX0_wallsFallen) (maxL := 3) (by decide) rfl (by simp [lg_sl, Value.category]) ?_
  intro p9 e9 s9 m9 a9 b9 h9 c9 X
  refine v_lo [0] (lo' := [(0, .ref (o + pG w))]) rfl ?_
  refine v_iconst (v := 0) X (by decide) dX0_wallsFallen_0 ?_
  refine v_istore_n (lo' := [(1, .int 0), (0, .ref (o + pG w))]) X dX0_wallsFallen_1 rfl (by decide) rfl ?_
  refine v_iconst (v := 0) X (by decide) dX0_wallsFallen_2 ?_
  refine v_istore_n (lo' := [(2, .int 0), (1, .int 0), (0, .ref (o + pG w))]) X dX0_wallsFallen_3 rfl (by decide) rfl ?_
  have L_4 : ∀ (d i : Nat), i + d = 144 → z_V p9 l e9 (headSpec wsX0_wallsFallen { frames := 0, cells := 0, slots := 0, locals := 0 }).room s9 m9 a9 b9 h9 c9 (MQ b9 (va_Qi (fun r u => r = s_down S w ∧ u = S) (z_B G cI cZ cT o) (z_A o s9.heap.size)) a9 s9 0 0 (z_A o s9.heap.size)) G cI cZ cT o 3 (S) 4 [(0, .ref (o + pG w)), (1, .int (z_sum (fun c => if S w 1 c = 0 then 1 else 0) i)), (2, .int (nI i))] [] := by
    intro d
    induction d with
    | zero =>
      intro i hi_4
      have he_4 : i = 144 := by omega
      rw [he_4]
      refine v_iload_n X 2 dX0_wallsFallen_4 rfl rfl ?_
      refine v_sipush (v := 144) X (by decide) dX0_wallsFallen_5 ?_
      refine v_ncmp_ge X 144 144 rfl rfl (by omega) (by omega) (tgt := 34) dX0_wallsFallen_8 (by decide) (fun c_8 => ?_) (fun c_8 => ?_)
      ·
        refine v_iload_n X 1 dX0_wallsFallen_34 rfl rfl ?_
        exact v_iret X dX0_wallsFallen_35 (by exact ⟨rfl, rfl⟩)
      ·
        exact absurd c_8 (by omega)
    | succ d ih_4 =>
      intro i hi_4
      refine v_iload_n X 2 dX0_wallsFallen_4 rfl rfl ?_
      refine v_sipush (v := 144) X (by decide) dX0_wallsFallen_5 ?_
      refine v_ncmp_ge X i 144 rfl rfl (by omega) (by omega) (tgt := 34) dX0_wallsFallen_8 (by decide) (fun c_8 => ?_) (fun c_8 => ?_)
      ·
        exact absurd c_8 (by omega)
      ·
        refine v_iload_n X 1 dX0_wallsFallen_11 rfl rfl ?_
        refine v_aload_n X 0 dX0_wallsFallen_12 rfl rfl ?_
        refine v_getG X (by omega) 1 (by decide) hi_X0_wallsFallen_X0 hl_X0_wallsFallen_15 rfl (v := .ref (o + pA w 1)) rfl dX0_wallsFallen_13 ?_
        refine v_iload_n X 2 dX0_wallsFallen_16 rfl rfl ?_
        refine v_ialdA X (w := w) (by omega) 1 (by omega) i rfl (by omega) dX0_wallsFallen_17 ?_
        refine v_if_ne X (tgt := 25) dX0_wallsFallen_18 (by decide) (fun c_18 => ?_) (fun c_18 => ?_)
        ·
          refine v_iconst (v := 0) X (by decide) dX0_wallsFallen_25 ?_
          refine v_iadd X dX0_wallsFallen_26 ?_
          refine v_istore_n (lo' := [(1, .int ((z_sum (fun c => if S w 1 c = 0 then 1 else 0) i) + 0)), (0, .ref (o + pG w)), (2, .int (nI i))]) X dX0_wallsFallen_27 rfl (by decide) rfl ?_
          refine v_iinc (v := nI (i + 1)) (lo' := [(2, .int (nI (i + 1))), (1, .int ((z_sum (fun c => if S w 1 c = 0 then 1 else 0) i) + 0)), (0, .ref (o + pG w))]) X 2 dX0_wallsFallen_28 rfl (nI_1 i) (by decide) rfl ?_
          refine v_goto (tgt := 4) X dX0_wallsFallen_31 (by decide) ?_
          refine v_lo [2, 1, 0] (lo' := [(0, .ref (o + pG w)), (1, .int ((z_sum (fun c => if S w 1 c = 0 then 1 else 0) i) + 0)), (2, .int (nI (i + 1)))]) rfl ?_
          refine v_eq (S' := S) (lo' := [(0, .ref (o + pG w)), (1, .int (z_sum (fun c => if S w 1 c = 0 then 1 else 0) (i + 1))), (2, .int (nI (i + 1)))]) (by rfl) (by simp [z_sum, *]) ?_
          exact ih_4 (i + 1) (by omega)
        ·
          refine v_iconst (v := 1) X (by decide) dX0_wallsFallen_21 ?_
          refine v_goto (tgt := 26) X dX0_wallsFallen_22 (by decide) ?_
          refine v_iadd X dX0_wallsFallen_26 ?_
          refine v_istore_n (lo' := [(1, .int ((z_sum (fun c => if S w 1 c = 0 then 1 else 0) i) + 1)), (0, .ref (o + pG w)), (2, .int (nI i))]) X dX0_wallsFallen_27 rfl (by decide) rfl ?_
          refine v_iinc (v := nI (i + 1)) (lo' := [(2, .int (nI (i + 1))), (1, .int ((z_sum (fun c => if S w 1 c = 0 then 1 else 0) i) + 1)), (0, .ref (o + pG w))]) X 2 dX0_wallsFallen_28 rfl (nI_1 i) (by decide) rfl ?_
          refine v_goto (tgt := 4) X dX0_wallsFallen_31 (by decide) ?_
          refine v_lo [2, 1, 0] (lo' := [(0, .ref (o + pG w)), (1, .int ((z_sum (fun c => if S w 1 c = 0 then 1 else 0) i) + 1)), (2, .int (nI (i + 1)))]) rfl ?_
          refine v_eq (S' := S) (lo' := [(0, .ref (o + pG w)), (1, .int (z_sum (fun c => if S w 1 c = 0 then 1 else 0) (i + 1))), (2, .int (nI (i + 1)))]) (by rfl) (by simp [z_sum, *]) ?_
          exact ih_4 (i + 1) (by omega)
  refine v_lo [2, 1, 0] (lo' := [(0, .ref (o + pG w)), (1, .int 0), (2, .int 0)]) rfl ?_
  refine v_eq (S' := S) (lo' := [(0, .ref (o + pG w)), (1, .int (z_sum (fun c => if S w 1 c = 0 then 1 else 0) 0)), (2, .int (nI 0))]) (by rfl) (by rfl) ?_
  exact L_4 (144) 0 (by omega)
set_option maxRecDepth 100000 in
set_option maxHeartbeats 4000000 in
/-- X5_neighbour -/
theorem c_X5_neighbour (l : Launch) (G : va_G) (cI cZ cT : ClassId) (o : Nat) (S : zS) (c d : Nat) (hc : c < 144) (hd : d < 4) : zI l G cI cZ cT o yX5_neighbour wsX5_neighbour { frames := 0, cells := 0, slots := 0, locals := 0 } [.int (nI c), .int (nI d)] S (fun r u => r = z_nb c d ∧ u = S) := by
  refine z_ofI (cc := cX5_neighbour) (maxL := 4) (by decide) rfl (by simp [lg_sl, Value.category]) ?_
  intro p9 e9 s9 m9 a9 b9 h9 c9 X
  refine v_lo [0, 1] (lo' := [(0, .int (nI c)), (1, .int (nI d))]) rfl ?_
  refine v_iload_n X 0 dX5_neighbour_0 rfl rfl ?_
  refine v_bipush (v := 12) X (by decide) dX5_neighbour_1 ?_
  refine v_irem X (by decide) dX5_neighbour_3 ?_
  refine v_top (y := nI (c % 12)) (pk_rem (a := c) (d := 12) (by omega) (by omega) (by omega)) ?_
  refine v_istore_n (lo' := [(2, .int (nI (c % 12))), (0, .int (nI c)), (1, .int (nI d))]) X dX5_neighbour_4 rfl (by decide) rfl ?_
  refine v_iload_n X 1 dX5_neighbour_5 rfl rfl ?_
  refine v_bipush (v := 12) X (by decide) dX5_neighbour_6 ?_
  refine v_idiv X (by decide) dX5_neighbour_8 ?_
  refine v_top (y := nI (c / 12)) (pk_div (a := c) (d := 12) (by omega) (by omega) (by omega)) ?_
  refine v_istore_n (lo' := [(3, .int (nI (c / 12))), (2, .int (nI (c % 12))), (0, .int (nI c)), (1, .int (nI d))]) X dX5_neighbour_9 rfl (by decide) rfl ?_
  refine v_iload_n X 3 dX5_neighbour_10 rfl rfl ?_
  rcases (show d = 0 ∨ d = 1 ∨ d = 2 ∨ d = 3 by omega) with rfl | rfl | rfl | rfl
  ·
    refine v_tsw X (off := 25) (tgt := 36) dX5_neighbour_11 (by decide) (by decide) (by decide) (by decide) ?_
    refine v_iload_n X 0 dX5_neighbour_36 rfl rfl ?_
    refine v_nif_le X (c / 12) rfl (by omega) (tgt := 47) dX5_neighbour_37 (by decide) (fun c_37 => ?_) (fun c_37 => ?_)
    ·
      refine v_iconst (v := -1) X (by decide) dX5_neighbour_47 ?_
      exact v_iret X dX5_neighbour_48 (by first | (simp [z_nb, nbb, nbn, c_37]; done) | (simp [z_nb, nbb, nbn, c_37]; intro h; exact absurd h (by omega)))
    ·
      refine v_iload_n X 2 dX5_neighbour_40 rfl rfl ?_
      refine v_bipush (v := 12) X (by decide) dX5_neighbour_41 ?_
      refine v_isub X dX5_neighbour_43 ?_
      refine v_top (y := nI (c - 12)) (pk_sub (a := c) (b := 12) (by omega)) ?_
      refine v_goto (tgt := 48) X dX5_neighbour_44 (by decide) ?_
      exact v_iret X dX5_neighbour_48 (by first | (simp [z_nb, nbb, nbn, c_37]; done) | (simp [z_nb, nbb, nbn, c_37]; intro h; exact absurd h (by omega)))
  ·
    refine v_tsw X (off := 38) (tgt := 49) dX5_neighbour_11 (by decide) (by decide) (by decide) (by decide) ?_
    refine v_iload_n X 1 dX5_neighbour_49 rfl rfl ?_
    refine v_bipush (v := 11) X (by decide) dX5_neighbour_50 ?_
    refine v_ncmp_ge X (c % 12) 11 rfl rfl (by omega) (by omega) (tgt := 61) dX5_neighbour_52 (by decide) (fun c_52 => ?_) (fun c_52 => ?_)
    ·
      refine v_iconst (v := -1) X (by decide) dX5_neighbour_61 ?_
      exact v_iret X dX5_neighbour_62 (by first | (simp [z_nb, nbb, nbn, c_52]; done) | (simp [z_nb, nbb, nbn, c_52]; intro h; exact absurd h (by omega)))
    ·
      refine v_iload_n X 2 dX5_neighbour_55 rfl rfl ?_
      refine v_iconst (v := 1) X (by decide) dX5_neighbour_56 ?_
      refine v_iadd X dX5_neighbour_57 ?_
      refine v_top (y := nI (c + 1)) (nI_add c 1) ?_
      refine v_goto (tgt := 62) X dX5_neighbour_58 (by decide) ?_
      exact v_iret X dX5_neighbour_62 (by first | (simp [z_nb, nbb, nbn, c_52]; done) | (simp [z_nb, nbb, nbn, c_52]; intro h; exact absurd h (by omega)))
  ·
    refine v_tsw X (off := 52) (tgt := 63) dX5_neighbour_11 (by decide) (by decide) (by decide) (by decide) ?_
    refine v_iload_n X 0 dX5_neighbour_63 rfl rfl ?_
    refine v_bipush (v := 11) X (by decide) dX5_neighbour_64 ?_
    refine v_ncmp_ge X (c / 12) 11 rfl rfl (by omega) (by omega) (tgt := 76) dX5_neighbour_66 (by decide) (fun c_66 => ?_) (fun c_66 => ?_)
    ·
      refine v_iconst (v := -1) X (by decide) dX5_neighbour_76 ?_
      exact v_iret X dX5_neighbour_77 (by first | (simp [z_nb, nbb, nbn, c_66]; done) | (simp [z_nb, nbb, nbn, c_66]; intro h; exact absurd h (by omega)))
    ·
      refine v_iload_n X 2 dX5_neighbour_69 rfl rfl ?_
      refine v_bipush (v := 12) X (by decide) dX5_neighbour_70 ?_
      refine v_iadd X dX5_neighbour_72 ?_
      refine v_top (y := nI (c + 12)) (nI_add c 12) ?_
      refine v_goto (tgt := 77) X dX5_neighbour_73 (by decide) ?_
      exact v_iret X dX5_neighbour_77 (by first | (simp [z_nb, nbb, nbn, c_66]; done) | (simp [z_nb, nbb, nbn, c_66]; intro h; exact absurd h (by omega)))
  ·
    refine v_tswO X (tgt := 78) dX5_neighbour_11 (by decide) (by decide) ?_
    refine v_iload_n X 1 dX5_neighbour_78 rfl rfl ?_
    refine v_nif_le X (c % 12) rfl (by omega) (tgt := 88) dX5_neighbour_79 (by decide) (fun c_79 => ?_) (fun c_79 => ?_)
    ·
      refine v_iconst (v := -1) X (by decide) dX5_neighbour_88 ?_
      exact v_iret X dX5_neighbour_89 (by first | (simp [z_nb, nbb, nbn, c_79]; done) | (simp [z_nb, nbb, nbn, c_79]; intro h; exact absurd h (by omega)))
    ·
      refine v_iload_n X 2 dX5_neighbour_82 rfl rfl ?_
      refine v_iconst (v := 1) X (by decide) dX5_neighbour_83 ?_
      refine v_isub X dX5_neighbour_84 ?_
      refine v_top (y := nI (c - 1)) (pk_sub (a := c) (b := 1) (by omega)) ?_
      refine v_goto (tgt := 89) X dX5_neighbour_85 (by decide) ?_
      exact v_iret X dX5_neighbour_89 (by first | (simp [z_nb, nbb, nbn, c_79]; done) | (simp [z_nb, nbb, nbn, c_79]; intro h; exact absurd h (by omega)))
theorem hw_X5_distance_242l : Cond.methodLink RX5 242 Lib.Math.abs.name ∈ wsX5_distance := by decide +kernel
theorem hw_X5_distance_mabss : Cond.static Lib.Math.abs.name ∈ wsX5_distance := by decide +kernel
theorem hw_X5_distance_mathi : Cond.initialized "java/lang/Math" ∈ wsX5_distance := by decide +kernel
theorem hw_X5_distance_mabsc : Cond.code Lib.Math.abs.name Lib.Math.abs.code 1 (some .int) ∈ wsX5_distance := by decide +kernel
set_option maxRecDepth 100000 in
set_option maxHeartbeats 4000000 in
/-- X5_distance -/
theorem c_X5_distance (l : Launch) (G : va_G) (cI cZ cT : ClassId) (o : Nat) (S : zS) (a b : Nat) (ha : a < 144) (hb : b < 144) : zI l G cI cZ cT o yX5_distance wsX5_distance { frames := 1, cells := 0, slots := 0, locals := 21 } [.int (nI a), .int (nI b)] S (fun r u => r = z_dist a b ∧ u = S) := by
  refine z_ofI (cc := cX5_distance) (maxL := 2) (by decide) rfl (by simp [lg_sl, Value.category]) ?_
  intro p9 e9 s9 m9 a9 b9 h9 c9 X
  refine v_lo [0, 1] (lo' := [(0, .int (nI a)), (1, .int (nI b))]) rfl ?_
  refine v_iload_n X 0 dX5_distance_0 rfl rfl ?_
  refine v_bipush (v := 12) X (by decide) dX5_distance_1 ?_
  refine v_irem X (by decide) dX5_distance_3 ?_
  refine v_top (y := nI (a % 12)) (pk_rem (a := a) (d := 12) (by omega) (by omega) (by omega)) ?_
  refine v_iload_n X 1 dX5_distance_4 rfl rfl ?_
  refine v_bipush (v := 12) X (by decide) dX5_distance_5 ?_
  refine v_irem X (by decide) dX5_distance_7 ?_
  refine v_top (y := nI (b % 12)) (pk_rem (a := b) (d := 12) (by omega) (by omega) (by omega)) ?_
  refine v_isub X dX5_distance_8 ?_
  refine v_mabs X hw_X5_distance_242l hw_X5_distance_mabss hw_X5_distance_mathi hw_X5_distance_mabsc (Nat.le_of_ble_eq_true rfl) (Nat.le_of_ble_eq_true rfl) dX5_distance_9 ?_
  refine v_top (y := z_abs ((nI (a % 12)) - (nI (b % 12)))) (rfl) ?_
  refine v_iload_n X 0 dX5_distance_12 rfl rfl ?_
  refine v_bipush (v := 12) X (by decide) dX5_distance_13 ?_
  refine v_idiv X (by decide) dX5_distance_15 ?_
  refine v_top (y := nI (a / 12)) (pk_div (a := a) (d := 12) (by omega) (by omega) (by omega)) ?_
  refine v_iload_n X 1 dX5_distance_16 rfl rfl ?_
  refine v_bipush (v := 12) X (by decide) dX5_distance_17 ?_
  refine v_idiv X (by decide) dX5_distance_19 ?_
  refine v_top (y := nI (b / 12)) (pk_div (a := b) (d := 12) (by omega) (by omega) (by omega)) ?_
  refine v_isub X dX5_distance_20 ?_
  refine v_mabs X hw_X5_distance_242l hw_X5_distance_mabss hw_X5_distance_mathi hw_X5_distance_mabsc (Nat.le_of_ble_eq_true rfl) (Nat.le_of_ble_eq_true rfl) dX5_distance_21 ?_
  refine v_top (y := z_abs ((nI (a / 12)) - (nI (b / 12)))) (rfl) ?_
  refine v_iadd X dX5_distance_24 ?_
  exact v_iret X dX5_distance_25 (by exact ⟨rfl, rfl⟩)
theorem hi_X0_burn_X0 : ∀ w ∈ wsX00, w ∈ wsX0_burn := by decide +kernel
theorem hl_X0_burn_21 : Cond.fieldLink RX0 21 RX0 (TX0 3).2.1 (TX0 3).2.2.1 ∈ wsX0_burn := by decide +kernel
theorem hl_X0_burn_33 : Cond.fieldLink RX0 33 RX0 (TX0 7).2.1 (TX0 7).2.2.1 ∈ wsX0_burn := by decide +kernel
set_option maxRecDepth 100000 in
set_option maxHeartbeats 4000000 in
/-- X0_burn -/
theorem c_X0_burn (l : Launch) (G : va_G) (cI cZ cT : ClassId) (o : Nat) (S : zS) (w c : Nat) (hw : w < 2) (hc : c < 144) : zU l G cI cZ cT o yX0_burn wsX0_burn { frames := 0, cells := 0, slots := 0, locals := 0 } [.ref (o + pG w), .int (nI c)] S (fun u => u = s_burn S w c) := by
  refine z_ofV (cc := cX0_burn) (maxL := 2) (by decide) rfl (by simp [lg_sl, Value.category]) ?_
  intro p9 e9 s9 m9 a9 b9 h9 c9 X
  refine v_lo [0, 1] (lo' := [(0, .ref (o + pG w)), (1, .int (nI c))]) rfl ?_
  refine v_aload_n X 0 dX0_burn_0 rfl rfl ?_
  refine v_getG X (by omega) 3 (by decide) hi_X0_burn_X0 hl_X0_burn_21 rfl (v := .ref (o + pA w 3)) rfl dX0_burn_1 ?_
  refine v_iload_n X 1 dX0_burn_4 rfl rfl ?_
  refine v_iconst (v := 0) X (by decide) dX0_burn_5 ?_
  refine v_iastA X (w := w) (by omega) 3 (by omega) c rfl (by omega) dX0_burn_6 ?_
  refine v_aload_n X 0 dX0_burn_7 rfl rfl ?_
  refine v_getG X (by omega) 7 (by decide) hi_X0_burn_X0 hl_X0_burn_33 rfl (v := .ref (o + pA w 7)) rfl dX0_burn_8 ?_
  refine v_iload_n X 1 dX0_burn_11 rfl rfl ?_
  refine v_ialdA X (w := w) (by omega) 7 (by omega) c rfl (by omega) dX0_burn_12 ?_
  refine v_top (y := S w 7 c) (z_up_ne _ _ (by omega)) ?_
  refine v_if_ne X (tgt := 23) dX0_burn_13 (by decide) (fun c_13 => ?_) (fun c_13 => ?_)
  ·
    exact v_vret X dX0_burn_23 (by simp [s_burn, c_13])
  ·
    refine v_aload_n X 0 dX0_burn_16 rfl rfl ?_
    refine v_getG X (by omega) 7 (by decide) hi_X0_burn_X0 hl_X0_burn_33 rfl (v := .ref (o + pA w 7)) rfl dX0_burn_17 ?_
    refine v_iload_n X 1 dX0_burn_20 rfl rfl ?_
    refine v_iconst (v := 4) X (by decide) dX0_burn_21 ?_
    refine v_iastA X (w := w) (by omega) 7 (by omega) c rfl (by omega) dX0_burn_22 ?_
    exact v_vret X dX0_burn_23 (by simp [s_burn, c_13])
theorem hy_X5_neighbour_N : yX5_neighbour.cls ≠ "java/lang/invoke/MethodHandle" ∧ yX5_neighbour.cls ≠ "java/lang/invoke/VarHandle" ∧ (parseMethodDescriptor yX5_neighbour.desc).map (fun d => d.parameters.length) = some 2 := by decide +kernel
theorem hw_X0_burnNeighbours_st_X5_neighbour : Cond.static yX5_neighbour ∈ wsX0_burnNeighbours := by decide +kernel
theorem hw_X0_burnNeighbours_in_X5 : Cond.initialized yX5_neighbour.cls ∈ wsX0_burnNeighbours := by decide +kernel
theorem hn_X0_78 : Cond.methodLinkNest RX0 78 yX5_neighbour RX5 ∈ z_nest := by simp [z_nest]
theorem hy_X0_isTunnel_V : yX0_isTunnel.cls = RX0 ∧ yX0_isTunnel.cls ≠ "java/lang/invoke/MethodHandle" ∧ yX0_isTunnel.cls ≠ "java/lang/invoke/VarHandle" ∧ (parseMethodDescriptor yX0_isTunnel.desc).map (fun d => d.parameters.length) = some 1 := by decide +kernel
theorem hy_X0_burn_V : yX0_burn.cls = RX0 ∧ yX0_burn.cls ≠ "java/lang/invoke/MethodHandle" ∧ yX0_burn.cls ≠ "java/lang/invoke/VarHandle" ∧ (parseMethodDescriptor yX0_burn.desc).map (fun d => d.parameters.length) = some 1 := by decide +kernel
set_option maxRecDepth 100000 in
set_option maxHeartbeats 4000000 in
/-- X0_burnNeighbours -/
theorem c_X0_burnNeighbours (l : Launch) (G : va_G) (cI cZ cT : ClassId) (o : Nat) (S : zS) (w c : Nat) (hw : w < 2) (hc : c < 144) : zU l G cI cZ cT o yX0_burnNeighbours wsX0_burnNeighbours { frames := 1, cells := 0, slots := 0, locals := 23 } [.ref (o + pG w), .int (nI c)] S (fun u => u = s_burnN S w c 4) := by
  refine z_ofV (cc := cX0_burnNeighbours) (maxL := 4) (by decide) rfl (by simp [lg_sl, Value.category]) ?_
  intro p9 e9 s9 m9 a9 b9 h9 c9 X
  refine v_lo [0, 1] (lo' := [(0, .ref (o + pG w)), (1, .int (nI c))]) rfl ?_
  refine v_iconst (v := 0) X (by decide) dX0_burnNeighbours_0 ?_
  refine v_istore_n (lo' := [(2, .int 0), (0, .ref (o + pG w)), (1, .int (nI c))]) X dX0_burnNeighbours_1 rfl (by decide) rfl ?_
  have L_2 : ∀ (d d9 : Nat), d9 + d = 4 → z_V p9 l e9 (headSpec wsX0_burnNeighbours { frames := 1, cells := 0, slots := 0, locals := 23 }).room s9 m9 a9 b9 h9 c9 (MQ b9 (va_Qv (fun u => u = s_burnN S w c 4) (z_B G cI cZ cT o) (z_A o s9.heap.size)) a9 s9 0 0 (z_A o s9.heap.size)) G cI cZ cT o 4 (s_burnN S w c d9) 2 [(0, .ref (o + pG w)), (1, .int (nI c)), (2, .int (nI d9))] [] := by
    intro d
    induction d with
    | zero =>
      intro d9 hi_2
      have he_2 : d9 = 4 := by omega
      rw [he_2]
      refine v_iload_n X 2 dX0_burnNeighbours_2 rfl rfl ?_
      refine v_iconst (v := 4) X (by decide) dX0_burnNeighbours_3 ?_
      refine v_ncmp_ge X 4 4 rfl rfl (by omega) (by omega) (tgt := 36) dX0_burnNeighbours_4 (by decide) (fun c_4 => ?_) (fun c_4 => ?_)
      ·
        exact v_vret X dX0_burnNeighbours_36 (by rfl)
      ·
        exact absurd c_4 (by omega)
    | succ d ih_2 =>
      intro d9 hi_2
      refine v_iload_n X 2 dX0_burnNeighbours_2 rfl rfl ?_
      refine v_iconst (v := 4) X (by decide) dX0_burnNeighbours_3 ?_
      refine v_ncmp_ge X d9 4 rfl rfl (by omega) (by omega) (tgt := 36) dX0_burnNeighbours_4 (by decide) (fun c_4 => ?_) (fun c_4 => ?_)
      ·
        exact absurd c_4 (by omega)
      ·
        refine v_iload_n X 1 dX0_burnNeighbours_7 rfl rfl ?_
        refine v_iload_n X 2 dX0_burnNeighbours_8 rfl rfl ?_
        refine v_callNIf X [.int (nI c), .int (nI d9)] (c_X5_neighbour l G cI cZ cT o (s_burnN S w c d9) c d9 (by omega) (by omega)) 2 rfl hn_X0_78 gX0_burnNeighbours_X5_neighbour_n78 hw_X0_burnNeighbours_st_X5_neighbour hw_X0_burnNeighbours_in_X5 rfl ⟨rfl, rfl⟩ hy_X5_neighbour_N ⟨Nat.le_of_ble_eq_true rfl, Nat.le_of_ble_eq_true rfl⟩ rfl (Nat.le_of_ble_eq_true rfl) dX0_burnNeighbours_9 ?_
        by_cases hb_29 : nbb c d9 = true
        ·
          have hB_29 := nbn_lt (c := c) (d := d9) (by omega) hb_29
          refine v_top (y := nI (nbn c d9)) (if_pos hb_29) ?_
          refine v_istore_n (lo' := [(3, .int (nI (nbn c d9))), (0, .ref (o + pG w)), (1, .int (nI c)), (2, .int (nI d9))]) X dX0_burnNeighbours_12 rfl (by decide) rfl ?_
          refine v_iload_n X 0 dX0_burnNeighbours_13 rfl rfl ?_
          refine v_if_lt X (tgt := 30) dX0_burnNeighbours_14 (by decide) (fun q => absurd q (nI_pos (by omega))) (fun _ => ?_)
          refine v_aload_n X 1 dX0_burnNeighbours_17 rfl rfl ?_
          refine v_iload_n X 0 dX0_burnNeighbours_18 rfl rfl ?_
          refine v_callVIf X [.int (nI (nbn c d9))] (pG w) (pG_lt (by omega)) (c_X0_isTunnel l G cI cZ cT o (s_burnN S w c d9) w (nbn c d9) (by omega) (by omega)) (zc_G cI cZ cT o _ (by omega)) (C := RX0) (T := TX0) (N := 12) rfl 1 rfl gX0_burnNeighbours_X0_isTunnel rfl ⟨rfl, rfl⟩ hy_X0_isTunnel_V ⟨Nat.le_of_ble_eq_true rfl, Nat.le_of_ble_eq_true rfl⟩ rfl (Nat.le_of_ble_eq_true rfl) dX0_burnNeighbours_19 ?_
          refine v_if_eq X (tgt := 30) dX0_burnNeighbours_22 (by decide) (fun c_22 => ?_) (fun c_22 => ?_)
          ·
            refine v_iinc (v := nI (d9 + 1)) (lo' := [(2, .int (nI (d9 + 1))), (3, .int (nI (nbn c d9))), (0, .ref (o + pG w)), (1, .int (nI c))]) X 3 dX0_burnNeighbours_30 rfl (nI_1 d9) (by decide) rfl ?_
            refine v_goto (tgt := 2) X dX0_burnNeighbours_33 (by decide) ?_
            refine v_lo [2, 3, 0] (lo' := [(0, .ref (o + pG w)), (1, .int (nI c)), (2, .int (nI (d9 + 1)))]) rfl ?_
            refine v_eq (S' := s_burnN S w c (d9 + 1)) (lo' := [(0, .ref (o + pG w)), (1, .int (nI c)), (2, .int (nI (d9 + 1)))]) (by simp [s_burnN, s_burn1, c_4, hb_29, c_22]) (by rfl) ?_
            exact ih_2 (d9 + 1) (by omega)
          ·
            refine v_aload_n X 1 dX0_burnNeighbours_25 rfl rfl ?_
            refine v_iload_n X 0 dX0_burnNeighbours_26 rfl rfl ?_
            refine v_callVUf X [.int (nI (nbn c d9))] (pG w) (pG_lt (by omega)) (c_X0_burn l G cI cZ cT o (s_burnN S w c d9) w (nbn c d9) (by omega) (by omega)) (zc_G cI cZ cT o _ (by omega)) (C := RX0) (T := TX0) (N := 12) rfl 1 rfl gX0_burnNeighbours_X0_burn rfl ⟨rfl, rfl⟩ hy_X0_burn_V ⟨Nat.le_of_ble_eq_true rfl, Nat.le_of_ble_eq_true rfl⟩ rfl (Nat.le_of_ble_eq_true rfl) dX0_burnNeighbours_27 ?_
            refine v_iinc (v := nI (d9 + 1)) (lo' := [(2, .int (nI (d9 + 1))), (3, .int (nI (nbn c d9))), (0, .ref (o + pG w)), (1, .int (nI c))]) X 3 dX0_burnNeighbours_30 rfl (nI_1 d9) (by decide) rfl ?_
            refine v_goto (tgt := 2) X dX0_burnNeighbours_33 (by decide) ?_
            refine v_lo [2, 3, 0] (lo' := [(0, .ref (o + pG w)), (1, .int (nI c)), (2, .int (nI (d9 + 1)))]) rfl ?_
            refine v_eq (S' := s_burnN S w c (d9 + 1)) (lo' := [(0, .ref (o + pG w)), (1, .int (nI c)), (2, .int (nI (d9 + 1)))]) (by simp [s_burnN, s_burn1, c_4, hb_29, c_22]) (by rfl) ?_
            exact ih_2 (d9 + 1) (by omega)
        ·
          refine v_top (y := -1) (if_neg hb_29) ?_
          refine v_istore_n (lo' := [(3, .int (-1)), (0, .ref (o + pG w)), (1, .int (nI c)), (2, .int (nI d9))]) X dX0_burnNeighbours_12 rfl (by decide) rfl ?_
          refine v_iload_n X 0 dX0_burnNeighbours_13 rfl rfl ?_
          refine v_if_lt X (tgt := 30) dX0_burnNeighbours_14 (by decide) (fun _ => ?_) (fun q => absurd q (by decide))
          refine v_iinc (v := nI (d9 + 1)) (lo' := [(2, .int (nI (d9 + 1))), (3, .int (-1)), (0, .ref (o + pG w)), (1, .int (nI c))]) X 3 dX0_burnNeighbours_30 rfl (nI_1 d9) (by decide) rfl ?_
          refine v_goto (tgt := 2) X dX0_burnNeighbours_33 (by decide) ?_
          refine v_lo [2, 3, 0] (lo' := [(0, .ref (o + pG w)), (1, .int (nI c)), (2, .int (nI (d9 + 1)))]) rfl ?_
          refine v_eq (S' := s_burnN S w c (d9 + 1)) (lo' := [(0, .ref (o + pG w)), (1, .int (nI c)), (2, .int (nI (d9 + 1)))]) (by simp [s_burnN, s_burn1, c_4, hb_29]) (by rfl) ?_
          exact ih_2 (d9 + 1) (by omega)
  refine v_lo [1, 2, 0] (lo' := [(0, .ref (o + pG w)), (1, .int (nI c)), (2, .int 0)]) rfl ?_
  refine v_eq (S' := s_burnN S w c 0) (lo' := [(0, .ref (o + pG w)), (1, .int (nI c)), (2, .int (nI 0))]) (by rfl) (by rfl) ?_
  exact L_2 (4) 0 (by omega)
theorem hw_X0_setFire_st_X5_neighbour : Cond.static yX5_neighbour ∈ wsX0_setFire := by decide +kernel
theorem hw_X0_setFire_in_X5 : Cond.initialized yX5_neighbour.cls ∈ wsX0_setFire := by decide +kernel
theorem hy_X0_burnNeighbours_V : yX0_burnNeighbours.cls = RX0 ∧ yX0_burnNeighbours.cls ≠ "java/lang/invoke/MethodHandle" ∧ yX0_burnNeighbours.cls ≠ "java/lang/invoke/VarHandle" ∧ (parseMethodDescriptor yX0_burnNeighbours.desc).map (fun d => d.parameters.length) = some 1 := by decide +kernel
set_option maxRecDepth 100000 in
set_option maxHeartbeats 4000000 in
/-- X0_setFire -/
theorem c_X0_setFire (l : Launch) (G : va_G) (cI cZ cT : ClassId) (o : Nat) (S : zS) (w c : Nat) (hw : w < 2) (hc : c < 144) : zU l G cI cZ cT o yX0_setFire wsX0_setFire { frames := 2, cells := 0, slots := 0, locals := 46 } [.ref (o + pG w), .int (nI c)] S (fun u => u = s_fire S w c) := by
  refine z_ofV (cc := cX0_setFire) (maxL := 4) (by decide) rfl (by simp [lg_sl, Value.category]) ?_
  intro p9 e9 s9 m9 a9 b9 h9 c9 X
  refine v_lo [0, 1] (lo' := [(0, .ref (o + pG w)), (1, .int (nI c))]) rfl ?_
  refine v_aload_n X 0 dX0_setFire_0 rfl rfl ?_
  refine v_iload_n X 1 dX0_setFire_1 rfl rfl ?_
  refine v_callVUf X [.int (nI c)] (pG w) (pG_lt (by omega)) (c_X0_burn l G cI cZ cT o S w c (by omega) (by omega)) (zc_G cI cZ cT o _ (by omega)) (C := RX0) (T := TX0) (N := 12) rfl 1 rfl gX0_setFire_X0_burn rfl ⟨rfl, rfl⟩ hy_X0_burn_V ⟨Nat.le_of_ble_eq_true rfl, Nat.le_of_ble_eq_true rfl⟩ rfl (Nat.le_of_ble_eq_true rfl) dX0_setFire_2 ?_
  refine v_iconst (v := 0) X (by decide) dX0_setFire_5 ?_
  refine v_istore_n (lo' := [(2, .int 0), (0, .ref (o + pG w)), (1, .int (nI c))]) X dX0_setFire_6 rfl (by decide) rfl ?_
  have L_7 : ∀ (d d9 : Nat), d9 + d = 4 → z_V p9 l e9 (headSpec wsX0_setFire { frames := 2, cells := 0, slots := 0, locals := 46 }).room s9 m9 a9 b9 h9 c9 (MQ b9 (va_Qv (fun u => u = s_fire S w c) (z_B G cI cZ cT o) (z_A o s9.heap.size)) a9 s9 0 0 (z_A o s9.heap.size)) G cI cZ cT o 4 (s_fireN S w c d9) 7 [(0, .ref (o + pG w)), (1, .int (nI c)), (2, .int (nI d9))] [] := by
    intro d
    induction d with
    | zero =>
      intro d9 hi_7
      have he_7 : d9 = 4 := by omega
      rw [he_7]
      refine v_iload_n X 2 dX0_setFire_7 rfl rfl ?_
      refine v_iconst (v := 4) X (by decide) dX0_setFire_8 ?_
      refine v_ncmp_ge X 4 4 rfl rfl (by omega) (by omega) (tgt := 46) dX0_setFire_9 (by decide) (fun c_9 => ?_) (fun c_9 => ?_)
      ·
        exact v_vret X dX0_setFire_46 (by rfl)
      ·
        exact absurd c_9 (by omega)
    | succ d ih_7 =>
      intro d9 hi_7
      refine v_iload_n X 2 dX0_setFire_7 rfl rfl ?_
      refine v_iconst (v := 4) X (by decide) dX0_setFire_8 ?_
      refine v_ncmp_ge X d9 4 rfl rfl (by omega) (by omega) (tgt := 46) dX0_setFire_9 (by decide) (fun c_9 => ?_) (fun c_9 => ?_)
      ·
        exact absurd c_9 (by omega)
      ·
        refine v_iload_n X 1 dX0_setFire_12 rfl rfl ?_
        refine v_iload_n X 2 dX0_setFire_13 rfl rfl ?_
        refine v_callNIf X [.int (nI c), .int (nI d9)] (c_X5_neighbour l G cI cZ cT o (s_fireN S w c d9) c d9 (by omega) (by omega)) 2 rfl hn_X0_78 gX0_setFire_X5_neighbour_n78 hw_X0_setFire_st_X5_neighbour hw_X0_setFire_in_X5 rfl ⟨rfl, rfl⟩ hy_X5_neighbour_N ⟨Nat.le_of_ble_eq_true rfl, Nat.le_of_ble_eq_true rfl⟩ rfl (Nat.le_of_ble_eq_true rfl) dX0_setFire_14 ?_
        by_cases hb_32 : nbb c d9 = true
        ·
          have hB_32 := nbn_lt (c := c) (d := d9) (by omega) hb_32
          refine v_top (y := nI (nbn c d9)) (if_pos hb_32) ?_
          refine v_istore_n (lo' := [(3, .int (nI (nbn c d9))), (0, .ref (o + pG w)), (1, .int (nI c)), (2, .int (nI d9))]) X dX0_setFire_17 rfl (by decide) rfl ?_
          refine v_iload_n X 0 dX0_setFire_18 rfl rfl ?_
          refine v_if_lt X (tgt := 40) dX0_setFire_19 (by decide) (fun q => absurd q (nI_pos (by omega))) (fun _ => ?_)
          refine v_aload_n X 1 dX0_setFire_22 rfl rfl ?_
          refine v_iload_n X 0 dX0_setFire_23 rfl rfl ?_
          refine v_callVIf X [.int (nI (nbn c d9))] (pG w) (pG_lt (by omega)) (c_X0_isTunnel l G cI cZ cT o (s_fireN S w c d9) w (nbn c d9) (by omega) (by omega)) (zc_G cI cZ cT o _ (by omega)) (C := RX0) (T := TX0) (N := 12) rfl 1 rfl gX0_setFire_X0_isTunnel rfl ⟨rfl, rfl⟩ hy_X0_isTunnel_V ⟨Nat.le_of_ble_eq_true rfl, Nat.le_of_ble_eq_true rfl⟩ rfl (Nat.le_of_ble_eq_true rfl) dX0_setFire_24 ?_
          refine v_if_eq X (tgt := 40) dX0_setFire_27 (by decide) (fun c_27 => ?_) (fun c_27 => ?_)
          ·
            refine v_iinc (v := nI (d9 + 1)) (lo' := [(2, .int (nI (d9 + 1))), (3, .int (nI (nbn c d9))), (0, .ref (o + pG w)), (1, .int (nI c))]) X 3 dX0_setFire_40 rfl (nI_1 d9) (by decide) rfl ?_
            refine v_goto (tgt := 7) X dX0_setFire_43 (by decide) ?_
            refine v_lo [2, 3, 0] (lo' := [(0, .ref (o + pG w)), (1, .int (nI c)), (2, .int (nI (d9 + 1)))]) rfl ?_
            refine v_eq (S' := s_fireN S w c (d9 + 1)) (lo' := [(0, .ref (o + pG w)), (1, .int (nI c)), (2, .int (nI (d9 + 1)))]) (by simp [s_fireN, s_fire1, c_9, hb_32, c_27]) (by rfl) ?_
            exact ih_7 (d9 + 1) (by omega)
          ·
            refine v_aload_n X 1 dX0_setFire_30 rfl rfl ?_
            refine v_iload_n X 0 dX0_setFire_31 rfl rfl ?_
            refine v_callVUf X [.int (nI (nbn c d9))] (pG w) (pG_lt (by omega)) (c_X0_burn l G cI cZ cT o (s_fireN S w c d9) w (nbn c d9) (by omega) (by omega)) (zc_G cI cZ cT o _ (by omega)) (C := RX0) (T := TX0) (N := 12) rfl 1 rfl gX0_setFire_X0_burn rfl ⟨rfl, rfl⟩ hy_X0_burn_V ⟨Nat.le_of_ble_eq_true rfl, Nat.le_of_ble_eq_true rfl⟩ rfl (Nat.le_of_ble_eq_true rfl) dX0_setFire_32 ?_
            refine v_aload_n X 1 dX0_setFire_35 rfl rfl ?_
            refine v_iload_n X 0 dX0_setFire_36 rfl rfl ?_
            refine v_callVUf X [.int (nI (nbn c d9))] (pG w) (pG_lt (by omega)) (c_X0_burnNeighbours l G cI cZ cT o (s_burn (s_fireN S w c d9) w (nbn c d9)) w (nbn c d9) (by omega) (by omega)) (zc_G cI cZ cT o _ (by omega)) (C := RX0) (T := TX0) (N := 12) rfl 1 rfl gX0_setFire_X0_burnNeighbours rfl ⟨rfl, rfl⟩ hy_X0_burnNeighbours_V ⟨Nat.le_of_ble_eq_true rfl, Nat.le_of_ble_eq_true rfl⟩ rfl (Nat.le_of_ble_eq_true rfl) dX0_setFire_37 ?_
            refine v_iinc (v := nI (d9 + 1)) (lo' := [(2, .int (nI (d9 + 1))), (3, .int (nI (nbn c d9))), (0, .ref (o + pG w)), (1, .int (nI c))]) X 3 dX0_setFire_40 rfl (nI_1 d9) (by decide) rfl ?_
            refine v_goto (tgt := 7) X dX0_setFire_43 (by decide) ?_
            refine v_lo [2, 3, 0] (lo' := [(0, .ref (o + pG w)), (1, .int (nI c)), (2, .int (nI (d9 + 1)))]) rfl ?_
            refine v_eq (S' := s_fireN S w c (d9 + 1)) (lo' := [(0, .ref (o + pG w)), (1, .int (nI c)), (2, .int (nI (d9 + 1)))]) (by simp [s_fireN, s_fire1, c_9, hb_32, c_27]) (by rfl) ?_
            exact ih_7 (d9 + 1) (by omega)
        ·
          refine v_top (y := -1) (if_neg hb_32) ?_
          refine v_istore_n (lo' := [(3, .int (-1)), (0, .ref (o + pG w)), (1, .int (nI c)), (2, .int (nI d9))]) X dX0_setFire_17 rfl (by decide) rfl ?_
          refine v_iload_n X 0 dX0_setFire_18 rfl rfl ?_
          refine v_if_lt X (tgt := 40) dX0_setFire_19 (by decide) (fun _ => ?_) (fun q => absurd q (by decide))
          refine v_iinc (v := nI (d9 + 1)) (lo' := [(2, .int (nI (d9 + 1))), (3, .int (-1)), (0, .ref (o + pG w)), (1, .int (nI c))]) X 3 dX0_setFire_40 rfl (nI_1 d9) (by decide) rfl ?_
          refine v_goto (tgt := 7) X dX0_setFire_43 (by decide) ?_
          refine v_lo [2, 3, 0] (lo' := [(0, .ref (o + pG w)), (1, .int (nI c)), (2, .int (nI (d9 + 1)))]) rfl ?_
          refine v_eq (S' := s_fireN S w c (d9 + 1)) (lo' := [(0, .ref (o + pG w)), (1, .int (nI c)), (2, .int (nI (d9 + 1)))]) (by simp [s_fireN, s_fire1, c_9, hb_32]) (by rfl) ?_
          exact ih_7 (d9 + 1) (by omega)
  refine v_lo [1, 2, 0] (lo' := [(0, .ref (o + pG w)), (1, .int (nI c)), (2, .int 0)]) rfl ?_
  refine v_eq (S' := s_fireN S w c 0) (lo' := [(0, .ref (o + pG w)), (1, .int (nI c)), (2, .int (nI 0))]) (by rfl) (by rfl) ?_
  exact L_7 (4) 0 (by omega)
theorem hi_X0_averageSmokeBefore_X0 : ∀ w ∈ wsX00, w ∈ wsX0_averageSmokeBefore := by decide +kernel
theorem hl_X0_averageSmokeBefore_39 : Cond.fieldLink RX0 39 RX0 (TX0 9).2.1 (TX0 9).2.2.1 ∈ wsX0_averageSmokeBefore := by decide +kernel
theorem hw_X0_averageSmokeBefore_st_X5_neighbour : Cond.static yX5_neighbour ∈ wsX0_averageSmokeBefore := by decide +kernel
theorem hw_X0_averageSmokeBefore_in_X5 : Cond.initialized yX5_neighbour.cls ∈ wsX0_averageSmokeBefore := by decide +kernel
set_option maxRecDepth 100000 in
set_option maxHeartbeats 4000000 in
/-- X0_averageSmokeBefore -/
theorem c_X0_averageSmokeBefore (l : Launch) (G : va_G) (cI cZ cT : ClassId) (o : Nat) (S : zS) (w c : Nat) (hw : w < 2) (hc : c < 144) : zI l G cI cZ cT o yX0_averageSmokeBefore wsX0_averageSmokeBefore { frames := 1, cells := 0, slots := 0, locals := 23 } [.ref (o + pG w), .int (nI c)] S (fun r u => r = s_avg S w c ∧ u = S) := by
  refine z_ofI (cc := cX0_averageSmokeBefore) (maxL := 6) (by decide) rfl (by simp [lg_sl, Value.category]) ?_
  intro p9 e9 s9 m9 a9 b9 h9 c9 X
  refine v_lo [0, 1] (lo' := [(0, .ref (o + pG w)), (1, .int (nI c))]) rfl ?_
  refine v_aload_n X 0 dX0_averageSmokeBefore_0 rfl rfl ?_
  refine v_getG X (by omega) 9 (by decide) hi_X0_averageSmokeBefore_X0 hl_X0_averageSmokeBefore_39 rfl (v := .ref (o + pA w 9)) rfl dX0_averageSmokeBefore_1 ?_
  refine v_iload_n X 1 dX0_averageSmokeBefore_4 rfl rfl ?_
  refine v_ialdA X (w := w) (by omega) 9 (by omega) c rfl (by omega) dX0_averageSmokeBefore_5 ?_
  refine v_istore_n (lo' := [(2, .int (S w 9 c)), (0, .ref (o + pG w)), (1, .int (nI c))]) X dX0_averageSmokeBefore_6 rfl (by decide) rfl ?_
  refine v_iconst (v := 1) X (by decide) dX0_averageSmokeBefore_7 ?_
  refine v_istore_n (lo' := [(3, .int 1), (2, .int (S w 9 c)), (0, .ref (o + pG w)), (1, .int (nI c))]) X dX0_averageSmokeBefore_8 rfl (by decide) rfl ?_
  refine v_iconst (v := 0) X (by decide) dX0_averageSmokeBefore_9 ?_
  refine v_istore (lo' := [(4, .int 0), (3, .int 1), (2, .int (S w 9 c)), (0, .ref (o + pG w)), (1, .int (nI c))]) X dX0_averageSmokeBefore_10 (by decide) rfl ?_
  have L_12 : ∀ (d d9 : Nat), d9 + d = 4 → z_V p9 l e9 (headSpec wsX0_averageSmokeBefore { frames := 1, cells := 0, slots := 0, locals := 23 }).room s9 m9 a9 b9 h9 c9 (MQ b9 (va_Qi (fun r u => r = s_avg S w c ∧ u = S) (z_B G cI cZ cT o) (z_A o s9.heap.size)) a9 s9 0 0 (z_A o s9.heap.size)) G cI cZ cT o 6 (S) 12 [(0, .ref (o + pG w)), (1, .int (nI c)), (2, .int ((s_avgN S w c d9).1)), (3, .int (nI ((s_avgN S w c d9).2))), (4, .int (nI d9))] [] := by
    intro d
    induction d with
    | zero =>
      intro d9 hi_12
      have he_12 : d9 = 4 := by omega
      rw [he_12]
      have hk9 := s_avgN_le S w c 4
      refine v_iload X 4 dX0_averageSmokeBefore_12 rfl ?_
      refine v_iconst (v := 4) X (by decide) dX0_averageSmokeBefore_14 ?_
      refine v_ncmp_ge X 4 4 rfl rfl (by omega) (by omega) (tgt := 59) dX0_averageSmokeBefore_15 (by decide) (fun c_15 => ?_) (fun c_15 => ?_)
      ·
        refine v_iload_n X 2 dX0_averageSmokeBefore_59 rfl rfl ?_
        refine v_iload_n X 3 dX0_averageSmokeBefore_60 rfl rfl ?_
        refine v_idiv X (nI_ne0 (by have h9 := s_avgN_le S w c 4; omega) (by have h9 := s_avgN_le S w c 4; omega)) dX0_averageSmokeBefore_61 ?_
        exact v_iret X dX0_averageSmokeBefore_62 (by exact ⟨rfl, rfl⟩)
      ·
        exact absurd c_15 (by omega)
    | succ d ih_12 =>
      intro d9 hi_12
      have hk9 := s_avgN_le S w c d9
      refine v_iload X 4 dX0_averageSmokeBefore_12 rfl ?_
      refine v_iconst (v := 4) X (by decide) dX0_averageSmokeBefore_14 ?_
      refine v_ncmp_ge X d9 4 rfl rfl (by omega) (by omega) (tgt := 59) dX0_averageSmokeBefore_15 (by decide) (fun c_15 => ?_) (fun c_15 => ?_)
      ·
        exact absurd c_15 (by omega)
      ·
        refine v_iload_n X 1 dX0_averageSmokeBefore_18 rfl rfl ?_
        refine v_iload X 4 dX0_averageSmokeBefore_19 rfl ?_
        refine v_callNIf X [.int (nI c), .int (nI d9)] (c_X5_neighbour l G cI cZ cT o S c d9 (by omega) (by omega)) 2 rfl hn_X0_78 gX0_averageSmokeBefore_X5_neighbour_n78 hw_X0_averageSmokeBefore_st_X5_neighbour hw_X0_averageSmokeBefore_in_X5 rfl ⟨rfl, rfl⟩ hy_X5_neighbour_N ⟨Nat.le_of_ble_eq_true rfl, Nat.le_of_ble_eq_true rfl⟩ rfl (Nat.le_of_ble_eq_true rfl) dX0_averageSmokeBefore_21 ?_
        by_cases hb_41 : nbb c d9 = true
        ·
          have hB_41 := nbn_lt (c := c) (d := d9) (by omega) hb_41
          refine v_top (y := nI (nbn c d9)) (if_pos hb_41) ?_
          refine v_istore (lo' := [(5, .int (nI (nbn c d9))), (0, .ref (o + pG w)), (1, .int (nI c)), (2, .int ((s_avgN S w c d9).1)), (3, .int (nI ((s_avgN S w c d9).2))), (4, .int (nI d9))]) X dX0_averageSmokeBefore_24 (by decide) rfl ?_
          refine v_iload X 0 dX0_averageSmokeBefore_26 rfl ?_
          refine v_if_lt X (tgt := 53) dX0_averageSmokeBefore_28 (by decide) (fun q => absurd q (nI_pos (by omega))) (fun _ => ?_)
          refine v_aload_n X 1 dX0_averageSmokeBefore_31 rfl rfl ?_
          refine v_iload X 0 dX0_averageSmokeBefore_32 rfl ?_
          refine v_callVIf X [.int (nI (nbn c d9))] (pG w) (pG_lt (by omega)) (c_X0_isTunnel l G cI cZ cT o S w (nbn c d9) (by omega) (by omega)) (zc_G cI cZ cT o _ (by omega)) (C := RX0) (T := TX0) (N := 12) rfl 1 rfl gX0_averageSmokeBefore_X0_isTunnel rfl ⟨rfl, rfl⟩ hy_X0_isTunnel_V ⟨Nat.le_of_ble_eq_true rfl, Nat.le_of_ble_eq_true rfl⟩ rfl (Nat.le_of_ble_eq_true rfl) dX0_averageSmokeBefore_34 ?_
          refine v_if_eq X (tgt := 53) dX0_averageSmokeBefore_37 (by decide) (fun c_37 => ?_) (fun c_37 => ?_)
          ·
            refine v_iinc (v := nI (d9 + 1)) (lo' := [(4, .int (nI (d9 + 1))), (5, .int (nI (nbn c d9))), (0, .ref (o + pG w)), (1, .int (nI c)), (2, .int ((s_avgN S w c d9).1)), (3, .int (nI ((s_avgN S w c d9).2)))]) X 5 dX0_averageSmokeBefore_53 rfl (nI_1 d9) (by decide) rfl ?_
            refine v_goto (tgt := 12) X dX0_averageSmokeBefore_56 (by decide) ?_
            refine v_lo [2, 3, 4, 5, 0] (lo' := [(0, .ref (o + pG w)), (1, .int (nI c)), (2, .int ((s_avgN S w c d9).1)), (3, .int (nI ((s_avgN S w c d9).2))), (4, .int (nI (d9 + 1)))]) rfl ?_
            refine v_eq (S' := S) (lo' := [(0, .ref (o + pG w)), (1, .int (nI c)), (2, .int ((s_avgN S w c (d9 + 1)).1)), (3, .int (nI ((s_avgN S w c (d9 + 1)).2))), (4, .int (nI (d9 + 1)))]) (by rfl) (by simp [s_avgN, s_avg1, c_15, hb_41, c_37]) ?_
            exact ih_12 (d9 + 1) (by omega)
          ·
            refine v_iload_n X 3 dX0_averageSmokeBefore_40 rfl rfl ?_
            refine v_aload_n X 1 dX0_averageSmokeBefore_41 rfl rfl ?_
            refine v_getG X (by omega) 9 (by decide) hi_X0_averageSmokeBefore_X0 hl_X0_averageSmokeBefore_39 rfl (v := .ref (o + pA w 9)) rfl dX0_averageSmokeBefore_42 ?_
            refine v_iload X 0 dX0_averageSmokeBefore_45 rfl ?_
            refine v_ialdA X (w := w) (by omega) 9 (by omega) (nbn c d9) rfl (by omega) dX0_averageSmokeBefore_47 ?_
            refine v_iadd X dX0_averageSmokeBefore_48 ?_
            refine v_istore_n (lo' := [(2, .int (((s_avgN S w c d9).1) + (S w 9 (nbn c d9)))), (5, .int (nI (nbn c d9))), (0, .ref (o + pG w)), (1, .int (nI c)), (3, .int (nI ((s_avgN S w c d9).2))), (4, .int (nI d9))]) X dX0_averageSmokeBefore_49 rfl (by decide) rfl ?_
            refine v_iinc (v := nI ((s_avgN S w c d9).2 + 1)) (lo' := [(3, .int (nI ((s_avgN S w c d9).2 + 1))), (2, .int (((s_avgN S w c d9).1) + (S w 9 (nbn c d9)))), (5, .int (nI (nbn c d9))), (0, .ref (o + pG w)), (1, .int (nI c)), (4, .int (nI d9))]) X 4 dX0_averageSmokeBefore_50 rfl (nI_1 ((s_avgN S w c d9).2)) (by decide) rfl ?_
            refine v_iinc (v := nI (d9 + 1)) (lo' := [(4, .int (nI (d9 + 1))), (3, .int (nI ((s_avgN S w c d9).2 + 1))), (2, .int (((s_avgN S w c d9).1) + (S w 9 (nbn c d9)))), (5, .int (nI (nbn c d9))), (0, .ref (o + pG w)), (1, .int (nI c))]) X 5 dX0_averageSmokeBefore_53 rfl (nI_1 d9) (by decide) rfl ?_
            refine v_goto (tgt := 12) X dX0_averageSmokeBefore_56 (by decide) ?_
            refine v_lo [4, 5, 2, 1, 0] (lo' := [(0, .ref (o + pG w)), (1, .int (nI c)), (2, .int (((s_avgN S w c d9).1) + (S w 9 (nbn c d9)))), (3, .int (nI ((s_avgN S w c d9).2 + 1))), (4, .int (nI (d9 + 1)))]) rfl ?_
            refine v_eq (S' := S) (lo' := [(0, .ref (o + pG w)), (1, .int (nI c)), (2, .int ((s_avgN S w c (d9 + 1)).1)), (3, .int (nI ((s_avgN S w c (d9 + 1)).2))), (4, .int (nI (d9 + 1)))]) (by rfl) (by simp [s_avgN, s_avg1, c_15, hb_41, c_37]) ?_
            exact ih_12 (d9 + 1) (by omega)
        ·
          refine v_top (y := -1) (if_neg hb_41) ?_
          refine v_istore (lo' := [(5, .int (-1)), (0, .ref (o + pG w)), (1, .int (nI c)), (2, .int ((s_avgN S w c d9).1)), (3, .int (nI ((s_avgN S w c d9).2))), (4, .int (nI d9))]) X dX0_averageSmokeBefore_24 (by decide) rfl ?_
          refine v_iload X 0 dX0_averageSmokeBefore_26 rfl ?_
          refine v_if_lt X (tgt := 53) dX0_averageSmokeBefore_28 (by decide) (fun _ => ?_) (fun q => absurd q (by decide))
          refine v_iinc (v := nI (d9 + 1)) (lo' := [(4, .int (nI (d9 + 1))), (5, .int (-1)), (0, .ref (o + pG w)), (1, .int (nI c)), (2, .int ((s_avgN S w c d9).1)), (3, .int (nI ((s_avgN S w c d9).2)))]) X 5 dX0_averageSmokeBefore_53 rfl (nI_1 d9) (by decide) rfl ?_
          refine v_goto (tgt := 12) X dX0_averageSmokeBefore_56 (by decide) ?_
          refine v_lo [2, 3, 4, 5, 0] (lo' := [(0, .ref (o + pG w)), (1, .int (nI c)), (2, .int ((s_avgN S w c d9).1)), (3, .int (nI ((s_avgN S w c d9).2))), (4, .int (nI (d9 + 1)))]) rfl ?_
          refine v_eq (S' := S) (lo' := [(0, .ref (o + pG w)), (1, .int (nI c)), (2, .int ((s_avgN S w c (d9 + 1)).1)), (3, .int (nI ((s_avgN S w c (d9 + 1)).2))), (4, .int (nI (d9 + 1)))]) (by rfl) (by simp [s_avgN, s_avg1, c_15, hb_41]) ?_
          exact ih_12 (d9 + 1) (by omega)
  refine v_lo [3, 4, 2, 1, 0] (lo' := [(0, .ref (o + pG w)), (1, .int (nI c)), (2, .int (S w 9 c)), (3, .int 1), (4, .int 0)]) rfl ?_
  refine v_eq (S' := S) (lo' := [(0, .ref (o + pG w)), (1, .int (nI c)), (2, .int ((s_avgN S w c 0).1)), (3, .int (nI ((s_avgN S w c 0).2))), (4, .int (nI 0))]) (by rfl) (by rfl) ?_
  exact L_12 (4) 0 (by omega)
theorem hy_X0_allSmoke_V : yX0_allSmoke.cls = RX0 ∧ yX0_allSmoke.cls ≠ "java/lang/invoke/MethodHandle" ∧ yX0_allSmoke.cls ≠ "java/lang/invoke/VarHandle" ∧ (parseMethodDescriptor yX0_allSmoke.desc).map (fun d => d.parameters.length) = some 0 := by decide +kernel
theorem hi_X0_spreadSmoke_X0 : ∀ w ∈ wsX00, w ∈ wsX0_spreadSmoke := by decide +kernel
theorem hl_X0_spreadSmoke_27 : Cond.fieldLink RX0 27 RX0 (TX0 5).2.1 (TX0 5).2.2.1 ∈ wsX0_spreadSmoke := by decide +kernel
theorem hl_X0_spreadSmoke_39 : Cond.fieldLink RX0 39 RX0 (TX0 9).2.1 (TX0 9).2.2.1 ∈ wsX0_spreadSmoke := by decide +kernel
theorem hw_X0_spreadSmoke_55l : Cond.methodLink RX0 55 arraycopyName ∈ wsX0_spreadSmoke := by decide +kernel
theorem hw_X0_spreadSmoke_acn : Cond.native arraycopyName ∈ wsX0_spreadSmoke := by decide +kernel
theorem hw_X0_spreadSmoke_acs : Cond.static arraycopyName ∈ wsX0_spreadSmoke := by decide +kernel
theorem hw_X0_spreadSmoke_aci : Cond.initialized "java/lang/System" ∈ wsX0_spreadSmoke := by decide +kernel
theorem hy_X0_averageSmokeBefore_V : yX0_averageSmokeBefore.cls = RX0 ∧ yX0_averageSmokeBefore.cls ≠ "java/lang/invoke/MethodHandle" ∧ yX0_averageSmokeBefore.cls ≠ "java/lang/invoke/VarHandle" ∧ (parseMethodDescriptor yX0_averageSmokeBefore.desc).map (fun d => d.parameters.length) = some 1 := by decide +kernel
theorem hw_X0_spreadSmoke_97l : Cond.methodLink RX0 97 Lib.Math.max.name ∈ wsX0_spreadSmoke := by decide +kernel
theorem hw_X0_spreadSmoke_mmaxs : Cond.static Lib.Math.max.name ∈ wsX0_spreadSmoke := by decide +kernel
theorem hw_X0_spreadSmoke_mathi : Cond.initialized "java/lang/Math" ∈ wsX0_spreadSmoke := by decide +kernel
theorem hw_X0_spreadSmoke_mmaxc : Cond.code Lib.Math.max.name Lib.Math.max.code 2 (some .int) ∈ wsX0_spreadSmoke := by decide +kernel
set_option maxRecDepth 100000 in
set_option maxHeartbeats 4000000 in
/-- X0_spreadSmoke -/
theorem c_X0_spreadSmoke (l : Launch) (G : va_G) (cI cZ cT : ClassId) (o : Nat) (S : zS) (w : Nat) (hw : w < 2) : zU l G cI cZ cT o yX0_spreadSmoke wsX0_spreadSmoke { frames := 2, cells := 0, slots := 0, locals := 60 } [.ref (o + pG w)] S (fun u => u = s_smoke S w) := by
  refine z_ofV (cc := cX0_spreadSmoke) (maxL := 2) (by decide) rfl (by simp [lg_sl, Value.category]) ?_
  intro p9 e9 s9 m9 a9 b9 h9 c9 X
  refine v_lo [0] (lo' := [(0, .ref (o + pG w))]) rfl ?_
  refine v_aload_n X 0 dX0_spreadSmoke_0 rfl rfl ?_
  refine v_callVIf X [] (pG w) (pG_lt (by omega)) (c_X0_allSmoke l G cI cZ cT o S w (by omega)) (zc_G cI cZ cT o _ (by omega)) (C := RX0) (T := TX0) (N := 12) rfl 0 rfl gX0_spreadSmoke_X0_allSmoke rfl ⟨rfl, rfl⟩ hy_X0_allSmoke_V ⟨Nat.le_of_ble_eq_true rfl, Nat.le_of_ble_eq_true rfl⟩ rfl (Nat.le_of_ble_eq_true rfl) dX0_spreadSmoke_1 ?_
  refine v_if_ne X (tgt := 8) dX0_spreadSmoke_4 (by decide) (fun c_4 => ?_) (fun c_4 => ?_)
  ·
    refine v_aload_n X 0 dX0_spreadSmoke_8 rfl rfl ?_
    refine v_getG X (by omega) 5 (by decide) hi_X0_spreadSmoke_X0 hl_X0_spreadSmoke_27 rfl (v := .ref (o + pA w 5)) rfl dX0_spreadSmoke_9 ?_
    refine v_iconst (v := 0) X (by decide) dX0_spreadSmoke_12 ?_
    refine v_aload_n X 0 dX0_spreadSmoke_13 rfl rfl ?_
    refine v_getG X (by omega) 9 (by decide) hi_X0_spreadSmoke_X0 hl_X0_spreadSmoke_39 rfl (v := .ref (o + pA w 9)) rfl dX0_spreadSmoke_14 ?_
    refine v_iconst (v := 0) X (by decide) dX0_spreadSmoke_17 ?_
    refine v_sipush (v := 144) X (by decide) dX0_spreadSmoke_18 ?_
    refine v_copy X (pA w 5) (pA w 9) (pA_lt (by omega) (by omega)) (pA_lt (by omega) (by omega)) (n := 144) rfl (by decide) (zc_A cI cZ cT o _ (by omega) (by omega)) (zc_A cI cZ cT o _ (by omega) (by omega)) hw_X0_spreadSmoke_55l hw_X0_spreadSmoke_acn hw_X0_spreadSmoke_acs hw_X0_spreadSmoke_aci (S' := z_cpA S w 9 w 5) (zs_pA cI cZ cT o _ (by omega) (by omega) _) (Nat.le_of_ble_eq_true rfl) (Nat.le_of_ble_eq_true rfl) dX0_spreadSmoke_21 ?_
    refine v_iconst (v := 0) X (by decide) dX0_spreadSmoke_24 ?_
    refine v_istore_n (lo' := [(1, .int 0), (0, .ref (o + pG w))]) X dX0_spreadSmoke_25 rfl (by decide) rfl ?_
    have L_26 : ∀ (d i : Nat), i + d = 144 → z_V p9 l e9 (headSpec wsX0_spreadSmoke { frames := 2, cells := 0, slots := 0, locals := 60 }).room s9 m9 a9 b9 h9 c9 (MQ b9 (va_Qv (fun u => u = s_smoke S w) (z_B G cI cZ cT o) (z_A o s9.heap.size)) a9 s9 0 0 (z_A o s9.heap.size)) G cI cZ cT o 2 (s_smokeN S w i) 26 [(0, .ref (o + pG w)), (1, .int (nI i))] [] := by
      intro d
      induction d with
      | zero =>
        intro i hi_26
        have he_26 : i = 144 := by omega
        rw [he_26]
        refine v_iload_n X 1 dX0_spreadSmoke_26 rfl rfl ?_
        refine v_sipush (v := 144) X (by decide) dX0_spreadSmoke_27 ?_
        refine v_ncmp_ge X 144 144 rfl rfl (by omega) (by omega) (tgt := 64) dX0_spreadSmoke_30 (by decide) (fun c_30 => ?_) (fun c_30 => ?_)
        ·
          exact v_vret X dX0_spreadSmoke_64 (by simp [s_smoke, c_4, c_30])
        ·
          exact absurd c_30 (by omega)
      | succ d ih_26 =>
        intro i hi_26
        refine v_iload_n X 1 dX0_spreadSmoke_26 rfl rfl ?_
        refine v_sipush (v := 144) X (by decide) dX0_spreadSmoke_27 ?_
        refine v_ncmp_ge X i 144 rfl rfl (by omega) (by omega) (tgt := 64) dX0_spreadSmoke_30 (by decide) (fun c_30 => ?_) (fun c_30 => ?_)
        ·
          exact absurd c_30 (by omega)
        ·
          refine v_aload_n X 0 dX0_spreadSmoke_33 rfl rfl ?_
          refine v_iload_n X 1 dX0_spreadSmoke_34 rfl rfl ?_
          refine v_callVIf X [.int (nI i)] (pG w) (pG_lt (by omega)) (c_X0_isTunnel l G cI cZ cT o (s_smokeN S w i) w i (by omega) (by omega)) (zc_G cI cZ cT o _ (by omega)) (C := RX0) (T := TX0) (N := 12) rfl 1 rfl gX0_spreadSmoke_X0_isTunnel rfl ⟨rfl, rfl⟩ hy_X0_isTunnel_V ⟨Nat.le_of_ble_eq_true rfl, Nat.le_of_ble_eq_true rfl⟩ rfl (Nat.le_of_ble_eq_true rfl) dX0_spreadSmoke_35 ?_
          refine v_if_eq X (tgt := 58) dX0_spreadSmoke_38 (by decide) (fun c_38 => ?_) (fun c_38 => ?_)
          ·
            refine v_iinc (v := nI (i + 1)) (lo' := [(1, .int (nI (i + 1))), (0, .ref (o + pG w))]) X 1 dX0_spreadSmoke_58 rfl (nI_1 i) (by decide) rfl ?_
            refine v_goto (tgt := 26) X dX0_spreadSmoke_61 (by decide) ?_
            refine v_lo [1, 0] (lo' := [(0, .ref (o + pG w)), (1, .int (nI (i + 1)))]) rfl ?_
            refine v_eq (S' := s_smokeN S w (i + 1)) (lo' := [(0, .ref (o + pG w)), (1, .int (nI (i + 1)))]) (by simp [s_smokeN, s_smoke1, c_4, c_30, c_38]) (by rfl) ?_
            exact ih_26 (i + 1) (by omega)
          ·
            refine v_aload_n X 0 dX0_spreadSmoke_41 rfl rfl ?_
            refine v_getG X (by omega) 5 (by decide) hi_X0_spreadSmoke_X0 hl_X0_spreadSmoke_27 rfl (v := .ref (o + pA w 5)) rfl dX0_spreadSmoke_42 ?_
            refine v_iload_n X 1 dX0_spreadSmoke_45 rfl rfl ?_
            refine v_iconst (v := 0) X (by decide) dX0_spreadSmoke_46 ?_
            refine v_aload_n X 0 dX0_spreadSmoke_47 rfl rfl ?_
            refine v_iload_n X 1 dX0_spreadSmoke_48 rfl rfl ?_
            refine v_callVIf X [.int (nI i)] (pG w) (pG_lt (by omega)) (c_X0_averageSmokeBefore l G cI cZ cT o (s_smokeN S w i) w i (by omega) (by omega)) (zc_G cI cZ cT o _ (by omega)) (C := RX0) (T := TX0) (N := 12) rfl 1 rfl gX0_spreadSmoke_X0_averageSmokeBefore rfl ⟨rfl, rfl⟩ hy_X0_averageSmokeBefore_V ⟨Nat.le_of_ble_eq_true rfl, Nat.le_of_ble_eq_true rfl⟩ rfl (Nat.le_of_ble_eq_true rfl) dX0_spreadSmoke_49 ?_
            refine v_iconst (v := 1) X (by decide) dX0_spreadSmoke_52 ?_
            refine v_isub X dX0_spreadSmoke_53 ?_
            refine v_mmax X hw_X0_spreadSmoke_97l hw_X0_spreadSmoke_mmaxs hw_X0_spreadSmoke_mathi hw_X0_spreadSmoke_mmaxc (Nat.le_of_ble_eq_true rfl) (Nat.le_of_ble_eq_true rfl) dX0_spreadSmoke_54 ?_
            refine v_top (y := z_max0 ((s_avg (s_smokeN S w i) w i) - 1)) (rfl) ?_
            refine v_iastA X (w := w) (by omega) 5 (by omega) i rfl (by omega) dX0_spreadSmoke_57 ?_
            refine v_iinc (v := nI (i + 1)) (lo' := [(1, .int (nI (i + 1))), (0, .ref (o + pG w))]) X 1 dX0_spreadSmoke_58 rfl (nI_1 i) (by decide) rfl ?_
            refine v_goto (tgt := 26) X dX0_spreadSmoke_61 (by decide) ?_
            refine v_lo [1, 0] (lo' := [(0, .ref (o + pG w)), (1, .int (nI (i + 1)))]) rfl ?_
            refine v_eq (S' := s_smokeN S w (i + 1)) (lo' := [(0, .ref (o + pG w)), (1, .int (nI (i + 1)))]) (by simp [s_smokeN, s_smoke1, c_4, c_30, c_38]) (by rfl) ?_
            exact ih_26 (i + 1) (by omega)
    refine v_lo [1, 0] (lo' := [(0, .ref (o + pG w)), (1, .int 0)]) rfl ?_
    refine v_eq (S' := s_smokeN S w 0) (lo' := [(0, .ref (o + pG w)), (1, .int (nI 0))]) (by rfl) (by rfl) ?_
    exact L_26 (144) 0 (by omega)
  ·
    exact v_vret X dX0_spreadSmoke_7 (by simp [s_smoke, c_4])
theorem hi_X0_givesWay_X0 : ∀ w ∈ wsX00, w ∈ wsX0_givesWay := by decide +kernel
theorem hl_X0_givesWay_33 : Cond.fieldLink RX0 33 RX0 (TX0 7).2.1 (TX0 7).2.2.1 ∈ wsX0_givesWay := by decide +kernel
theorem hl_X0_givesWay_21 : Cond.fieldLink RX0 21 RX0 (TX0 3).2.1 (TX0 3).2.2.1 ∈ wsX0_givesWay := by decide +kernel
theorem hy_X0_propsNeeded_V : yX0_propsNeeded.cls = RX0 ∧ yX0_propsNeeded.cls ≠ "java/lang/invoke/MethodHandle" ∧ yX0_propsNeeded.cls ≠ "java/lang/invoke/VarHandle" ∧ (parseMethodDescriptor yX0_propsNeeded.desc).map (fun d => d.parameters.length) = some 1 := by decide +kernel
theorem hl_X0_givesWay_24 : Cond.fieldLink RX0 24 RX0 (TX0 4).2.1 (TX0 4).2.2.1 ∈ wsX0_givesWay := by decide +kernel
theorem hl_X0_givesWay_9 : Cond.fieldLink RX0 9 RX0 (TX0 0).2.1 (TX0 0).2.2.1 ∈ wsX0_givesWay := by decide +kernel
set_option maxRecDepth 100000 in
set_option maxHeartbeats 4000000 in
/-- X0_givesWay -/
theorem c_X0_givesWay (l : Launch) (G : va_G) (cI cZ cT : ClassId) (o : Nat) (S : zS) (w c : Nat) (hw : w < 2) (hc : c < 144) : zI l G cI cZ cT o yX0_givesWay wsX0_givesWay { frames := 1, cells := 0, slots := 0, locals := 21 } [.ref (o + pG w), .int (nI c)] S (fun r u => r = (s_givesWay S w c).1 ∧ u = (s_givesWay S w c).2) := by
  refine z_ofZb (cc := cX0_givesWay) (maxL := 2) (by decide) rfl (by simp [lg_sl, Value.category]) ?_
  intro p9 e9 s9 m9 a9 b9 h9 c9 X
  refine v_lo [0, 1] (lo' := [(0, .ref (o + pG w)), (1, .int (nI c))]) rfl ?_
  refine v_aload_n X 0 dX0_givesWay_0 rfl rfl ?_
  refine v_getG X (by omega) 7 (by decide) hi_X0_givesWay_X0 hl_X0_givesWay_33 rfl (v := .ref (o + pA w 7)) rfl dX0_givesWay_1 ?_
  refine v_iload_n X 1 dX0_givesWay_4 rfl rfl ?_
  refine v_ialdA X (w := w) (by omega) 7 (by omega) c rfl (by omega) dX0_givesWay_5 ?_
  refine v_if_le X (tgt := 34) dX0_givesWay_6 (by decide) (fun c_6 => ?_) (fun c_6 => ?_)
  ·
    refine v_aload_n X 0 dX0_givesWay_34 rfl rfl ?_
    refine v_getG X (by omega) 3 (by decide) hi_X0_givesWay_X0 hl_X0_givesWay_21 rfl (v := .ref (o + pA w 3)) rfl dX0_givesWay_35 ?_
    refine v_iload_n X 1 dX0_givesWay_38 rfl rfl ?_
    refine v_ialdA X (w := w) (by omega) 3 (by omega) c rfl (by omega) dX0_givesWay_39 ?_
    refine v_aload_n X 0 dX0_givesWay_40 rfl rfl ?_
    refine v_iload_n X 1 dX0_givesWay_41 rfl rfl ?_
    refine v_callVIf X [.int (nI c)] (pG w) (pG_lt (by omega)) (c_X0_propsNeeded l G cI cZ cT o S w c (by omega) (by omega)) (zc_G cI cZ cT o _ (by omega)) (C := RX0) (T := TX0) (N := 12) rfl 1 rfl gX0_givesWay_X0_propsNeeded rfl ⟨rfl, rfl⟩ hy_X0_propsNeeded_V ⟨Nat.le_of_ble_eq_true rfl, Nat.le_of_ble_eq_true rfl⟩ rfl (Nat.le_of_ble_eq_true rfl) dX0_givesWay_42 ?_
    refine v_icmp_lt X (tgt := 58) dX0_givesWay_45 (by decide) (fun c_45 => ?_) (fun c_45 => ?_)
    ·
      refine v_aload_n X 0 dX0_givesWay_58 rfl rfl ?_
      refine v_getG X (by omega) 4 (by decide) hi_X0_givesWay_X0 hl_X0_givesWay_24 rfl (v := .ref (o + pA w 4)) rfl dX0_givesWay_59 ?_
      refine v_iload_n X 1 dX0_givesWay_62 rfl rfl ?_
      refine v_dup2 X rfl rfl dX0_givesWay_63 ?_
      refine v_ialdA X (w := w) (by omega) 4 (by omega) c rfl (by omega) dX0_givesWay_64 ?_
      refine v_iconst (v := 1) X (by decide) dX0_givesWay_65 ?_
      refine v_iadd X dX0_givesWay_66 ?_
      refine v_iastA X (w := w) (by omega) 4 (by omega) c rfl (by omega) dX0_givesWay_67 ?_
      refine v_aload_n X 0 dX0_givesWay_68 rfl rfl ?_
      refine v_getG X (by omega) 4 (by decide) hi_X0_givesWay_X0 hl_X0_givesWay_24 rfl (v := .ref (o + pA w 4)) rfl dX0_givesWay_69 ?_
      refine v_iload_n X 1 dX0_givesWay_72 rfl rfl ?_
      refine v_ialdA X (w := w) (by omega) 4 (by omega) c rfl (by omega) dX0_givesWay_73 ?_
      refine v_top (y := (S w 4 c) + 1) (z_up_at _ _ _ _ _) ?_
      refine v_iconst (v := 4) X (by decide) dX0_givesWay_74 ?_
      refine v_aload_n X 0 dX0_givesWay_75 rfl rfl ?_
      refine v_getG X (by omega) 0 (by decide) hi_X0_givesWay_X0 hl_X0_givesWay_9 rfl (v := .ref (o + pA w 0)) rfl dX0_givesWay_76 ?_
      refine v_iload_n X 1 dX0_givesWay_79 rfl rfl ?_
      refine v_ialdA X (w := w) (by omega) 0 (by omega) c rfl (by omega) dX0_givesWay_80 ?_
      refine v_top (y := S w 0 c) (z_up_ne _ _ (by omega)) ?_
      refine v_imul X dX0_givesWay_81 ?_
      refine v_icmp_le X (tgt := 89) dX0_givesWay_82 (by decide) (fun c_82 => ?_) (fun c_82 => ?_)
      ·
        refine v_iconst (v := 0) X (by decide) dX0_givesWay_89 ?_
        exact v_zret X rfl dX0_givesWay_90 (by simp [s_givesWay, c_6, c_45, c_82])
      ·
        refine v_iconst (v := 1) X (by decide) dX0_givesWay_85 ?_
        refine v_goto (tgt := 90) X dX0_givesWay_86 (by decide) ?_
        exact v_zret X rfl dX0_givesWay_90 (by simp [s_givesWay, c_6, c_45, c_82])
    ·
      refine v_aload_n X 0 dX0_givesWay_48 rfl rfl ?_
      refine v_getG X (by omega) 4 (by decide) hi_X0_givesWay_X0 hl_X0_givesWay_24 rfl (v := .ref (o + pA w 4)) rfl dX0_givesWay_49 ?_
      refine v_iload_n X 1 dX0_givesWay_52 rfl rfl ?_
      refine v_iconst (v := 0) X (by decide) dX0_givesWay_53 ?_
      refine v_iastA X (w := w) (by omega) 4 (by omega) c rfl (by omega) dX0_givesWay_54 ?_
      refine v_goto (tgt := 68) X dX0_givesWay_55 (by decide) ?_
      refine v_aload_n X 0 dX0_givesWay_68 rfl rfl ?_
      refine v_getG X (by omega) 4 (by decide) hi_X0_givesWay_X0 hl_X0_givesWay_24 rfl (v := .ref (o + pA w 4)) rfl dX0_givesWay_69 ?_
      refine v_iload_n X 1 dX0_givesWay_72 rfl rfl ?_
      refine v_ialdA X (w := w) (by omega) 4 (by omega) c rfl (by omega) dX0_givesWay_73 ?_
      refine v_top (y := 0) (z_up_at _ _ _ _ _) ?_
      refine v_iconst (v := 4) X (by decide) dX0_givesWay_74 ?_
      refine v_aload_n X 0 dX0_givesWay_75 rfl rfl ?_
      refine v_getG X (by omega) 0 (by decide) hi_X0_givesWay_X0 hl_X0_givesWay_9 rfl (v := .ref (o + pA w 0)) rfl dX0_givesWay_76 ?_
      refine v_iload_n X 1 dX0_givesWay_79 rfl rfl ?_
      refine v_ialdA X (w := w) (by omega) 0 (by omega) c rfl (by omega) dX0_givesWay_80 ?_
      refine v_top (y := S w 0 c) (z_up_ne _ _ (by omega)) ?_
      refine v_imul X dX0_givesWay_81 ?_
      refine v_icmp_le X (tgt := 89) dX0_givesWay_82 (by decide) (fun c_82 => ?_) (fun c_82 => ?_)
      ·
        refine v_iconst (v := 0) X (by decide) dX0_givesWay_89 ?_
        exact v_zret X rfl dX0_givesWay_90 (by simp [s_givesWay, c_6, c_45, c_82])
      ·
        refine v_iconst (v := 1) X (by decide) dX0_givesWay_85 ?_
        refine v_goto (tgt := 90) X dX0_givesWay_86 (by decide) ?_
        exact v_zret X rfl dX0_givesWay_90 (by simp [s_givesWay, c_6, c_45, c_82])
  ·
    refine v_aload_n X 0 dX0_givesWay_9 rfl rfl ?_
    refine v_getG X (by omega) 7 (by decide) hi_X0_givesWay_X0 hl_X0_givesWay_33 rfl (v := .ref (o + pA w 7)) rfl dX0_givesWay_10 ?_
    refine v_iload_n X 1 dX0_givesWay_13 rfl rfl ?_
    refine v_dup2 X rfl rfl dX0_givesWay_14 ?_
    refine v_ialdA X (w := w) (by omega) 7 (by omega) c rfl (by omega) dX0_givesWay_15 ?_
    refine v_iconst (v := 1) X (by decide) dX0_givesWay_16 ?_
    refine v_isub X dX0_givesWay_17 ?_
    refine v_iastA X (w := w) (by omega) 7 (by omega) c rfl (by omega) dX0_givesWay_18 ?_
    refine v_aload_n X 0 dX0_givesWay_19 rfl rfl ?_
    refine v_getG X (by omega) 7 (by decide) hi_X0_givesWay_X0 hl_X0_givesWay_33 rfl (v := .ref (o + pA w 7)) rfl dX0_givesWay_20 ?_
    refine v_iload_n X 1 dX0_givesWay_23 rfl rfl ?_
    refine v_ialdA X (w := w) (by omega) 7 (by omega) c rfl (by omega) dX0_givesWay_24 ?_
    refine v_top (y := (S w 7 c) - 1) (z_up_at _ _ _ _ _) ?_
    refine v_if_ne X (tgt := 32) dX0_givesWay_25 (by decide) (fun c_25 => ?_) (fun c_25 => ?_)
    ·
      refine v_iconst (v := 0) X (by decide) dX0_givesWay_32 ?_
      exact v_zret X rfl dX0_givesWay_33 (by simp [s_givesWay, c_6, c_25])
    ·
      refine v_iconst (v := 1) X (by decide) dX0_givesWay_28 ?_
      refine v_goto (tgt := 33) X dX0_givesWay_29 (by decide) ?_
      exact v_zret X rfl dX0_givesWay_33 (by simp [s_givesWay, c_6, c_25])
theorem hy_X0_makeEarth_V : yX0_makeEarth.cls = RX0 ∧ yX0_makeEarth.cls ≠ "java/lang/invoke/MethodHandle" ∧ yX0_makeEarth.cls ≠ "java/lang/invoke/VarHandle" ∧ (parseMethodDescriptor yX0_makeEarth.desc).map (fun d => d.parameters.length) = some 2 := by decide +kernel
theorem hi_X0_fallIn_X0 : ∀ w ∈ wsX00, w ∈ wsX0_fallIn := by decide +kernel
theorem hl_X0_fallIn_36 : Cond.fieldLink RX0 36 RX0 (TX0 8).2.1 (TX0 8).2.2.1 ∈ wsX0_fallIn := by decide +kernel
theorem hl_X0_fallIn_42 : Cond.fieldLink RX0 42 RX0 (TX0 10).2.1 (TX0 10).2.2.1 ∈ wsX0_fallIn := by decide +kernel
theorem hl_X0_fallIn_15 : Cond.fieldLink RX0 15 RX0 (TX0 1).2.1 (TX0 1).2.2.1 ∈ wsX0_fallIn := by decide +kernel
theorem hw_X0_fallIn_97l : Cond.methodLink RX0 97 Lib.Math.max.name ∈ wsX0_fallIn := by decide +kernel
theorem hw_X0_fallIn_mmaxs : Cond.static Lib.Math.max.name ∈ wsX0_fallIn := by decide +kernel
theorem hw_X0_fallIn_mathi : Cond.initialized "java/lang/Math" ∈ wsX0_fallIn := by decide +kernel
theorem hw_X0_fallIn_mmaxc : Cond.code Lib.Math.max.name Lib.Math.max.code 2 (some .int) ∈ wsX0_fallIn := by decide +kernel
theorem hl_X0_fallIn_46 : Cond.fieldLink RX0 46 RX0 (TX0 11).2.1 (TX0 11).2.2.1 ∈ wsX0_fallIn := by decide +kernel
set_option maxRecDepth 100000 in
set_option maxHeartbeats 4000000 in
/-- X0_fallIn -/
theorem c_X0_fallIn (l : Launch) (G : va_G) (cI cZ cT : ClassId) (o : Nat) (S : zS) (w c : Nat) (hw : w < 2) (hc : c < 144) : zU l G cI cZ cT o yX0_fallIn wsX0_fallIn { frames := 2, cells := 0, slots := 0, locals := 43 } [.ref (o + pG w), .int (nI c)] S (fun u => u = s_fallIn S w c) := by
  refine z_ofV (cc := cX0_fallIn) (maxL := 2) (by decide) rfl (by simp [lg_sl, Value.category]) ?_
  intro p9 e9 s9 m9 a9 b9 h9 c9 X
  refine v_lo [0, 1] (lo' := [(0, .ref (o + pG w)), (1, .int (nI c))]) rfl ?_
  refine v_aload_n X 0 dX0_fallIn_0 rfl rfl ?_
  refine v_iload_n X 1 dX0_fallIn_1 rfl rfl ?_
  refine v_iconst (v := 2) X (by decide) dX0_fallIn_2 ?_
  refine v_callVUf X [.int (nI c), .int 2] (pG w) (pG_lt (by omega)) (c_X0_makeEarth l G cI cZ cT o S w c 2 (by omega) (by omega)) (zc_G cI cZ cT o _ (by omega)) (C := RX0) (T := TX0) (N := 12) rfl 2 rfl gX0_fallIn_X0_makeEarth rfl ⟨rfl, rfl⟩ hy_X0_makeEarth_V ⟨Nat.le_of_ble_eq_true rfl, Nat.le_of_ble_eq_true rfl⟩ rfl (Nat.le_of_ble_eq_true rfl) dX0_fallIn_3 ?_
  refine v_aload_n X 0 dX0_fallIn_6 rfl rfl ?_
  refine v_getG X (by omega) 8 (by decide) hi_X0_fallIn_X0 hl_X0_fallIn_36 rfl (v := .ref (o + pA w 8)) rfl dX0_fallIn_7 ?_
  refine v_iload_n X 1 dX0_fallIn_10 rfl rfl ?_
  refine v_iconst (v := 1) X (by decide) dX0_fallIn_11 ?_
  refine v_iastA X (w := w) (by omega) 8 (by omega) c rfl (by omega) dX0_fallIn_12 ?_
  refine v_aload_n X 0 dX0_fallIn_13 rfl rfl ?_
  refine v_dup X rfl dX0_fallIn_14 ?_
  refine v_getG X (by omega) 10 (by decide) hi_X0_fallIn_X0 hl_X0_fallIn_42 rfl (v := .int ((z_up (s_makeEarth S w c 2) w 8 c 1) w 10 0)) rfl dX0_fallIn_15 ?_
  refine v_top (y := (s_makeEarth S w c 2) w 10 0) (z_up_ne _ _ (by omega)) ?_
  refine v_iconst (v := 1) X (by decide) dX0_fallIn_18 ?_
  refine v_iadd X dX0_fallIn_19 ?_
  refine v_putG10 X (by omega) hi_X0_fallIn_X0 hl_X0_fallIn_42 dX0_fallIn_20 ?_
  refine v_aload_n X 0 dX0_fallIn_23 rfl rfl ?_
  refine v_getG X (by omega) 1 (by decide) hi_X0_fallIn_X0 hl_X0_fallIn_15 rfl (v := .ref (o + pA w 1)) rfl dX0_fallIn_24 ?_
  refine v_iload_n X 1 dX0_fallIn_27 rfl rfl ?_
  refine v_ialdA X (w := w) (by omega) 1 (by omega) c rfl (by omega) dX0_fallIn_28 ?_
  refine v_top (y := (s_makeEarth S w c 2) w 1 c) ((z_up_ne _ _ (by omega)).trans (z_up_ne _ _ (by omega))) ?_
  refine v_if_le X (tgt := 70) dX0_fallIn_29 (by decide) (fun c_29 => ?_) (fun c_29 => ?_)
  ·
    exact v_vret X dX0_fallIn_70 (by simp [s_fallIn, s_fallIn0, c_29])
  ·
    refine v_aload_n X 0 dX0_fallIn_32 rfl rfl ?_
    refine v_getG X (by omega) 1 (by decide) hi_X0_fallIn_X0 hl_X0_fallIn_15 rfl (v := .ref (o + pA w 1)) rfl dX0_fallIn_33 ?_
    refine v_iload_n X 1 dX0_fallIn_36 rfl rfl ?_
    refine v_iconst (v := 0) X (by decide) dX0_fallIn_37 ?_
    refine v_aload_n X 0 dX0_fallIn_38 rfl rfl ?_
    refine v_getG X (by omega) 1 (by decide) hi_X0_fallIn_X0 hl_X0_fallIn_15 rfl (v := .ref (o + pA w 1)) rfl dX0_fallIn_39 ?_
    refine v_iload_n X 1 dX0_fallIn_42 rfl rfl ?_
    refine v_ialdA X (w := w) (by omega) 1 (by omega) c rfl (by omega) dX0_fallIn_43 ?_
    refine v_top (y := (s_makeEarth S w c 2) w 1 c) ((z_up_ne _ _ (by omega)).trans (z_up_ne _ _ (by omega))) ?_
    refine v_bipush (v := 8) X (by decide) dX0_fallIn_44 ?_
    refine v_isub X dX0_fallIn_46 ?_
    refine v_mmax X hw_X0_fallIn_97l hw_X0_fallIn_mmaxs hw_X0_fallIn_mathi hw_X0_fallIn_mmaxc (Nat.le_of_ble_eq_true rfl) (Nat.le_of_ble_eq_true rfl) dX0_fallIn_47 ?_
    refine v_top (y := z_max0 (((s_makeEarth S w c 2) w 1 c) - 8)) (rfl) ?_
    refine v_iastA X (w := w) (by omega) 1 (by omega) c rfl (by omega) dX0_fallIn_50 ?_
    refine v_aload_n X 0 dX0_fallIn_51 rfl rfl ?_
    refine v_getG X (by omega) 1 (by decide) hi_X0_fallIn_X0 hl_X0_fallIn_15 rfl (v := .ref (o + pA w 1)) rfl dX0_fallIn_52 ?_
    refine v_iload_n X 1 dX0_fallIn_55 rfl rfl ?_
    refine v_ialdA X (w := w) (by omega) 1 (by omega) c rfl (by omega) dX0_fallIn_56 ?_
    refine v_top (y := z_max0 (((s_makeEarth S w c 2) w 1 c) - 8)) (z_up_at _ _ _ _ _) ?_
    refine v_if_ne X (tgt := 70) dX0_fallIn_57 (by decide) (fun c_57 => ?_) (fun c_57 => ?_)
    ·
      exact v_vret X dX0_fallIn_70 (by simp [s_fallIn, s_fallIn0, c_29, c_57])
    ·
      refine v_aload_n X 0 dX0_fallIn_60 rfl rfl ?_
      refine v_dup X rfl dX0_fallIn_61 ?_
      refine v_getG X (by omega) 11 (by decide) hi_X0_fallIn_X0 hl_X0_fallIn_46 rfl (v := .int ((z_up (z_up (z_up (s_makeEarth S w c 2) w 8 c 1) w 10 0 (((s_makeEarth S w c 2) w 10 0) + 1)) w 1 c (z_max0 (((s_makeEarth S w c 2) w 1 c) - 8))) w 11 0)) rfl dX0_fallIn_62 ?_
      refine v_top (y := (s_makeEarth S w c 2) w 11 0) (((z_up_ne _ _ (by omega)).trans (z_up_ne _ _ (by omega))).trans (z_up_ne _ _ (by omega))) ?_
      refine v_iconst (v := 1) X (by decide) dX0_fallIn_65 ?_
      refine v_iadd X dX0_fallIn_66 ?_
      refine v_putG11 X (by omega) hi_X0_fallIn_X0 hl_X0_fallIn_46 dX0_fallIn_67 ?_
      exact v_vret X dX0_fallIn_70 (by simp [s_fallIn, s_fallIn0, c_29, c_57])
theorem hi_X0_settle_X0 : ∀ w ∈ wsX00, w ∈ wsX0_settle := by decide +kernel
theorem hl_X0_settle_36 : Cond.fieldLink RX0 36 RX0 (TX0 8).2.1 (TX0 8).2.2.1 ∈ wsX0_settle := by decide +kernel
theorem hy_X0_givesWay_V : yX0_givesWay.cls = RX0 ∧ yX0_givesWay.cls ≠ "java/lang/invoke/MethodHandle" ∧ yX0_givesWay.cls ≠ "java/lang/invoke/VarHandle" ∧ (parseMethodDescriptor yX0_givesWay.desc).map (fun d => d.parameters.length) = some 1 := by decide +kernel
theorem hy_X0_fallIn_V : yX0_fallIn.cls = RX0 ∧ yX0_fallIn.cls ≠ "java/lang/invoke/MethodHandle" ∧ yX0_fallIn.cls ≠ "java/lang/invoke/VarHandle" ∧ (parseMethodDescriptor yX0_fallIn.desc).map (fun d => d.parameters.length) = some 1 := by decide +kernel
set_option maxRecDepth 100000 in
set_option maxHeartbeats 4000000 in
/-- X0_settle -/
theorem c_X0_settle (l : Launch) (G : va_G) (cI cZ cT : ClassId) (o : Nat) (S : zS) (w : Nat) (hw : w < 2) : zU l G cI cZ cT o yX0_settle wsX0_settle { frames := 3, cells := 0, slots := 0, locals := 64 } [.ref (o + pG w)] S (fun u => u = s_settle S w 144) := by
  refine z_ofV (cc := cX0_settle) (maxL := 2) (by decide) rfl (by simp [lg_sl, Value.category]) ?_
  intro p9 e9 s9 m9 a9 b9 h9 c9 X
  refine v_lo [0] (lo' := [(0, .ref (o + pG w))]) rfl ?_
  refine v_iconst (v := 0) X (by decide) dX0_settle_0 ?_
  refine v_istore_n (lo' := [(1, .int 0), (0, .ref (o + pG w))]) X dX0_settle_1 rfl (by decide) rfl ?_
  have L_2 : ∀ (d i : Nat), i + d = 144 → z_V p9 l e9 (headSpec wsX0_settle { frames := 3, cells := 0, slots := 0, locals := 64 }).room s9 m9 a9 b9 h9 c9 (MQ b9 (va_Qv (fun u => u = s_settle S w 144) (z_B G cI cZ cT o) (z_A o s9.heap.size)) a9 s9 0 0 (z_A o s9.heap.size)) G cI cZ cT o 2 (s_settle S w i) 2 [(0, .ref (o + pG w)), (1, .int (nI i))] [] := by
    intro d
    induction d with
    | zero =>
      intro i hi_2
      have he_2 : i = 144 := by omega
      rw [he_2]
      refine v_iload_n X 1 dX0_settle_2 rfl rfl ?_
      refine v_sipush (v := 144) X (by decide) dX0_settle_3 ?_
      refine v_ncmp_ge X 144 144 rfl rfl (by omega) (by omega) (tgt := 43) dX0_settle_6 (by decide) (fun c_6 => ?_) (fun c_6 => ?_)
      ·
        exact v_vret X dX0_settle_43 (by rfl)
      ·
        exact absurd c_6 (by omega)
    | succ d ih_2 =>
      intro i hi_2
      refine v_iload_n X 1 dX0_settle_2 rfl rfl ?_
      refine v_sipush (v := 144) X (by decide) dX0_settle_3 ?_
      refine v_ncmp_ge X i 144 rfl rfl (by omega) (by omega) (tgt := 43) dX0_settle_6 (by decide) (fun c_6 => ?_) (fun c_6 => ?_)
      ·
        exact absurd c_6 (by omega)
      ·
        refine v_aload_n X 0 dX0_settle_9 rfl rfl ?_
        refine v_getG X (by omega) 8 (by decide) hi_X0_settle_X0 hl_X0_settle_36 rfl (v := .ref (o + pA w 8)) rfl dX0_settle_10 ?_
        refine v_iload_n X 1 dX0_settle_13 rfl rfl ?_
        refine v_iconst (v := 0) X (by decide) dX0_settle_14 ?_
        refine v_iastA X (w := w) (by omega) 8 (by omega) i rfl (by omega) dX0_settle_15 ?_
        refine v_aload_n X 0 dX0_settle_16 rfl rfl ?_
        refine v_iload_n X 1 dX0_settle_17 rfl rfl ?_
        refine v_callVIf X [.int (nI i)] (pG w) (pG_lt (by omega)) (c_X0_isTunnel l G cI cZ cT o (z_up (s_settle S w i) w 8 i 0) w i (by omega) (by omega)) (zc_G cI cZ cT o _ (by omega)) (C := RX0) (T := TX0) (N := 12) rfl 1 rfl gX0_settle_X0_isTunnel rfl ⟨rfl, rfl⟩ hy_X0_isTunnel_V ⟨Nat.le_of_ble_eq_true rfl, Nat.le_of_ble_eq_true rfl⟩ rfl (Nat.le_of_ble_eq_true rfl) dX0_settle_18 ?_
        refine v_if_eq X (tgt := 37) dX0_settle_21 (by decide) (fun c_21 => ?_) (fun c_21 => ?_)
        ·
          refine v_iinc (v := nI (i + 1)) (lo' := [(1, .int (nI (i + 1))), (0, .ref (o + pG w))]) X 1 dX0_settle_37 rfl (nI_1 i) (by decide) rfl ?_
          refine v_goto (tgt := 2) X dX0_settle_40 (by decide) ?_
          refine v_lo [1, 0] (lo' := [(0, .ref (o + pG w)), (1, .int (nI (i + 1)))]) rfl ?_
          refine v_eq (S' := s_settle S w (i + 1)) (lo' := [(0, .ref (o + pG w)), (1, .int (nI (i + 1)))]) (by simp [s_settle, s_settle1, c_6, c_21]) (by rfl) ?_
          exact ih_2 (i + 1) (by omega)
        ·
          refine v_aload_n X 0 dX0_settle_24 rfl rfl ?_
          refine v_iload_n X 1 dX0_settle_25 rfl rfl ?_
          refine v_callVIf X [.int (nI i)] (pG w) (pG_lt (by omega)) (c_X0_givesWay l G cI cZ cT o (z_up (s_settle S w i) w 8 i 0) w i (by omega) (by omega)) (zc_G cI cZ cT o _ (by omega)) (C := RX0) (T := TX0) (N := 12) rfl 1 rfl gX0_settle_X0_givesWay rfl ⟨rfl, rfl⟩ hy_X0_givesWay_V ⟨Nat.le_of_ble_eq_true rfl, Nat.le_of_ble_eq_true rfl⟩ rfl (Nat.le_of_ble_eq_true rfl) dX0_settle_26 ?_
          refine v_if_eq X (tgt := 37) dX0_settle_29 (by decide) (fun c_29 => ?_) (fun c_29 => ?_)
          ·
            refine v_iinc (v := nI (i + 1)) (lo' := [(1, .int (nI (i + 1))), (0, .ref (o + pG w))]) X 1 dX0_settle_37 rfl (nI_1 i) (by decide) rfl ?_
            refine v_goto (tgt := 2) X dX0_settle_40 (by decide) ?_
            refine v_lo [1, 0] (lo' := [(0, .ref (o + pG w)), (1, .int (nI (i + 1)))]) rfl ?_
            refine v_eq (S' := s_settle S w (i + 1)) (lo' := [(0, .ref (o + pG w)), (1, .int (nI (i + 1)))]) (by simp [s_settle, s_settle1, c_6, c_21, c_29]) (by rfl) ?_
            exact ih_2 (i + 1) (by omega)
          ·
            refine v_aload_n X 0 dX0_settle_32 rfl rfl ?_
            refine v_iload_n X 1 dX0_settle_33 rfl rfl ?_
            refine v_callVUf X [.int (nI i)] (pG w) (pG_lt (by omega)) (c_X0_fallIn l G cI cZ cT o ((s_givesWay (z_up (s_settle S w i) w 8 i 0) w i).2) w i (by omega) (by omega)) (zc_G cI cZ cT o _ (by omega)) (C := RX0) (T := TX0) (N := 12) rfl 1 rfl gX0_settle_X0_fallIn rfl ⟨rfl, rfl⟩ hy_X0_fallIn_V ⟨Nat.le_of_ble_eq_true rfl, Nat.le_of_ble_eq_true rfl⟩ rfl (Nat.le_of_ble_eq_true rfl) dX0_settle_34 ?_
            refine v_iinc (v := nI (i + 1)) (lo' := [(1, .int (nI (i + 1))), (0, .ref (o + pG w))]) X 1 dX0_settle_37 rfl (nI_1 i) (by decide) rfl ?_
            refine v_goto (tgt := 2) X dX0_settle_40 (by decide) ?_
            refine v_lo [1, 0] (lo' := [(0, .ref (o + pG w)), (1, .int (nI (i + 1)))]) rfl ?_
            refine v_eq (S' := s_settle S w (i + 1)) (lo' := [(0, .ref (o + pG w)), (1, .int (nI (i + 1)))]) (by simp [s_settle, s_settle1, c_6, c_21, c_29]) (by rfl) ?_
            exact ih_2 (i + 1) (by omega)
  refine v_lo [1, 0] (lo' := [(0, .ref (o + pG w)), (1, .int 0)]) rfl ?_
  refine v_eq (S' := s_settle S w 0) (lo' := [(0, .ref (o + pG w)), (1, .int (nI 0))]) (by rfl) (by rfl) ?_
  exact L_2 (144) 0 (by omega)
theorem hi_X0_valueOf_X0 : ∀ w ∈ wsX00, w ∈ wsX0_valueOf := by decide +kernel
theorem hl_X0_valueOf_9 : Cond.fieldLink RX0 9 RX0 (TX0 0).2.1 (TX0 0).2.2.1 ∈ wsX0_valueOf := by decide +kernel
theorem hl_X0_valueOf_15 : Cond.fieldLink RX0 15 RX0 (TX0 1).2.1 (TX0 1).2.2.1 ∈ wsX0_valueOf := by decide +kernel
theorem hl_X0_valueOf_18 : Cond.fieldLink RX0 18 RX0 (TX0 2).2.1 (TX0 2).2.2.1 ∈ wsX0_valueOf := by decide +kernel
theorem hl_X0_valueOf_21 : Cond.fieldLink RX0 21 RX0 (TX0 3).2.1 (TX0 3).2.2.1 ∈ wsX0_valueOf := by decide +kernel
theorem hl_X0_valueOf_24 : Cond.fieldLink RX0 24 RX0 (TX0 4).2.1 (TX0 4).2.2.1 ∈ wsX0_valueOf := by decide +kernel
theorem hl_X0_valueOf_27 : Cond.fieldLink RX0 27 RX0 (TX0 5).2.1 (TX0 5).2.2.1 ∈ wsX0_valueOf := by decide +kernel
theorem hl_X0_valueOf_30 : Cond.fieldLink RX0 30 RX0 (TX0 6).2.1 (TX0 6).2.2.1 ∈ wsX0_valueOf := by decide +kernel
theorem hl_X0_valueOf_33 : Cond.fieldLink RX0 33 RX0 (TX0 7).2.1 (TX0 7).2.2.1 ∈ wsX0_valueOf := by decide +kernel
set_option maxRecDepth 100000 in
set_option maxHeartbeats 4000000 in
/-- X0_valueOf -/
theorem c_X0_valueOf (l : Launch) (G : va_G) (cI cZ cT : ClassId) (o : Nat) (S : zS) (w c k : Nat) (hw : w < 2) (hc : c < 144) (hk : k < 8) : zI l G cI cZ cT o yX0_valueOf wsX0_valueOf { frames := 0, cells := 0, slots := 0, locals := 0 } [.ref (o + pG w), .int (nI c), .int (nI k)] S (fun r u => r = s_valueOf S w c k ∧ u = S) := by
  refine z_ofI (cc := cX0_valueOf) (maxL := 3) (by decide) rfl (by simp [lg_sl, Value.category]) ?_
  intro p9 e9 s9 m9 a9 b9 h9 c9 X
  refine v_lo [0, 1, 2] (lo' := [(0, .ref (o + pG w)), (1, .int (nI c)), (2, .int (nI k))]) rfl ?_
  refine v_iload_n X 2 dX0_valueOf_0 rfl rfl ?_
  rcases (show k = 0 ∨ k = 1 ∨ k = 2 ∨ k = 3 ∨ k = 4 ∨ k = 5 ∨ k = 6 ∨ k = 7 by omega) with rfl | rfl | rfl | rfl | rfl | rfl | rfl | rfl
  ·
    refine v_tsw X (off := 43) (tgt := 44) dX0_valueOf_1 (by decide) (by decide) (by decide) (by decide) ?_
    refine v_aload_n X 0 dX0_valueOf_44 rfl rfl ?_
    refine v_getG X (by omega) 0 (by decide) hi_X0_valueOf_X0 hl_X0_valueOf_9 rfl (v := .ref (o + pA w 0)) rfl dX0_valueOf_45 ?_
    refine v_iload_n X 1 dX0_valueOf_48 rfl rfl ?_
    refine v_ialdA X (w := w) (by omega) 0 (by omega) c rfl (by omega) dX0_valueOf_49 ?_
    exact v_iret X dX0_valueOf_50 (by exact ⟨rfl, rfl⟩)
  ·
    refine v_tsw X (off := 50) (tgt := 51) dX0_valueOf_1 (by decide) (by decide) (by decide) (by decide) ?_
    refine v_aload_n X 0 dX0_valueOf_51 rfl rfl ?_
    refine v_getG X (by omega) 1 (by decide) hi_X0_valueOf_X0 hl_X0_valueOf_15 rfl (v := .ref (o + pA w 1)) rfl dX0_valueOf_52 ?_
    refine v_iload_n X 1 dX0_valueOf_55 rfl rfl ?_
    refine v_ialdA X (w := w) (by omega) 1 (by omega) c rfl (by omega) dX0_valueOf_56 ?_
    exact v_iret X dX0_valueOf_57 (by exact ⟨rfl, rfl⟩)
  ·
    refine v_tsw X (off := 57) (tgt := 58) dX0_valueOf_1 (by decide) (by decide) (by decide) (by decide) ?_
    refine v_aload_n X 0 dX0_valueOf_58 rfl rfl ?_
    refine v_getG X (by omega) 2 (by decide) hi_X0_valueOf_X0 hl_X0_valueOf_18 rfl (v := .ref (o + pA w 2)) rfl dX0_valueOf_59 ?_
    refine v_iload_n X 1 dX0_valueOf_62 rfl rfl ?_
    refine v_ialdA X (w := w) (by omega) 2 (by omega) c rfl (by omega) dX0_valueOf_63 ?_
    exact v_iret X dX0_valueOf_64 (by exact ⟨rfl, rfl⟩)
  ·
    refine v_tsw X (off := 64) (tgt := 65) dX0_valueOf_1 (by decide) (by decide) (by decide) (by decide) ?_
    refine v_aload_n X 0 dX0_valueOf_65 rfl rfl ?_
    refine v_getG X (by omega) 3 (by decide) hi_X0_valueOf_X0 hl_X0_valueOf_21 rfl (v := .ref (o + pA w 3)) rfl dX0_valueOf_66 ?_
    refine v_iload_n X 1 dX0_valueOf_69 rfl rfl ?_
    refine v_ialdA X (w := w) (by omega) 3 (by omega) c rfl (by omega) dX0_valueOf_70 ?_
    exact v_iret X dX0_valueOf_71 (by exact ⟨rfl, rfl⟩)
  ·
    refine v_tsw X (off := 71) (tgt := 72) dX0_valueOf_1 (by decide) (by decide) (by decide) (by decide) ?_
    refine v_aload_n X 0 dX0_valueOf_72 rfl rfl ?_
    refine v_getG X (by omega) 4 (by decide) hi_X0_valueOf_X0 hl_X0_valueOf_24 rfl (v := .ref (o + pA w 4)) rfl dX0_valueOf_73 ?_
    refine v_iload_n X 1 dX0_valueOf_76 rfl rfl ?_
    refine v_ialdA X (w := w) (by omega) 4 (by omega) c rfl (by omega) dX0_valueOf_77 ?_
    exact v_iret X dX0_valueOf_78 (by exact ⟨rfl, rfl⟩)
  ·
    refine v_tsw X (off := 78) (tgt := 79) dX0_valueOf_1 (by decide) (by decide) (by decide) (by decide) ?_
    refine v_aload_n X 0 dX0_valueOf_79 rfl rfl ?_
    refine v_getG X (by omega) 5 (by decide) hi_X0_valueOf_X0 hl_X0_valueOf_27 rfl (v := .ref (o + pA w 5)) rfl dX0_valueOf_80 ?_
    refine v_iload_n X 1 dX0_valueOf_83 rfl rfl ?_
    refine v_ialdA X (w := w) (by omega) 5 (by omega) c rfl (by omega) dX0_valueOf_84 ?_
    exact v_iret X dX0_valueOf_85 (by exact ⟨rfl, rfl⟩)
  ·
    refine v_tsw X (off := 85) (tgt := 86) dX0_valueOf_1 (by decide) (by decide) (by decide) (by decide) ?_
    refine v_aload_n X 0 dX0_valueOf_86 rfl rfl ?_
    refine v_getG X (by omega) 6 (by decide) hi_X0_valueOf_X0 hl_X0_valueOf_30 rfl (v := .ref (o + pA w 6)) rfl dX0_valueOf_87 ?_
    refine v_iload_n X 1 dX0_valueOf_90 rfl rfl ?_
    refine v_ialdA X (w := w) (by omega) 6 (by omega) c rfl (by omega) dX0_valueOf_91 ?_
    exact v_iret X dX0_valueOf_92 (by exact ⟨rfl, rfl⟩)
  ·
    refine v_tswO X (tgt := 93) dX0_valueOf_1 (by decide) (by decide) ?_
    refine v_aload_n X 0 dX0_valueOf_93 rfl rfl ?_
    refine v_getG X (by omega) 7 (by decide) hi_X0_valueOf_X0 hl_X0_valueOf_33 rfl (v := .ref (o + pA w 7)) rfl dX0_valueOf_94 ?_
    refine v_iload_n X 1 dX0_valueOf_97 rfl rfl ?_
    refine v_ialdA X (w := w) (by omega) 7 (by omega) c rfl (by omega) dX0_valueOf_98 ?_
    exact v_iret X dX0_valueOf_99 (by exact ⟨rfl, rfl⟩)
end ZM1
