section ZQ0
theorem S0_k {w : Nat} (hw : w < 2) (k i : Nat) (h : k ≠ 0 ∧ k ≠ 1 ∧ k ≠ 17 ∧ k ≠ 23 ∧ k ≠ 24 ∧ k ≠ 25) : z_S0 w k i = 0 := by
  rw [z_S0_e hw, if_neg h.1, if_neg h.2.1, if_neg h.2.2.1, if_neg h.2.2.2.1, if_neg h.2.2.2.2.1, if_neg h.2.2.2.2.2]
theorem S0_1 (i : Nat) : z_S0 0 1 i = -1 := by
  rw [z_S0_e (by decide), if_neg (by decide), if_pos rfl]
theorem S0_0 (i : Nat) : z_S0 0 0 i = 3 := by
  rw [z_S0_e (by decide), if_pos rfl]
theorem tun_of0 {S : zS} {w c : Nat} (h : S w 2 c = 0) : s_isTunnel S w c = 0 := if_neg (by rw [h]; decide)
theorem sum_0 {f : Nat → Int32} (hf : ∀ i, f i = 0) : ∀ n, z_sum f n = 0
  | 0 => rfl
  | n + 1 => by
    show z_sum f n + f n = 0
    rw [sum_0 hf n, hf]; rfl
theorem qu_settle {S : zS} {w : Nat} (h2 : ∀ c, S w 2 c = 0) (h8 : ∀ c, S w 8 c = 0) : ∀ i k j, s_settle S w i w k j = S w k j
  | 0, _, _ => rfl
  | i + 1, k, j => by
    have ih := qu_settle h2 h8 i
    show s_settle1 (s_settle S w i) w i w k j = _
    unfold s_settle1
    rw [if_pos (tun_of0 (by rw [z_up_ne _ _ (by omega), ih]; exact h2 i))]
    by_cases q : k = 8 ∧ j = i
    · obtain ⟨rfl, rfl⟩ := q
      rw [z_up_at]; exact (h8 _).symm
    · rw [z_up_ne _ _ (by omega)]; exact ih k j
/-- no tunnel, no smoke, nothing fallen in -/
def quiet (S : zS) (w : Nat) : Prop := (∀ c, S w 2 c = 0) ∧ (∀ c, S w 5 c = 0) ∧ ∀ c, S w 8 c = 0
theorem qu_hour {S : zS} {w : Nat} (h : quiet S w) : ∀ k j, k ≠ 13 → s_hour S w 0 w k j = S w k j := by
  intro k j hk
  show z_up (s_h6 S w 0) w 13 0 _ w k j = _
  rw [z_up_ne _ _ (by omega)]
  show s_settle (s_smoke S w) w 144 w k j = _
  rw [show s_smoke S w = S from if_pos (sum_0 h.2.1 144)]
  exact qu_settle h.1 h.2.2 144 k j
theorem qu_hours {S : zS} {w : Nat} (h : quiet S w) : ∀ i k j, k ≠ 13 → s_hours S w 0 i w k j = S w k j
  | 0, _, _, _ => rfl
  | i + 1, k, j, hk => by
    have ih := qu_hours h i
    have q : quiet (s_hours S w 0 i) w := ⟨fun c => (ih 2 c (by decide)).trans (h.1 c), fun c => (ih 5 c (by decide)).trans (h.2.1 c), fun c => (ih 8 c (by decide)).trans (h.2.2 c)⟩
    exact (qu_hour q k j hk).trans (ih k j hk)
theorem quiet_0 : quiet z_S0 0 := ⟨fun c => S0_k (by decide) 2 c (by decide), fun c => S0_k (by decide) 5 c (by decide), fun c => S0_k (by decide) 8 c (by decide)⟩
theorem scopy_8 (i : Nat) : s_scopy z_S0 0 1 8 i = 0 := by
  show s_scp z_S0 0 1 8 i = 0
  unfold s_scp s_gcopy
  rw [z_up_ne _ _ (by omega), z_up_ne _ _ (by omega), z_up_ne _ _ (by omega), z_up_ne _ _ (by omega)]
  refine Eq.trans ?_ (S0_k (w := 1) (by decide) 8 i (by decide))
  simp [s_gcp, z_cpA, z_put]
theorem quiet_1 : quiet (s_scopy z_S0 0) 1 :=
  ⟨fun c => ((e_scopy z_S0 0 (ok_S0 (by decide))).g 2 (by decide) c).symm.trans (S0_k (by decide) 2 c (by decide)), fun c => ((e_scopy z_S0 0 (ok_S0 (by decide))).g 5 (by decide) c).symm.trans (S0_k (by decide) 5 c (by decide)), scopy_8⟩
theorem V_pass (h : Nat) : s_hours z_S0 0 0 h 0 11 0 - z_S0 0 11 0 = nI 0 := by
  rw [qu_hours quiet_0 h 11 0 (by decide), S0_k (by decide) 11 0 (by decide)]; rfl
theorem V_ahead (h : Nat) (k : Nat) (h1 : 10 ≤ k) (h2 : k < 12) : s_ahead z_S0 0 h 1 k 0 = 0 := by
  show s_hours (s_scopy z_S0 0) 1 0 h 1 k 0 = 0
  rw [qu_hours quiet_1 h k 0 (by omega)]
  exact ((e_scopy z_S0 0 (ok_S0 (by decide))).s k h1 (by omega)).symm.trans (S0_k (by decide) k 0 (by omega))
theorem V_here (h : Nat) (k i : Nat) : s_ahead z_S0 0 h 0 k i = z_S0 0 k i := congrFun (congrFun (q_ahead z_S0 0 h).1 k) i
theorem V_foresee (h k : Nat) (hk : k < 4) : s_foresee z_S0 0 h k = nI 0 := by
  unfold s_foresee
  rcases (show k = 0 ∨ k = 1 ∨ k = 2 ∨ k = 3 by omega) with rfl | rfl | rfl | rfl
  · rw [if_pos rfl, V_ahead h 11 (by decide) (by decide), V_here, S0_k (by decide) 11 0 (by decide)]; rfl
  · rfl
  · rfl
  · rw [if_neg (by decide), if_neg (by decide), if_neg (by decide), V_ahead h 10 (by decide) (by decide), V_here, S0_k (by decide) 10 0 (by decide)]; rfl
theorem V_falls (c : Nat) : ∀ i, 0 < i → s_hours (s_scopy z_S0 0) 1 0 i 1 8 c = 0 := fun i _ => (qu_hours quiet_1 i 8 c (by decide)).trans (scopy_8 c)
theorem V_up : s_up z_S0 0 = 0 := sum_0 (fun c => by
  show (if 0 < z_S0 0 1 c then (1 : Int32) else 0) = 0
  rw [S0_1]; rfl) 144
theorem V_down : s_down z_S0 0 = 0 := sum_0 (fun c => by
  show (if z_S0 0 1 c = 0 then (1 : Int32) else 0) = 0
  rw [S0_1]; rfl) 144
theorem V_count (k : Nat) (hk : k < 12) : s_count z_S0 0 k = 0 := by
  unfold s_count
  rcases (show k = 0 ∨ k = 1 ∨ k = 2 ∨ k = 3 ∨ k = 4 ∨ k = 5 ∨ k = 6 ∨ k = 7 ∨ k = 8 ∨ k = 9 ∨ k = 10 ∨ k = 11 by omega) with rfl | rfl | rfl | rfl | rfl | rfl | rfl | rfl | rfl | rfl | rfl | rfl
  · exact S0_k (w := 0) (by decide) 13 0 (by decide)
  · rfl
  · rfl
  · rfl
  · exact sum_0 (fun c => S0_k (by decide) 2 c (by decide)) 144
  · exact V_up
  · exact V_down
  · exact sum_0 (fun c => S0_k (by decide) 5 c (by decide)) 144
  · exact S0_k (w := 0) (by decide) 10 0 (by decide)
  · rfl
  · rfl
  · rfl
theorem V_cell (c k : Nat) (hk : k < 8) : s_valueOf z_S0 0 c k = fz (8 * c + k) := by
  show z_S0 0 k c = _
  by_cases h0 : k = 0
  · subst h0; rw [S0_0]; exact (fz_0 c).symm
  by_cases h1 : k = 1
  · subst h1; rw [S0_1]; exact (fz_1 c).symm
  rw [S0_k (by decide) k c (by omega)]
  exact (fz_n c k (by omega) hk).symm
theorem V_dg1 : ∀ k, k ≤ 12 → s_dg1 z_S0 0 k = md1 k
  | 0, _ => rfl
  | k + 1, h => by
    show s_dg1 z_S0 0 k * 31 + (s_count z_S0 0 k).toInt64 = md1 k * 31 + (0 : Int32).toInt64
    rw [V_dg1 k (by omega), V_count k (by omega)]
theorem V_dgc (c : Nat) : ∀ k, k ≤ 8 → s_dgc z_S0 c (md2 (8 * c)) k = md2 (8 * c + k)
  | 0, _ => rfl
  | k + 1, h => by
    show s_dgc z_S0 c (md2 (8 * c)) k * 31 + (s_valueOf z_S0 0 c k).toInt64 = md2 (8 * c + k) * 31 + (fz (8 * c + k)).toInt64
    rw [V_dgc c k (by omega), V_cell c k (by omega)]
theorem V_dg2 : ∀ c, s_dg2 z_S0 (md1 12) c = md2 (8 * c)
  | 0 => rfl
  | c + 1 => by
    show s_dgc z_S0 c (s_dg2 z_S0 (md1 12) c) 8 = md2 (8 * c + 8)
    rw [V_dg2 c]; exact V_dgc c 8 (Nat.le_refl 8)
theorem V_digest : s_digest z_S0 0 0 = md2 1152 := by
  show s_dg2 z_S0 (s_dg1 z_S0 0 12) 144 = md2 1152
  rw [V_dg1 12 (Nat.le_refl 12)]; exact V_dg2 144
theorem V_err : s_err z_S0 0 = nI 0 := by
  unfold s_err
  rw [if_neg (Nat.not_lt_zero _), if_pos (by decide)]
theorem V_open (c : Nat) : s_openTunnel z_S0 0 c 0 0 c = nI 3 := by
  unfold s_openTunnel s_empty
  rw [z_up_ne _ _ (by omega), z_up_ne _ _ (by omega), z_up_ne _ _ (by omega), z_up_ne _ _ (by omega), z_up_ne _ _ (by omega), z_up_ne _ _ (by omega), S0_0]; rfl
theorem V_rock (c : Nat) : s_isRock z_S0 0 c = 0 := if_neg (by rw [S0_0]; decide)
theorem V_tun (c : Nat) : s_isTunnel z_S0 0 c = 0 := tun_of0 (S0_k (by decide) 2 c (by decide))
end ZQ0
