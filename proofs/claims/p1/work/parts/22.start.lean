section ZP3
/-- what a new object holds -/
def z_S0 : zS := fun w k _ => if w < 2 then (if k = 0 then 3 else if k = 1 then -1 else if k = 17 then 1 else if k = 23 then -1 else if k = 24 then -1 else if k = 25 then -1 else 0) else 0
theorem z_S0_e {w : Nat} (hw : w < 2) (k i : Nat) : z_S0 w k i = if k = 0 then 3 else if k = 1 then -1 else if k = 17 then 1 else if k = 23 then -1 else if k = 24 then -1 else if k = 25 then -1 else 0 := by unfold z_S0; rw [if_pos hw]
theorem z_S0_2 (k i : Nat) : z_S0 2 k i = 0 := rfl
theorem sg_init (cI cT : ClassId) (o : Nat) {w i : Nat} (hw : w < 2) (hi : i < 44) : y_sg cI cT (o + pG w) i = z_sg cI cT o w (z_S0 w) (i + 1) := by
  have e := z_S0_e hw
  unfold y_sg z_sg
  by_cases h0 : i = 0
  · subst h0
    rw [if_pos rfl, if_neg (by omega), if_pos rfl, show o + pG w + 1 = o + pA w 0 by unfold pG pA; omega, show o + pG w + 2 = o + pA w 1 by unfold pG pA; omega, show o + pG w + 3 = o + pA w 2 by unfold pG pA; omega, show o + pG w + 4 = o + pA w 3 by unfold pG pA; omega, show o + pG w + 5 = o + pA w 4 by unfold pG pA; omega, show o + pG w + 6 = o + pA w 5 by unfold pG pA; omega, show o + pG w + 7 = o + pA w 6 by unfold pG pA; omega, show o + pG w + 8 = o + pA w 7 by unfold pG pA; omega, show o + pG w + 9 = o + pA w 8 by unfold pG pA; omega, show o + pG w + 10 = o + pA w 9 by unfold pG pA; omega, e 10 0, e 11 0]
    rfl
  rw [if_neg h0, if_neg (show ¬ i + 1 = 0 by omega), if_neg (show ¬ i + 1 = 1 by omega)]
  by_cases h1 : i < 11
  · rw [if_pos h1, if_pos (show i + 1 < 12 by omega)]
    have q : (if i = 1 then (fun _ => 3) else if i = 2 then (fun _ => -1) else (fun _ => 0) : Nat → Int32) = z_S0 w (i + 1 - 2) := by
      funext j
      rw [e]
      by_cases a1 : i = 1
      · rw [if_pos a1, if_pos (by omega)]
      rw [if_neg a1, if_neg (show ¬ i + 1 - 2 = 0 by omega)]
      by_cases a2 : i = 2
      · rw [if_pos a2, if_pos (by omega)]
      rw [if_neg a2, if_neg (by omega), if_neg (by omega), if_neg (by omega), if_neg (by omega), if_neg (by omega)]
    rw [q]
  rw [if_neg h1, if_neg (show ¬ i + 1 < 12 by omega)]
  by_cases h2 : i = 11
  · rw [if_pos h2, if_pos (show i + 1 = 12 by omega)]
    have q : (fun t => some (o + pG w + (12 + 4 * t)) : Nat → Option Nat) = fun t => some (o + pT w t) := by
      funext t
      rw [show o + pG w + (12 + 4 * t) = o + pT w t by unfold pG pT; omega]
    rw [q]
  rw [if_neg h2, if_neg (show ¬ i + 1 = 12 by omega)]
  by_cases h3 : (i - 12) % 4 = 0
  · rw [if_pos h3, if_pos (show (i + 1 - 13) % 4 = 0 by omega), e 14, e 15, e 16, e 17, e 18, e 19, e 20, e 21, e 22, e 23, e 24, e 25, e 26, show o + pG w + (i + 1) = o + pO w ((i + 1 - 13) / 4) 0 by unfold pG pO; omega, show o + pG w + (i + 2) = o + pO w ((i + 1 - 13) / 4) 1 by unfold pG pO; omega, show o + pG w + (i + 3) = o + pO w ((i + 1 - 13) / 4) 2 by unfold pG pO; omega]
    rfl
  · rw [if_neg h3, if_neg (show ¬ (i + 1 - 13) % 4 = 0 by omega)]
    have q : (fun _ => 0 : Nat → Int32) = z_S0 w (27 + 3 * ((i + 1 - 13) / 4) + ((i + 1 - 13) % 4 - 1)) := by
      funext j
      rw [e, if_neg (by omega), if_neg (by omega), if_neg (by omega), if_neg (by omega), if_neg (by omega), if_neg (by omega)]
    rw [q]
theorem x_init (cI cZ cT : ClassId) (o : Nat) {i : Nat} (hi : i < 96) : y_x cI cZ cT (o + 1) i = z_cell cI cZ cT o z_S0 (i + 1) := by
  unfold y_x z_cell
  rw [if_neg (show ¬ i + 1 = 0 by omega)]
  by_cases h0 : i = 0
  · rw [if_pos h0, if_pos (by omega)]; rfl
  rw [if_neg h0, if_neg (show ¬ i + 1 = 1 by omega)]
  by_cases h1 : i = 1
  · rw [if_pos h1, if_pos (by omega)]; rfl
  rw [if_neg h1, if_neg (show ¬ i + 1 = 2 by omega)]
  by_cases h2 : i = 2
  · rw [if_pos h2, if_pos (by omega)]; rfl
  rw [if_neg h2, if_neg (show ¬ i + 1 = 3 by omega)]
  by_cases h3 : i = 3
  · subst h3; rw [if_pos rfl, if_pos (by omega)]; rfl
  rw [if_neg h3]
  by_cases h4 : i < 48
  · rw [if_pos h4, if_pos (show i + 1 < 49 by omega), show o + 1 + 4 = o + pG 0 by unfold pG; omega, sg_init cI cT o (by decide) (show i - 4 < 44 by omega), show i - 4 + 1 = i + 1 - 4 by omega]
  rw [if_neg h4, if_neg (show ¬ i + 1 < 49 by omega)]
  by_cases h5 : i = 48
  · subst h5
    rw [if_pos rfl, if_pos (show 48 + 1 < 94 by omega), show o + 1 + 49 = o + pG 1 by unfold pG; omega, show o + 1 + 60 = o + pL 1 by unfold pL; omega]; rfl
  rw [if_neg h5]
  by_cases h6 : i < 93
  · rw [if_pos h6, if_pos (show i + 1 < 94 by omega), show o + 1 + 49 = o + pG 1 by unfold pG; omega, sg_init cI cT o (by decide) (show i - 49 < 44 by omega), show i - 49 + 1 = i + 1 - 49 by omega]
  rw [if_neg h6, if_neg (show ¬ i + 1 < 94 by omega)]
  by_cases h7 : i = 93
  · rw [if_pos h7, if_pos (by omega), show o + 1 + 94 = o + 95 by omega, show o + 1 + 95 = o + 96 by omega]
  rw [if_neg h7, if_neg (show ¬ i + 1 = 94 by omega)]
  by_cases h8 : i = 94
  · rw [if_pos h8, if_pos (by omega)]; rfl
  · rw [if_neg h8, if_neg (show ¬ i + 1 = 95 by omega)]; rfl
theorem range_s (n : Nat) : List.range (n + 1) = 0 :: (List.range n).map (fun i => i + 1) := List.range_succ_eq_map
/-- the cells of a new object are the system's world at its first state -/
theorem w_init (cI cZ cT : ClassId) (o : Nat) : y_w o (o + 1) (.inr (5, [.ref (o + 1 + 0), .ref (o + 1 + 2), .int 0, .ref (o + 1 + 3), .ref (o + 1 + 48), .ref (o + 1 + 93)])) 96 (fun i => y_x cI cZ cT (o + 1) i) = z_w cI cZ cT o z_S0 := by
  unfold y_w z_w
  rw [range_s 96, List.map_cons, List.map_map]
  refine congr (congrArg List.cons ?_) ?_
  · rw [show o + 1 + 0 = o + 1 by omega, show o + 1 + 2 = o + 3 by omega, show o + 1 + 3 = o + pS 0 by unfold pS; omega, show o + 1 + 48 = o + pS 1 by unfold pS; omega, show o + 1 + 93 = o + 94 by omega]
    rfl
  · refine List.map_congr_left fun i hi => ?_
    have hi' : i < 96 := List.mem_range.1 hi
    show (o + 1 + i, y_x cI cZ cT (o + 1) i) = (o + (i + 1), z_cell cI cZ cT o z_S0 (i + 1))
    rw [x_init cI cZ cT o hi', show o + 1 + i = o + (i + 1) by omega]
theorem ok_S0 {w : Nat} (hw : w < 2) : z_ok z_S0 w 0 := by
  refine ⟨by rw [z_S0_e hw]; rfl, by decide, fun t ht => ⟨by rw [z_S0_e hw]; exact in_0 (by decide) (by decide), by rw [z_S0_e hw]; exact in_0 (by decide) (by decide), fun i hi => ?_⟩⟩
  have q : ∀ r, z_S0 w (27 + 3 * t + r) i = 0 := fun r => by
    rw [z_S0_e hw, if_neg (by omega), if_neg (by omega), if_neg (by omega), if_neg (by omega), if_neg (by omega), if_neg (by omega)]
  rw [q, q]
  exact ⟨in_0 (by decide) (by decide), in_0 (by decide) (by decide)⟩
theorem K_S0 {w : Nat} (hw : w < 2) : zK (z_S0 w 1) (z_S0 w 16) z_S0 w 0 := by
  have e := z_S0_e hw
  refine ⟨fun c => ?_, fun t => ?_, fun t ht => absurd ht (Nat.not_lt_zero t)⟩
  · rw [e 0, e 1, e 2, e 3, e 4, e 5, e 6, e 7]
    exact ⟨inr_nI (k := 3) (by decide) (by decide), Or.inl ⟨rfl, rfl⟩, in_0 (by decide) (by decide), in_0 (by decide) (by decide), in_0 (by decide) (by decide), Or.inr ⟨rfl, rfl, rfl, rfl, rfl⟩⟩
  · rw [e 16, e 20, e 21, e 22]
    exact ⟨⟨in_0 (by decide) (by decide), in_0 (by decide) (by decide), Nat.le_refl _⟩, in_0 (by decide) (by decide), Or.inl rfl, Or.inl rfl⟩
end ZP3
