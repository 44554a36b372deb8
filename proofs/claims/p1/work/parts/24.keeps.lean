section ZP5
variable {w n : Nat} {S : zS}
/-- what holds between the calls of a siege of n teams -/
def zN0 (S : zS) (w n : Nat) : Prop := zK (S w 1) (S w 16) S w n
def zJ (S : zS) (n : Nat) : Prop := z_ok S 0 n ∧ z_rg S 1 ∧ zN0 S 0 n ∧ S 2 3 0 = 0
theorem J_S0 : zJ z_S0 0 := ⟨ok_S0 (by decide), (ok_S0 (w := 1) (by decide)).rg, K_S0 (by decide), rfl⟩
theorem J_far {S' : zS} (h : zJ S n) (e : ∀ w k i, w < 2 → S' w k i = S w k i) (e2 : S' 2 3 0 = S 2 3 0) : zJ S' n := by
  have e0 : S' 0 = S 0 := funext fun k => funext fun i => e 0 k i (by decide)
  refine ⟨ok_same e0 h.1, ?_, ?_, e2.trans h.2.2.2⟩
  · intro t ht
    obtain ⟨a1, a2, a3⟩ := h.2.1 t ht
    refine ⟨by rw [e 1 _ _ (by decide)]; exact a1, by rw [e 1 _ _ (by decide)]; exact a2, fun i hi => ⟨by rw [e 1 _ _ (by decide)]; exact (a3 i hi).1, by rw [e 1 _ _ (by decide)]; exact (a3 i hi).2⟩⟩
  · unfold zN0
    rw [e0]
    exact K_same e0 h.2.2.1
/-! the tape -/
theorem app_far (S : zS) (L : Nat) (x : Int32) : ∀ i w k j, (w ≠ 2 ∨ 2 ≤ k) → s_app S L x i w k j = S w k j
  | 0, _, _, _, _ => rfl
  | i + 1, w, k, j, h => by
    show z_up (z_up (s_app S L x i) 2 0 (L + i) (z_byte x i)) 2 1 0 (nI (L + i + 1)) w k j = S w k j
    rw [z_up_ne _ _ (by omega), z_up_ne _ _ (by omega)]
    exact app_far S L x i w k j h
theorem feed_far (S : zS) (L : Nat) (a b c d e : Int32) {w k j : Nat} (h : w ≠ 2 ∨ 2 ≤ k) : s_feed S L a b c d e w k j = S w k j := by
  unfold s_feed
  rw [app_far _ _ _ _ _ _ _ h, app_far _ _ _ _ _ _ _ h, app_far _ _ _ _ _ _ _ h, app_far _ _ _ _ _ _ _ h, app_far _ _ _ _ _ _ _ h]
theorem feed_len (S : zS) (L : Nat) (a b c d e : Int32) (hL : S 2 1 0 = nI L) : s_feed S L a b c d e 2 1 0 = nI (L + 20) := by
  unfold s_feed
  exact app_len _ (app_len _ (app_len _ (app_len _ (app_len a hL 4) 4) 4) 4) 4
theorem J_feed (h : zJ S n) (L : Nat) (a b c d e : Int32) : zJ (s_feed S L a b c d e) n := J_far h (fun w k i hw => feed_far S L a b c d e (Or.inl (by omega))) (feed_far S L a b c d e (Or.inr (by decide)))
theorem J_trim (h : zJ S n) (x : Int32) : zJ (z_up S 2 1 0 x) n := J_far h (fun w k i hw => z_up_ne _ _ (by omega)) (z_up_ne _ _ (by omega))
/-! the map -/
theorem badN_le (S : zS) : ∀ i, s_badN S i ≤ i
  | 0 => Nat.le_refl 0
  | i + 1 => by
    have ih := badN_le S i
    show (if s_badN S i < i then s_badN S i else if s_fits S i = 0 then i else i + 1) ≤ i + 1
    split
    · omega
    · split <;> omega
theorem badN_fits (S : zS) : ∀ L, s_badN S L = L → ∀ i, i < L → s_fits S i ≠ 0
  | 0, _, i, hi => absurd hi (Nat.not_lt_zero i)
  | L + 1, h, i, hi => fun q => by
    have e := s_badN_of (S := S) (i := i)
    by_cases c : s_badN S i = i
    · have := e c q (L + 1) hi; omega
    · have h1 := badN_le S i
      have h2 : ∀ j, i ≤ j → s_badN S j = s_badN S i := fun j hj => by
        obtain ⟨k, rfl⟩ : ∃ k, j = i + k := ⟨j - i, by omega⟩
        clear hj
        induction k with
        | zero => rfl
        | succ k ih =>
          show (if s_badN S (i + k) < i + k then s_badN S (i + k) else if s_fits S (i + k) = 0 then i + k else i + k + 1) = _
          rw [ih, if_pos (by omega)]
      have := h2 (L + 1) (by omega)
      omega
/-- a map that is taken has letters of the map alone -/
theorem err_fits {L : Nat} (hL : L ≤ 200) (h : s_err S L < 0) : ∀ i, i < 156 → s_fits S i ≠ 0 := by
  have hb := badN_le S L
  unfold s_err at h
  by_cases c1 : s_badN S L < L
  · rw [if_pos c1] at h; exact absurd h (nI_pos (by omega))
  rw [if_neg c1] at h
  by_cases c2 : L < 156
  · rw [if_pos c2] at h; exact absurd h (nI_pos (by omega))
  exact fun i hi => badN_fits S L (by omega) i (by omega)
theorem ground_in {x : Int32} (h : s_ground x ≠ 0) : x = 35 ∨ x = 46 ∨ (∃ a, 49 ≤ a ∧ a ≤ 57 ∧ x = nI a) ∨ (∃ a, 97 ≤ a ∧ a ≤ 105 ∧ x = nI a) := by
  have r1 : ∀ M : Int32, 0 < M → ¬ x < M → ¬ x < 0 := fun M hM q1 q2 => q1 (Int32.lt_trans q2 hM)
  have g35 : (if x = 35 then (1 : Int32) else if x = 46 then 1 else 0) ≠ 0 → x = 35 ∨ x = 46 := fun q => by
    by_cases c1 : x = 35
    · exact Or.inl c1
    · rw [if_neg c1] at q
      by_cases c2 : x = 46
      · exact Or.inr c2
      · rw [if_neg c2] at q; exact absurd rfl q
  have hi : ∀ (A B : Nat), A ≤ B → B < 1000 → ¬ x < nI A → ¬ nI B < x → ∃ a, A ≤ a ∧ a ≤ B ∧ x = nI a := fun A B _ hB q1 q2 => by
    have q3 : ¬ x < 0 := fun q => q1 (by
      rcases Nat.eq_zero_or_pos A with e | e
      · rw [e]; exact q
      · exact Int32.lt_trans q ((nI_ltI (a := 0) (by decide) (by omega)).2 e))
    obtain ⟨j, hj, e⟩ := nI_of2 (M := nI B) (n := B) (nI_toInt (by omega)) q3 (Int32.not_lt.1 q2)
    refine ⟨j, ?_, hj, e⟩
    rw [e] at q1
    have := mt (nI_ltI (a := j) (b := A) (by omega) (by omega)).2 q1
    omega
  unfold s_ground at h
  by_cases c1 : x < 49
  · rw [if_pos c1] at h
    by_cases c2 : x < 97
    · rw [if_pos c2] at h
      rcases g35 h with q | q
      · exact Or.inl q
      · exact Or.inr (Or.inl q)
    · exact absurd (Int32.lt_trans c1 (by decide)) c2
  rw [if_neg c1] at h
  by_cases c3 : 57 < x
  · rw [if_pos c3] at h
    by_cases c2 : x < 97
    · rw [if_pos c2] at h
      rcases g35 h with q | q
      · exact Or.inl q
      · exact Or.inr (Or.inl q)
    rw [if_neg c2] at h
    by_cases c4 : 105 < x
    · rw [if_pos c4] at h
      rcases g35 h with q | q
      · exact Or.inl q
      · exact Or.inr (Or.inl q)
    · exact Or.inr (Or.inr (Or.inr (hi 97 105 (by decide) (by decide) c2 c4)))
  · exact Or.inr (Or.inr (Or.inl (hi 49 57 (by decide) (by decide) c1 c3)))
theorem rc0_c (S : zS) (w c : Nat) : s_rc0 S w c w 0 c = 3 ∧ s_rc0 S w c w 1 c = -1 ∧ s_rc0 S w c w 2 c = 0 ∧ s_rc0 S w c w 3 c = 0 ∧ s_rc0 S w c w 4 c = 0 ∧ s_rc0 S w c w 5 c = 0 ∧ s_rc0 S w c w 6 c = 0 ∧ s_rc0 S w c w 7 c = 0 := by
  simp [s_rc0, s_makeEarth, s_empty, up_c]
theorem rc0_ne (S : zS) (w c : Nat) {w' k i : Nat} (h : w' ≠ w ∨ i ≠ c ∨ 8 ≤ k) : s_rc0 S w c w' k i = S w' k i := by
  unfold s_rc0 s_makeEarth s_empty
  rw [z_up_ne _ _ (by omega), z_up_ne _ _ (by omega), z_up_ne _ _ (by omega), z_up_ne _ _ (by omega), z_up_ne _ _ (by omega), z_up_ne _ _ (by omega), z_up_ne _ _ (by omega), z_up_ne _ _ (by omega)]
theorem readCell_ne (S : zS) (w c : Nat) (x : Int32) {w' k i : Nat} (h : w' ≠ w ∨ i ≠ c ∨ 8 ≤ k) : s_readCell S w c x w' k i = S w' k i := by
  unfold s_readCell s_openTunnel s_empty
  split
  · rw [z_up_ne _ _ (by omega), z_up_ne _ _ (by omega), z_up_ne _ _ (by omega), z_up_ne _ _ (by omega), z_up_ne _ _ (by omega), z_up_ne _ _ (by omega)]; exact rc0_ne S w c h
  split
  · rw [z_up_ne _ _ (by omega)]; exact rc0_ne S w c h
  split
  · rw [z_up_ne _ _ (by omega)]; exact rc0_ne S w c h
  · rw [z_up_ne _ _ (by omega), z_up_ne _ _ (by omega)]; exact rc0_ne S w c h
theorem readCell_hc (S : zS) (w c : Nat) {x : Int32} (h : s_ground x ≠ 0) : hc (s_readCell S w c x w 1 c) (s_readCell S w c x w 0 c) (s_readCell S w c x w 1 c) (s_readCell S w c x w 2 c) (s_readCell S w c x w 3 c) (s_readCell S w c x w 4 c) (s_readCell S w c x w 5 c) (s_readCell S w c x w 6 c) (s_readCell S w c x w 7 c) := by
  obtain ⟨b0, b1, b2, b3, b4, b5, b6, b7⟩ := rc0_c S w c
  have i0 : ∀ k, 0 < k → k ≤ 2 ^ 31 → inr 0 k := fun k h1 h2 => in_0 h1 h2
  unfold s_readCell
  by_cases c1 : x = 46
  · rw [if_pos c1]
    simp only [s_openTunnel, s_empty, up_c]
    simp [b0, b1, b2, b3, b4, b5, b6, b7]
    exact ⟨inr_nI (k := 3) (by decide) (by decide), Or.inl ⟨rfl, rfl⟩, in_0 (by decide) (by decide), in_0 (by decide) (by decide), in_0 (by decide) (by decide), Or.inl ⟨rfl, by decide, rfl, by decide⟩⟩
  rw [if_neg c1]
  by_cases c2 : x = 35
  · rw [if_pos c2]
    simp only [up_c]
    simp [b0, b1, b2, b3, b4, b5, b6, b7]
    exact ⟨in_0 (by decide) (by decide), Or.inl ⟨rfl, rfl⟩, in_0 (by decide) (by decide), in_0 (by decide) (by decide), in_0 (by decide) (by decide), Or.inr ⟨rfl, rfl, rfl, rfl, rfl⟩⟩
  rw [if_neg c2]
  rcases ground_in h with q | q | ⟨a, a1, a2, rfl⟩ | ⟨a, a1, a2, rfl⟩
  · exact absurd q c2
  · exact absurd q c1
  · rw [if_pos (show nI a < 97 from (nI_ltI (a := a) (b := 97) (by omega) (by decide)).2 (by omega))]
    have e : nI a - 48 = nI (a - 48) := pk_sub (b := 48) (by omega)
    rw [e]
    simp only [up_c]
    simp [b0, b1, b2, b3, b4, b5, b6, b7]
    exact ⟨inr_nI (by omega) (by decide), Or.inl ⟨rfl, rfl⟩, in_0 (by decide) (by decide), in_0 (by decide) (by decide), in_0 (by decide) (by decide), Or.inr ⟨rfl, rfl, rfl, rfl, rfl⟩⟩
  · rw [if_neg (fun q => by have := (nI_ltI (a := a) (b := 97) (by omega) (by decide)).1 q; omega)]
    have e : nI a - 97 + 1 = nI (a - 97 + 1) := by rw [show nI a - 97 = nI (a - 97) from pk_sub (b := 97) (by omega), nI_1]
    rw [e]
    simp only [up_c]
    simp [b0, b1, b2, b3, b4, b5, b6, b7]
    exact ⟨inr_nI (by omega) (by decide), Or.inr ⟨inr_nI (k := 20) (by decide) (by decide), inr_nI (k := 20) (by decide) (by decide), Nat.le_refl _⟩, in_0 (by decide) (by decide), in_0 (by decide) (by decide), in_0 (by decide) (by decide), Or.inr ⟨rfl, rfl, rfl, rfl, rfl⟩⟩
theorem read_far (S : zS) (w : Nat) : ∀ c {w' k i : Nat}, (w' ≠ w ∨ 8 ≤ k) → s_read S w c w' k i = S w' k i
  | 0, _, _, _, _ => rfl
  | c + 1, w', k, i, h => by
    show s_readCell (s_read S w c) w c _ w' k i = S w' k i
    rw [readCell_ne _ w c _ (by omega)]
    exact read_far S w c h
theorem G_read (h : zG (S 0 1) S 0) (hf : ∀ i, i < 156 → s_fits S i ≠ 0) : ∀ c, c ≤ 144 → zG (s_read S 0 c 0 1) (s_read S 0 c) 0
  | 0, _ => h
  | c + 1, hc => by
    have ih := G_read h hf c (by omega)
    have e : s_read S 0 c 2 0 (13 * (c / 12) + c % 12) = S 2 0 (13 * (c / 12) + c % 12) := read_far S 0 c (Or.inl (by decide))
    have hg : s_ground (S 2 0 (13 * (c / 12) + c % 12)) ≠ 0 := by
      have := hf (13 * (c / 12) + c % 12) (by omega)
      unfold s_fits at this
      rw [if_neg (by omega), if_neg (by omega)] at this
      exact this
    show zG (s_readCell (s_read S 0 c) 0 c (s_read S 0 c 2 0 (13 * (c / 12) + c % 12)) 0 1) (s_readCell (s_read S 0 c) 0 c (s_read S 0 c 2 0 (13 * (c / 12) + c % 12))) 0
    rw [e]
    intro c'
    by_cases q : c' = c
    · rw [q]; exact readCell_hc _ 0 c hg
    · have r : ∀ k, s_readCell (s_read S 0 c) 0 c (S 2 0 (13 * (c / 12) + c % 12)) 0 k c' = s_read S 0 c 0 k c' := fun k => readCell_ne _ 0 c _ (Or.inr (Or.inl q))
      rw [r, r, r, r, r, r, r, r]
      exact ih c'
theorem J_map (h : zJ S 0) {L : Nat} (hL : L ≤ 200) : zJ (s_map S L) 0 := by
  unfold s_map
  by_cases c : s_err S L < 0
  · rw [if_pos c]
    have hr := G_read h.2.2.1.1 (err_fits hL c) 144 (Nat.le_refl _)
    refine J_trim ?_ 0
    have far : ∀ w k i, (w ≠ 0 ∨ 8 ≤ k) → z_up (s_read S 0 144) 0 12 0 0 w k i = S w k i := fun w k i q => by
      by_cases e : w = 0 ∧ k = 12 ∧ i = 0
      · obtain ⟨rfl, rfl, rfl⟩ := e; rw [z_up_at]; exact h.1.1.symm
      · rw [z_up_ne _ _ (by omega)]; exact read_far S 0 144 q
    have near : ∀ k i, k < 8 → z_up (s_read S 0 144) 0 12 0 0 0 k i = s_read S 0 144 0 k i := fun k i q => z_up_ne _ _ (by omega)
    refine ⟨h.1.same fun k i q => far 0 k i (by omega), ?_, ⟨?_, ?_, fun t ht => absurd ht (Nat.not_lt_zero t)⟩, (far 2 3 0 (by omega)).trans h.2.2.2⟩
    · intro t ht
      obtain ⟨a1, a2, a3⟩ := h.2.1 t ht
      refine ⟨by rw [far 1 _ _ (by omega)]; exact a1, by rw [far 1 _ _ (by omega)]; exact a2, fun i hi => ⟨by rw [far 1 _ _ (by omega)]; exact (a3 i hi).1, by rw [far 1 _ _ (by omega)]; exact (a3 i hi).2⟩⟩
    · intro c'
      rw [near 0 c' (by decide), near 1 c' (by decide), near 2 c' (by decide), near 3 c' (by decide), near 4 c' (by decide), near 5 c' (by decide), near 6 c' (by decide), near 7 c' (by decide)]
      exact hr c'
    · intro t
      rw [far 0 16 t (by omega), far 0 20 t (by omega), far 0 21 t (by omega), far 0 22 t (by omega)]
      exact h.2.2.1.2.1 t
  · rw [if_neg c]; exact J_trim h 0
/-! teams and orders -/
theorem start_at (S : zS) (w t : Nat) (a b c d : Int32) (k : Nat) : s_start S w t a b c d w k t = if k = 14 then a else if k = 15 then b else if k = 16 then c else if k = 17 then d else if k = 18 then 0 else if k = 23 then -1 else if k = 24 then -1 else if k = 25 then -1 else if k = 26 then 0 else if k = 19 then 0 else if k = 20 then 0 else if k = 21 then 0 else if k = 22 then 0 else S w k t := by
  unfold s_start s_begin
  simp only [up_c]
  by_cases h : 14 ≤ k ∧ k ≤ 26
  · rcases (show k = 14 ∨ k = 15 ∨ k = 16 ∨ k = 17 ∨ k = 18 ∨ k = 19 ∨ k = 20 ∨ k = 21 ∨ k = 22 ∨ k = 23 ∨ k = 24 ∨ k = 25 ∨ k = 26 by omega) with rfl | rfl | rfl | rfl | rfl | rfl | rfl | rfl | rfl | rfl | rfl | rfl | rfl <;> rfl
  · rw [if_neg (by omega), if_neg (by omega), if_neg (by omega), if_neg (by omega), if_neg (by omega), if_neg (by omega), if_neg (by omega), if_neg (by omega), if_neg (by omega), if_neg (by omega), if_neg (by omega), if_neg (by omega), if_neg (by omega), if_neg (by omega), if_neg (by omega), if_neg (by omega), if_neg (by omega), if_neg (by omega), if_neg (by omega), if_neg (by omega), if_neg (by omega), if_neg (by omega), if_neg (by omega), if_neg (by omega), if_neg (by omega), if_neg (by omega)]
theorem start_ne (S : zS) (w t : Nat) (a b c d : Int32) {w' k i : Nat} (h : w' ≠ w ∨ i ≠ t ∨ k < 14 ∨ 26 < k) : s_start S w t a b c d w' k i = S w' k i := by
  unfold s_start s_begin
  rw [z_up_ne _ _ (by omega), z_up_ne _ _ (by omega), z_up_ne _ _ (by omega), z_up_ne _ _ (by omega), z_up_ne _ _ (by omega), z_up_ne _ _ (by omega), z_up_ne _ _ (by omega), z_up_ne _ _ (by omega), z_up_ne _ _ (by omega), z_up_ne _ _ (by omega), z_up_ne _ _ (by omega), z_up_ne _ _ (by omega), z_up_ne _ _ (by omega)]
theorem J_come (h : zJ S n) (hn : n < 8) (a : Int32) {c q : Nat} (d : Int32) (hc : c < 144) (hq : q ≤ 9) (ht : S 0 2 c = 1) : zJ (s_come S n a (nI c) (nI q) d) (n + 1) := by
  have at_ : ∀ k, k ≠ 12 → s_come S n a (nI c) (nI q) d 0 k n = s_start S 0 n a (nI c) (nI q) d 0 k n := fun k hk => z_up_ne _ _ (by omega)
  have ne_ : ∀ w k i, (w ≠ 0 ∨ (i ≠ n ∧ k ≠ 12) ∨ k < 12 ∨ k = 13 ∨ 26 < k) → s_come S n a (nI c) (nI q) d w k i = S w k i := fun w k i e => by
    unfold s_come
    rw [z_up_ne _ _ (by omega), start_ne _ _ _ _ _ _ _ (by omega)]
  refine ⟨⟨?_, by omega, fun t ht' => ?_⟩, ?_, ⟨?_, ?_, ?_⟩, (ne_ 2 3 0 (by omega)).trans h.2.2.2⟩
  · unfold s_come; rw [z_up_at]
  · obtain ⟨a1, a2, a3⟩ := h.1.2.2 t ht'
    refine ⟨?_, ?_, fun i hi => ⟨by rw [ne_ 0 _ i (by omega)]; exact (a3 i hi).1, by rw [ne_ 0 _ i (by omega)]; exact (a3 i hi).2⟩⟩
    · by_cases e : t = n
      · rw [e, at_ 15 (by decide), start_at]; exact inr_nI hc (by decide)
      · rw [ne_ 0 15 t (by omega)]; exact a1
    · by_cases e : t = n
      · rw [e, at_ 26 (by decide), start_at]; exact in_0 (by decide) (by decide)
      · rw [ne_ 0 26 t (by omega)]; exact a2
  · intro t ht'
    obtain ⟨a1, a2, a3⟩ := h.2.1 t ht'
    refine ⟨by rw [ne_ 1 _ _ (by omega)]; exact a1, by rw [ne_ 1 _ _ (by omega)]; exact a2, fun i hi => ⟨by rw [ne_ 1 _ _ (by omega)]; exact (a3 i hi).1, by rw [ne_ 1 _ _ (by omega)]; exact (a3 i hi).2⟩⟩
  · intro c'
    rw [ne_ 0 0 c' (by omega), ne_ 0 1 c' (by omega), ne_ 0 2 c' (by omega), ne_ 0 3 c' (by omega), ne_ 0 4 c' (by omega), ne_ 0 5 c' (by omega), ne_ 0 6 c' (by omega), ne_ 0 7 c' (by omega)]
    exact h.2.2.1.1 c'
  · intro t
    by_cases e : t = n
    · rw [e, at_ 16 (by decide), at_ 20 (by decide), at_ 21 (by decide), at_ 22 (by decide), start_at, start_at, start_at, start_at]
      exact ⟨⟨inr_nI (by omega) (by decide), inr_nI (by omega) (by decide), Nat.le_refl _⟩, in_0 (by decide) (by decide), Or.inl rfl, Or.inl rfl⟩
    · rw [ne_ 0 16 t (by omega), ne_ 0 20 t (by omega), ne_ 0 21 t (by omega), ne_ 0 22 t (by omega)]
      exact h.2.2.1.2.1 t
  · intro t ht' hp
    rw [ne_ 0 2 _ (by omega)]
    by_cases e : t = n
    · rw [e, at_ 15 (by decide), start_at]
      show S 0 2 (cl (nI c)) = 1
      rw [cl_nI (by omega)]; exact ht
    · rw [ne_ 0 15 t (by omega)]
      rw [ne_ 0 16 t (by omega)] at hp
      exact h.2.2.1.2.2 t (by omega) hp
theorem od_add (S : zS) (t m : Nat) (a b c : Int32) : zOd S (s_addOrder S 0 t m a b c) 0 := (((od_rf.up (by omega) _ _).up (by omega) _ _).up (by omega) _ _).up (by omega) _ _
theorem zOd.now {S' : zS} (h : zN0 S 0 n) (e : zOd S S' 0) : zN0 S' 0 n := by
  have e1 : S' 0 1 = S 0 1 := funext fun i => e 1 i (by omega)
  have e2 : S' 0 16 = S 0 16 := funext fun i => e 16 i (by omega)
  unfold zN0
  rw [e1, e2]
  exact zK.od h e
theorem J_order (h : zJ S n) {t m k d : Nat} (q : Int32) (hm : m < 12) (hk : k < 7) (hd : d < 4) : zJ (s_addOrder S 0 t m (nI k) (nI d) q) n := by
  have far : ∀ w' k' i', w' ≠ 0 → s_addOrder S 0 t m (nI k) (nI d) q w' k' i' = S w' k' i' := fun w' k' i' e => by
    unfold s_addOrder
    rw [z_up_ne _ _ (by omega), z_up_ne _ _ (by omega), z_up_ne _ _ (by omega), z_up_ne _ _ (by omega)]
  refine ⟨?_, ?_, zOd.now h.2.2.1 (od_add S t m _ _ _), (far 2 3 0 (by omega)).trans h.2.2.2⟩
  · exact (((h.1.upO t 0 m (by decide) (fun _ => inr_nI hk (by decide)) (fun e => absurd e (by decide))).upO t 1 m (by decide) (fun e => absurd e (by decide)) (fun _ => inr_nI hd (by decide))).upO t 2 m (by decide) (fun e => absurd e (by decide)) (fun e => absurd e (by decide))).up26 t (inr_nI (by omega) (by decide))
  · intro t' ht'
    obtain ⟨a1, a2, a3⟩ := h.2.1 t' ht'
    refine ⟨by rw [far 1 _ _ (by omega)]; exact a1, by rw [far 1 _ _ (by omega)]; exact a2, fun i hi => ⟨by rw [far 1 _ _ (by omega)]; exact (a3 i hi).1, by rw [far 1 _ _ (by omega)]; exact (a3 i hi).2⟩⟩
theorem J_open (h : zJ S n) {c : Nat} (h0 : S 0 0 c ≠ 0) : zJ (s_openTunnel S 0 c) n := by
  have far : ∀ w k i, (w ≠ 0 ∨ 8 ≤ k) → s_openTunnel S 0 c w k i = S w k i := fun w k i e => by
    unfold s_openTunnel s_empty
    rw [z_up_ne _ _ (by omega), z_up_ne _ _ (by omega), z_up_ne _ _ (by omega), z_up_ne _ _ (by omega), z_up_ne _ _ (by omega), z_up_ne _ _ (by omega)]
  refine ⟨h.1.same fun k i q => far 0 k i (by omega), ?_, ?_, (far 2 3 0 (by omega)).trans h.2.2.2⟩
  · intro t' ht'
    obtain ⟨a1, a2, a3⟩ := h.2.1 t' ht'
    refine ⟨by rw [far 1 _ _ (by omega)]; exact a1, by rw [far 1 _ _ (by omega)]; exact a2, fun i hi => ⟨by rw [far 1 _ _ (by omega)]; exact (a3 i hi).1, by rw [far 1 _ _ (by omega)]; exact (a3 i hi).2⟩⟩
  · exact zK.now (zK.grid h.2.2.1 (zG_open h.2.2.1.1 h0) (fun k i hk => far 0 k i (by omega)) (fun c' q => by
      by_cases e : c' = c
      · rw [e, open_2]
      · rw [open_ne S 0 c (Or.inl e)]; exact q))
/-! asking and hours -/
theorem J_ask {S' : zS} (h : zJ S n) (q : zQ S S') (h1 : z_rg S' 1) : zJ S' n := by
  refine ⟨ok_same q.1 h.1, h1, ?_, (q.2 3 0 (by decide)).trans h.2.2.2⟩
  unfold zN0
  rw [q.1]
  exact K_same q.1 h.2.2.1
theorem J_ahead (h : zJ S n) (i : Nat) : zJ (s_hours (s_scopy S n) 1 n i) n := J_ask h (q_ahead S n i) (ok_hours (ok_scopy h.1 h.2.1) i).rg
theorem J_targ (h : zJ S n) (t : Nat) : zJ (s_targ S t) n := J_ask h (q_targ S t) (fun t' ht' => by
  obtain ⟨a1, a2, a3⟩ := h.2.1 t' ht'
  refine ⟨by rw [targ_1]; exact a1, by rw [targ_1]; exact a2, fun i hi => ⟨by rw [targ_1]; exact (a3 i hi).1, by rw [targ_1]; exact (a3 i hi).2⟩⟩)
theorem J_pass (h : zJ S n) (i : Nat) : zJ (s_hours S 0 n i) n := by
  have far : ∀ w k j, w ≠ 0 → s_hours S 0 n i w k j = S w k j := f_hours zFr.rf n i
  refine ⟨ok_hours h.1 i, ?_, (K_hours h.2.2.1 h.1 i).now, (far 2 3 0 (by omega)).trans h.2.2.2⟩
  intro t' ht'
  obtain ⟨a1, a2, a3⟩ := h.2.1 t' ht'
  refine ⟨by rw [far 1 _ _ (by omega)]; exact a1, by rw [far 1 _ _ (by omega)]; exact a2, fun i hi => ⟨by rw [far 1 _ _ (by omega)]; exact (a3 i hi).1, by rw [far 1 _ _ (by omega)]; exact (a3 i hi).2⟩⟩
/-! how the law says it -/
theorem wr_not {a b : Int32} (h : z_wr a b) : ¬ a < b ∧ (b < 0 ↔ a < 0) := by
  rcases h with ⟨rfl, rfl⟩ | ⟨ha, hb, hl⟩
  · exact ⟨by decide, Iff.rfl⟩
  · obtain ⟨x, hx, rfl⟩ := ha.ex
    obtain ⟨y, hy, rfl⟩ := hb.ex
    rw [cl_nI (by omega), cl_nI (by omega)] at hl
    exact ⟨nI_nlt hl (by omega), ⟨fun q => absurd q (nI_pos (by omega)), fun q => absurd q (nI_pos (by omega))⟩⟩
theorem hr_not {a b : Int32} (h : z_hr a b) : ¬ b < 0 ∧ ¬ a < b := by
  obtain ⟨ha, hb, hl⟩ := h
  obtain ⟨x, hx, rfl⟩ := ha.ex
  obtain ⟨y, hy, rfl⟩ := hb.ex
  rw [cl_nI (by omega), cl_nI (by omega)] at hl
  exact ⟨nI_pos (by omega), nI_nlt hl (by omega)⟩
theorem in_not {x : Int32} {m : Nat} (h : inr x (m + 1)) (hm : m < 1000) : ¬ x < 0 ∧ ¬ nI m < x := by
  obtain ⟨a, ha, rfl⟩ := h.ex
  exact ⟨nI_pos (by omega), nI_nlt (by omega) (by omega)⟩
/-- a cell, behind the hours of a pass: none of the law's complaints -/
theorem pass_cell (h : zJ S n) {i c : Nat} (hi : 0 < i) (hc : c < 144) {S' : zS} (hS : S' = s_hours S 0 n i) :
    (¬ S 0 1 c < S' 0 1 c ∧ (S' 0 1 c < 0 ↔ S 0 1 c < 0)) ∧ (¬ S' 0 0 c < 0 ∧ ¬ 9 < S' 0 0 c) ∧ (S' 0 2 c = 1 → S' 0 0 c ≠ 0 ∧ S' 0 6 c = 0 ∧ ¬ 36 < S' 0 4 c) ∧ (¬ S' 0 3 c < 0 ∧ ¬ 3 < S' 0 3 c) ∧ (¬ S' 0 5 c < 0 ∧ ¬ 9 < S' 0 5 c) ∧ (¬ S' 0 7 c < 0 ∧ ¬ 3 < S' 0 7 c) ∧ (S' 0 2 c ≠ 1 → S' 0 3 c = 0 ∧ S' 0 4 c = 0 ∧ S' 0 5 c = 0 ∧ S' 0 7 c = 0) := by
  subst hS
  have k := K_hours h.2.2.1 h.1 i
  have k7 := K_hours7 h.2.2.1 h.1 hi c hc
  obtain ⟨a1, a2, a3, a4, a5, a6⟩ := k.1 c
  refine ⟨wr_not a2, in_not (m := 9) a1 (by decide), fun q => ?_, in_not (m := 3) a3 (by decide), in_not (m := 9) a4 (by decide), in_not (m := 3) k7 (by decide), fun q => (k.1.non q).2⟩
  obtain ⟨b1, b2, b3⟩ := k.1.tun q
  exact ⟨b1, b2, Int32.not_lt.2 b3⟩
/-- a team, behind the hours of a pass: none of the law's complaints -/
theorem pass_team (h : zJ S n) {i t : Nat} (ht : t < n) {S' : zS} (hS : S' = s_hours S 0 n i) :
    (¬ S' 0 16 t < 0 ∧ ¬ S 0 16 t < S' 0 16 t) ∧ (0 < S' 0 16 t → S' 0 2 (cl (S' 0 15 t)) = 1) ∧ (¬ S' 0 26 t < 0 ∧ ¬ 12 < S' 0 26 t) ∧ (0 < S' 0 26 t → ¬ s_firstKind S' 0 t < 0) ∧ (¬ 0 < S' 0 26 t → s_firstKind S' 0 t < 0) := by
  subst hS
  have k := K_hours h.2.2.1 h.1 i
  have ok := ok_hours h.1 i
  have hn := h.1.2.1
  obtain ⟨a1, a2, a3⟩ := ok.2.2 t (by omega)
  refine ⟨hr_not (k.2.1 t).1, k.2.2 t ht, in_not (m := 12) a2 (by decide), fun q => ?_, fun q => ?_⟩
  · unfold s_firstKind
    rw [if_pos q]
    exact (in_not (m := 6) (a3 0 (by decide)).1 (by decide)).1
  · unfold s_firstKind
    rw [if_neg q]; decide
end ZP5
