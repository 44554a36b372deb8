section ZV
/-- the state of the system by whose (0 the siege, 1 the one ahead, 2 the rest), which field, which place -/
abbrev zS : Type := Nat → Nat → Nat → Int32
def z_up (S : zS) (w k i : Nat) (x : Int32) : zS := fun w' k' i' => if w' = w ∧ k' = k ∧ i' = i then x else S w' k' i'
def z_put (S : zS) (w k : Nat) (f : Nat → Int32) : zS := fun w' k' i' => if w' = w ∧ k' = k then f i' else S w' k' i'
def z_cpA (S : zS) (w k w2 k2 : Nat) : zS := z_put S w k (S w2 k2)
theorem z_up_at (S : zS) (w k i : Nat) (x : Int32) : z_up S w k i x w k i = x := by simp [z_up]
theorem z_up_ne (S : zS) {w k i w' k' i' : Nat} (x : Int32) (h : ¬ (w' = w ∧ k' = k ∧ i' = i)) : z_up S w k i x w' k' i' = S w' k' i' := by simp only [z_up, if_neg h]
theorem z_up_row (S : zS) (w k i : Nat) (x : Int32) : z_up S w k i x w k = upd (S w k) i x := by
  funext j; by_cases h : j = i <;> simp [z_up, upd, h]
theorem z_put_row (S : zS) (w k : Nat) (f : Nat → Int32) : z_put S w k f w k = f := by funext j; simp [z_put]
-- places
def pS (w : Nat) : Nat := 4 + 45 * w
def pG (w : Nat) : Nat := 5 + 45 * w
def pA (w k : Nat) : Nat := 6 + 45 * w + k
def pL (w : Nat) : Nat := 16 + 45 * w
def pT (w t : Nat) : Nat := 17 + 45 * w + 4 * t
def pO (w t r : Nat) : Nat := 18 + 45 * w + 4 * t + r
/-- where the state's number (w, k, i) lies -/
def z_home (w k i : Nat) : Nat :=
  if w < 2 then (if k < 10 then pA w k else if k < 12 then pG w else if k < 14 then pS w else if k < 27 then pT w i else pO w ((k - 27) / 3) ((k - 27) % 3))
  else (if k = 0 then 2 else if k = 1 then 1 else if k = 2 then 3 else if k = 3 then 0 else if k = 4 then 95 else 96)
/-- what a cell of a siege holds -/
def z_sg (cI cT : ClassId) (o w : Nat) (S : Nat → Nat → Int32) (j : Nat) : va_E :=
  if j = 0 then .inr (1, [.ref (o + pG w), .ref (o + pL w), .int (S 12 0), .int (S 13 0)])
  else if j = 1 then .inr (0, [.ref (o + pA w 0), .ref (o + pA w 1), .ref (o + pA w 2), .ref (o + pA w 3), .ref (o + pA w 4), .ref (o + pA w 5), .ref (o + pA w 6), .ref (o + pA w 7), .ref (o + pA w 8), .ref (o + pA w 9), .int (S 10 0), .int (S 11 0)])
  else if j < 12 then .inl (cI, 144, .inl (S (j - 2)))
  else if j = 12 then .inl (cT, 8, .inr (.inr (.inr (.inr (fun t => some (o + pT w t))))))
  else if (j - 13) % 4 = 0 then .inr (3, [.int (S 14 ((j - 13) / 4)), .int (S 15 ((j - 13) / 4)), .int (S 16 ((j - 13) / 4)), .int (S 17 ((j - 13) / 4)), .int (S 18 ((j - 13) / 4)), .int (S 19 ((j - 13) / 4)), .int (S 20 ((j - 13) / 4)), .int (S 21 ((j - 13) / 4)), .int (S 22 ((j - 13) / 4)), .int (S 23 ((j - 13) / 4)), .int (S 24 ((j - 13) / 4)), .int (S 25 ((j - 13) / 4)), .int (S 26 ((j - 13) / 4)), .ref (o + pO w ((j - 13) / 4) 0), .ref (o + pO w ((j - 13) / 4) 1), .ref (o + pO w ((j - 13) / 4) 2)])
  else .inl (cI, 12, .inl (S (27 + 3 * ((j - 13) / 4) + ((j - 13) % 4 - 1))))
/-- what a cell of the system holds -/
def z_cell (cI cZ cT : ClassId) (o : Nat) (S : zS) (j : Nat) : va_E :=
  if j = 0 then .inr (5, [.ref (o + 1), .ref (o + 3), .int (S 2 3 0), .ref (o + pS 0), .ref (o + pS 1), .ref (o + 94)])
  else if j = 1 then .inr (2, [.ref (o + 2), .int (S 2 1 0)])
  else if j = 2 then .inl (cI, 200, .inl (S 2 0))
  else if j = 3 then .inl (cI, 156, .inl (S 2 2))
  else if j < 49 then z_sg cI cT o 0 (S 0) (j - 4)
  else if j < 94 then z_sg cI cT o 1 (S 1) (j - 49)
  else if j = 94 then .inr (4, [.ref (o + 95), .ref (o + 96)])
  else if j = 95 then .inl (cI, 144, .inl (S 2 4))
  else .inl (cZ, 144, .inl (S 2 5))
def z_w (cI cZ cT : ClassId) (o : Nat) (S : zS) : va_W := (List.range 97).map (fun j => (o + j, z_cell cI cZ cT o S j))
theorem z_w_get (cI cZ cT : ClassId) (o : Nat) (S : zS) {j : Nat} (hj : j < 97) : (z_w cI cZ cT o S)[j]? = some (o + j, z_cell cI cZ cT o S j) := by
  simp [z_w, hj]
theorem z_w_lt {cI cZ cT : ClassId} {o : Nat} {S : zS} {j : Nat} {q : Nat × va_E} (h : (z_w cI cZ cT o S)[j]? = some q) : j < 97 ∧ q = (o + j, z_cell cI cZ cT o S j) := by
  have hl : j < (z_w cI cZ cT o S).length := (List.getElem?_eq_some_iff.mp h).1
  have hj : j < 97 := by simpa [z_w] using hl
  rw [z_w_get cI cZ cT o S hj] at h
  exact ⟨hj, (Option.some.inj h).symm⟩
theorem z_sg_at (cI cT : ClassId) (o w : Nat) (S S' : Nat → Nat → Int32) (j : Nat) (hj : j < 45) (h : ∀ k i, (if k < 10 then 2 + k else if k < 12 then 1 else if k < 14 then 0 else if k < 27 then 13 + 4 * i else 14 + 4 * ((k - 27) / 3) + (k - 27) % 3) = j → S' k i = S k i) : z_sg cI cT o w S' j = z_sg cI cT o w S j := by
  unfold z_sg
  by_cases h0 : j = 0
  · rw [if_pos h0, if_pos h0, h 12 0 (by simp [h0]), h 13 0 (by simp [h0])]
  rw [if_neg h0, if_neg h0]
  by_cases h1 : j = 1
  · rw [if_pos h1, if_pos h1, h 10 0 (by simp [h1]), h 11 0 (by simp [h1])]
  rw [if_neg h1, if_neg h1]
  by_cases h2 : j < 12
  · rw [if_pos h2, if_pos h2]
    have e : S' (j - 2) = S (j - 2) := funext fun i => h (j - 2) i (by rw [if_pos (by omega)]; omega)
    rw [e]
  rw [if_neg h2, if_neg h2]
  by_cases h3 : j = 12
  · rw [if_pos h3, if_pos h3]
  rw [if_neg h3, if_neg h3]
  by_cases h4 : (j - 13) % 4 = 0
  · rw [if_pos h4, if_pos h4]
    have g : ∀ k, 14 ≤ k → k < 27 → S' k ((j - 13) / 4) = S k ((j - 13) / 4) := fun k hk hk2 => h k _ (by rw [if_neg (by omega), if_neg (by omega), if_neg (by omega), if_pos hk2]; omega)
    rw [g 14 (by omega) (by omega), g 15 (by omega) (by omega), g 16 (by omega) (by omega), g 17 (by omega) (by omega), g 18 (by omega) (by omega), g 19 (by omega) (by omega), g 20 (by omega) (by omega), g 21 (by omega) (by omega), g 22 (by omega) (by omega), g 23 (by omega) (by omega), g 24 (by omega) (by omega), g 25 (by omega) (by omega), g 26 (by omega) (by omega)]
  · rw [if_neg h4, if_neg h4]
    have e : S' (27 + 3 * ((j - 13) / 4) + ((j - 13) % 4 - 1)) = S (27 + 3 * ((j - 13) / 4) + ((j - 13) % 4 - 1)) := funext fun i => h _ i (by rw [if_neg (by omega), if_neg (by omega), if_neg (by omega), if_neg (by omega)]; omega)
    rw [e]
theorem z_home_0 (k i : Nat) : z_home 0 k i = 4 + (if k < 10 then 2 + k else if k < 12 then 1 else if k < 14 then 0 else if k < 27 then 13 + 4 * i else 14 + 4 * ((k - 27) / 3) + (k - 27) % 3) := by
  simp only [z_home, pA, pG, pS, pT, pO]; split <;> (try split) <;> (try split) <;> (try split) <;> (try split) <;> omega
theorem z_home_1 (k i : Nat) : z_home 1 k i = 49 + (if k < 10 then 2 + k else if k < 12 then 1 else if k < 14 then 0 else if k < 27 then 13 + 4 * i else 14 + 4 * ((k - 27) / 3) + (k - 27) % 3) := by
  simp only [z_home, pA, pG, pS, pT, pO]; split <;> (try split) <;> (try split) <;> (try split) <;> (try split) <;> omega
theorem z_cell_at (cI cZ cT : ClassId) (o : Nat) (S S' : zS) (j : Nat) (hj : j < 97) (h : ∀ w k i, z_home w k i = j → S' w k i = S w k i) : z_cell cI cZ cT o S' j = z_cell cI cZ cT o S j := by
  unfold z_cell
  by_cases h0 : j = 0
  · rw [if_pos h0, if_pos h0, h 2 3 0 (by rw [h0]; rfl)]
  rw [if_neg h0, if_neg h0]
  by_cases h1 : j = 1
  · rw [if_pos h1, if_pos h1, h 2 1 0 (by rw [h1]; rfl)]
  rw [if_neg h1, if_neg h1]
  by_cases h2 : j = 2
  · rw [if_pos h2, if_pos h2, show S' 2 0 = S 2 0 from funext fun i => h 2 0 i (by rw [h2]; rfl)]
  rw [if_neg h2, if_neg h2]
  by_cases h3 : j = 3
  · rw [if_pos h3, if_pos h3, show S' 2 2 = S 2 2 from funext fun i => h 2 2 i (by rw [h3]; rfl)]
  rw [if_neg h3, if_neg h3]
  by_cases h4 : j < 49
  · rw [if_pos h4, if_pos h4]
    exact z_sg_at cI cT o 0 (S 0) (S' 0) (j - 4) (by omega) fun k i e => h 0 k i (by rw [z_home_0, e]; omega)
  rw [if_neg h4, if_neg h4]
  by_cases h5 : j < 94
  · rw [if_pos h5, if_pos h5]
    exact z_sg_at cI cT o 1 (S 1) (S' 1) (j - 49) (by omega) fun k i e => h 1 k i (by rw [z_home_1, e]; omega)
  rw [if_neg h5, if_neg h5]
  by_cases h6 : j = 94
  · rw [if_pos h6, if_pos h6]
  rw [if_neg h6, if_neg h6]
  by_cases h7 : j = 95
  · rw [if_pos h7, if_pos h7, show S' 2 4 = S 2 4 from funext fun i => h 2 4 i (by rw [h7]; rfl)]
  rw [if_neg h7, if_neg h7]
  rw [show S' 2 5 = S 2 5 from funext fun i => h 2 5 i (by rw [show j = 96 by omega]; rfl)]


theorem z_w_upd (cI cZ cT : ClassId) (o : Nat) (S S' : zS) {j : Nat} (hj : j < 97) {e : va_E} (h : ∀ w k i, z_home w k i ≠ j → S' w k i = S w k i) (he : z_cell cI cZ cT o S' j = e) : (z_w cI cZ cT o S).set j (o + j, e) = z_w cI cZ cT o S' := by
  apply List.ext_getElem?
  intro i
  rw [List.getElem?_set]
  by_cases hi : j = i
  · subst hi
    rw [if_pos rfl, if_pos (by simpa [z_w] using hj), z_w_get _ _ _ _ _ hj, he]
  · rw [if_neg hi]
    by_cases h2 : i < 97
    · rw [z_w_get _ _ _ _ _ h2, z_w_get _ _ _ _ _ h2, z_cell_at cI cZ cT o S S' i h2 (fun w k i' e => h w k i' (fun q => hi (q.symm.trans e)))]
    · rw [List.getElem?_eq_none (by simpa [z_w] using h2), List.getElem?_eq_none (by simpa [z_w] using h2)]
theorem pS_lt {w : Nat} (hw : w < 2) : pS w < 97 := by unfold pS; omega
theorem pG_lt {w : Nat} (hw : w < 2) : pG w < 97 := by unfold pG; omega
theorem pA_lt {w k : Nat} (hw : w < 2) (hk : k < 10) : pA w k < 97 := by unfold pA; omega
theorem pL_lt {w : Nat} (hw : w < 2) : pL w < 97 := by unfold pL; omega
theorem pT_lt {w t : Nat} (hw : w < 2) (ht : t < 8) : pT w t < 97 := by unfold pT; omega
theorem pO_lt {w t r : Nat} (hw : w < 2) (ht : t < 8) (hr : r < 3) : pO w t r < 97 := by unfold pO; omega
theorem z_cell_sg (cI cZ cT : ClassId) (o : Nat) (S : zS) {w j : Nat} (hw : w < 2) (hj : j < 45) : z_cell cI cZ cT o S (4 + 45 * w + j) = z_sg cI cT o w (S w) j := by
  unfold z_cell
  rcases (show w = 0 ∨ w = 1 by omega) with rfl | rfl
  · rw [if_neg (by omega), if_neg (by omega), if_neg (by omega), if_neg (by omega), if_pos (by omega)]
    congr 1
    omega
  · rw [if_neg (by omega), if_neg (by omega), if_neg (by omega), if_neg (by omega), if_neg (by omega), if_pos (by omega)]
    congr 1
    omega
def z_fS (o w : Nat) (S : zS) : List Value := [.ref (o + pG w), .ref (o + pL w), .int (S w 12 0), .int (S w 13 0)]
def z_fG (o w : Nat) (S : zS) : List Value := [.ref (o + pA w 0), .ref (o + pA w 1), .ref (o + pA w 2), .ref (o + pA w 3), .ref (o + pA w 4), .ref (o + pA w 5), .ref (o + pA w 6), .ref (o + pA w 7), .ref (o + pA w 8), .ref (o + pA w 9), .int (S w 10 0), .int (S w 11 0)]
def z_fT (o w t : Nat) (S : zS) : List Value := [.int (S w 14 t), .int (S w 15 t), .int (S w 16 t), .int (S w 17 t), .int (S w 18 t), .int (S w 19 t), .int (S w 20 t), .int (S w 21 t), .int (S w 22 t), .int (S w 23 t), .int (S w 24 t), .int (S w 25 t), .int (S w 26 t), .ref (o + pO w t 0), .ref (o + pO w t 1), .ref (o + pO w t 2)]
def z_fX (o : Nat) (S : zS) : List Value := [.ref (o + 1), .ref (o + 3), .int (S 2 3 0), .ref (o + pS 0), .ref (o + pS 1), .ref (o + 94)]
def z_fP (o : Nat) (S : zS) : List Value := [.ref (o + 2), .int (S 2 1 0)]
def z_fW (o : Nat) : List Value := [.ref (o + 95), .ref (o + 96)]
theorem zc_S (cI cZ cT : ClassId) (o : Nat) (S : zS) {w : Nat} (hw : w < 2) : z_cell cI cZ cT o S (pS w) = .inr (1, z_fS o w S) := by
  exact (z_cell_sg cI cZ cT o S (j := 0) hw (by omega)).trans rfl
theorem zc_G (cI cZ cT : ClassId) (o : Nat) (S : zS) {w : Nat} (hw : w < 2) : z_cell cI cZ cT o S (pG w) = .inr (0, z_fG o w S) := by
  rw [show pG w = 4 + 45 * w + 1 by unfold pG; omega]
  exact (z_cell_sg cI cZ cT o S (j := 1) hw (by omega)).trans rfl
theorem zc_A (cI cZ cT : ClassId) (o : Nat) (S : zS) {w k : Nat} (hw : w < 2) (hk : k < 10) : z_cell cI cZ cT o S (pA w k) = .inl (cI, 144, .inl (S w k)) := by
  rw [show pA w k = 4 + 45 * w + (2 + k) by unfold pA; omega, z_cell_sg cI cZ cT o S hw (by omega)]
  unfold z_sg
  rw [if_neg (by omega), if_neg (by omega), if_pos (by omega), show 2 + k - 2 = k by omega]
theorem zc_L (cI cZ cT : ClassId) (o : Nat) (S : zS) {w : Nat} (hw : w < 2) : z_cell cI cZ cT o S (pL w) = .inl (cT, 8, .inr (.inr (.inr (.inr (fun t => some (o + pT w t)))))) := by
  rw [show pL w = 4 + 45 * w + 12 by unfold pL; omega, z_cell_sg cI cZ cT o S hw (by omega)]
  unfold z_sg
  rw [if_neg (by omega), if_neg (by omega), if_neg (by omega), if_pos rfl]
theorem zc_T (cI cZ cT : ClassId) (o : Nat) (S : zS) {w t : Nat} (hw : w < 2) (ht : t < 8) : z_cell cI cZ cT o S (pT w t) = .inr (3, z_fT o w t S) := by
  rw [show pT w t = 4 + 45 * w + (13 + 4 * t) by unfold pT; omega, z_cell_sg cI cZ cT o S hw (by omega)]
  unfold z_sg
  rw [if_neg (by omega), if_neg (by omega), if_neg (by omega), if_neg (by omega), if_pos (by omega), show (13 + 4 * t - 13) / 4 = t by omega]
  rfl
theorem zc_O (cI cZ cT : ClassId) (o : Nat) (S : zS) {w t r : Nat} (hw : w < 2) (ht : t < 8) (hr : r < 3) : z_cell cI cZ cT o S (pO w t r) = .inl (cI, 12, .inl (S w (27 + 3 * t + r))) := by
  rw [show pO w t r = 4 + 45 * w + (14 + 4 * t + r) by unfold pO; omega, z_cell_sg cI cZ cT o S hw (by omega)]
  unfold z_sg
  rw [if_neg (by omega), if_neg (by omega), if_neg (by omega), if_neg (by omega), if_neg (by omega), show 27 + 3 * ((14 + 4 * t + r - 13) / 4) + ((14 + 4 * t + r - 13) % 4 - 1) = 27 + 3 * t + r by omega]
theorem zc_X (cI cZ cT : ClassId) (o : Nat) (S : zS) : z_cell cI cZ cT o S 0 = .inr (5, z_fX o S) := rfl
theorem zc_P (cI cZ cT : ClassId) (o : Nat) (S : zS) : z_cell cI cZ cT o S 1 = .inr (2, z_fP o S) := rfl
theorem zc_2 (cI cZ cT : ClassId) (o : Nat) (S : zS) : z_cell cI cZ cT o S 2 = .inl (cI, 200, .inl (S 2 0)) := rfl
theorem zc_3 (cI cZ cT : ClassId) (o : Nat) (S : zS) : z_cell cI cZ cT o S 3 = .inl (cI, 156, .inl (S 2 2)) := rfl
theorem zc_W (cI cZ cT : ClassId) (o : Nat) (S : zS) : z_cell cI cZ cT o S 94 = .inr (4, z_fW o) := rfl
theorem zc_95 (cI cZ cT : ClassId) (o : Nat) (S : zS) : z_cell cI cZ cT o S 95 = .inl (cI, 144, .inl (S 2 4)) := rfl
theorem zc_96 (cI cZ cT : ClassId) (o : Nat) (S : zS) : z_cell cI cZ cT o S 96 = .inl (cZ, 144, .inl (S 2 5)) := rfl
-- writes
theorem zh_ne {w k i w' k' i' : Nat} (h : z_home w' k' i' ≠ z_home w k i) : ¬ (w' = w ∧ k' = k ∧ i' = i) := fun q => h (by rw [q.1, q.2.1, q.2.2])
theorem zw_up (cI cZ cT : ClassId) (o : Nat) (S : zS) (w k i : Nat) (x : Int32) {j : Nat} (hj : j < 97) {e : va_E} (hh : z_home w k i = j) (he : z_cell cI cZ cT o (z_up S w k i x) j = e) : (z_w cI cZ cT o S).set j (o + j, e) = z_w cI cZ cT o (z_up S w k i x) :=
  z_w_upd cI cZ cT o S _ hj (fun w' k' i' h => z_up_ne S x (zh_ne (by rw [hh]; exact h))) he
theorem zh_A {w k : Nat} (hw : w < 2) (hk : k < 10) (i : Nat) : z_home w k i = pA w k := by simp [z_home, hw, hk]
theorem zh_G {w k : Nat} (hw : w < 2) (hk : 10 ≤ k) (hk2 : k < 12) (i : Nat) : z_home w k i = pG w := by
  unfold z_home; rw [if_pos hw, if_neg (by omega), if_pos hk2]
theorem zh_S {w k : Nat} (hw : w < 2) (hk : 12 ≤ k) (hk2 : k < 14) (i : Nat) : z_home w k i = pS w := by
  unfold z_home; rw [if_pos hw, if_neg (by omega), if_neg (by omega), if_pos hk2]
theorem zh_T {w k : Nat} (hw : w < 2) (hk : 14 ≤ k) (hk2 : k < 27) (i : Nat) : z_home w k i = pT w i := by
  unfold z_home; rw [if_pos hw, if_neg (by omega), if_neg (by omega), if_neg (by omega), if_pos hk2]
theorem zh_O {w t r : Nat} (hw : w < 2) (hr : r < 3) (i : Nat) : z_home w (27 + 3 * t + r) i = pO w t r := by
  unfold z_home
  rw [if_pos hw, if_neg (by omega), if_neg (by omega), if_neg (by omega), if_neg (by omega), show (27 + 3 * t + r - 27) / 3 = t by omega, show (27 + 3 * t + r - 27) % 3 = r by omega]
theorem zs_A (cI cZ cT : ClassId) (o : Nat) (S : zS) {w k : Nat} (hw : w < 2) (hk : k < 10) (i : Nat) (x : Int32) : (z_w cI cZ cT o S).set (pA w k) (o + pA w k, .inl (cI, 144, .inl (upd (S w k) i x))) = z_w cI cZ cT o (z_up S w k i x) :=
  zw_up cI cZ cT o S w k i x (pA_lt hw hk) (zh_A hw hk i) (by rw [zc_A cI cZ cT o _ hw hk, z_up_row])
theorem zs_O (cI cZ cT : ClassId) (o : Nat) (S : zS) {w t r : Nat} (hw : w < 2) (ht : t < 8) (hr : r < 3) (i : Nat) (x : Int32) : (z_w cI cZ cT o S).set (pO w t r) (o + pO w t r, .inl (cI, 12, .inl (upd (S w (27 + 3 * t + r)) i x))) = z_w cI cZ cT o (z_up S w (27 + 3 * t + r) i x) :=
  zw_up cI cZ cT o S w _ i x (pO_lt hw ht hr) (zh_O hw hr i) (by rw [zc_O cI cZ cT o _ hw ht hr, z_up_row])
theorem zs_2 (cI cZ cT : ClassId) (o : Nat) (S : zS) (i : Nat) (x : Int32) : (z_w cI cZ cT o S).set 2 (o + 2, .inl (cI, 200, .inl (upd (S 2 0) i x))) = z_w cI cZ cT o (z_up S 2 0 i x) :=
  zw_up cI cZ cT o S 2 0 i x (by omega) rfl (by rw [zc_2, z_up_row])
theorem zs_3 (cI cZ cT : ClassId) (o : Nat) (S : zS) (i : Nat) (x : Int32) : (z_w cI cZ cT o S).set 3 (o + 3, .inl (cI, 156, .inl (upd (S 2 2) i x))) = z_w cI cZ cT o (z_up S 2 2 i x) :=
  zw_up cI cZ cT o S 2 2 i x (by omega) rfl (by rw [zc_3, z_up_row])
theorem zs_95 (cI cZ cT : ClassId) (o : Nat) (S : zS) (i : Nat) (x : Int32) : (z_w cI cZ cT o S).set 95 (o + 95, .inl (cI, 144, .inl (upd (S 2 4) i x))) = z_w cI cZ cT o (z_up S 2 4 i x) :=
  zw_up cI cZ cT o S 2 4 i x (by omega) rfl (by rw [zc_95, z_up_row])
theorem zs_96 (cI cZ cT : ClassId) (o : Nat) (S : zS) (i : Nat) (x : Int32) : (z_w cI cZ cT o S).set 96 (o + 96, .inl (cZ, 144, .inl (upd (S 2 5) i x))) = z_w cI cZ cT o (z_up S 2 5 i x) :=
  zw_up cI cZ cT o S 2 5 i x (by omega) rfl (by rw [zc_96, z_up_row])

theorem zs_T0 (cI cZ cT : ClassId) (o : Nat) (S : zS) {w t : Nat} (hw : w < 2) (ht : t < 8) (x : Int32) : (z_w cI cZ cT o S).set (pT w t) (o + pT w t, .inr (3, (z_fT o w t S).set 0 (.int x))) = z_w cI cZ cT o (z_up S w 14 t x) :=
  zw_up cI cZ cT o S w 14 t x (pT_lt hw ht) (zh_T hw (by omega) (by omega) t) (by rw [zc_T cI cZ cT o _ hw ht]; simp [z_fT, z_up])
theorem zs_T1 (cI cZ cT : ClassId) (o : Nat) (S : zS) {w t : Nat} (hw : w < 2) (ht : t < 8) (x : Int32) : (z_w cI cZ cT o S).set (pT w t) (o + pT w t, .inr (3, (z_fT o w t S).set 1 (.int x))) = z_w cI cZ cT o (z_up S w 15 t x) :=
  zw_up cI cZ cT o S w 15 t x (pT_lt hw ht) (zh_T hw (by omega) (by omega) t) (by rw [zc_T cI cZ cT o _ hw ht]; simp [z_fT, z_up])
theorem zs_T2 (cI cZ cT : ClassId) (o : Nat) (S : zS) {w t : Nat} (hw : w < 2) (ht : t < 8) (x : Int32) : (z_w cI cZ cT o S).set (pT w t) (o + pT w t, .inr (3, (z_fT o w t S).set 2 (.int x))) = z_w cI cZ cT o (z_up S w 16 t x) :=
  zw_up cI cZ cT o S w 16 t x (pT_lt hw ht) (zh_T hw (by omega) (by omega) t) (by rw [zc_T cI cZ cT o _ hw ht]; simp [z_fT, z_up])
theorem zs_T3 (cI cZ cT : ClassId) (o : Nat) (S : zS) {w t : Nat} (hw : w < 2) (ht : t < 8) (x : Int32) : (z_w cI cZ cT o S).set (pT w t) (o + pT w t, .inr (3, (z_fT o w t S).set 3 (.int x))) = z_w cI cZ cT o (z_up S w 17 t x) :=
  zw_up cI cZ cT o S w 17 t x (pT_lt hw ht) (zh_T hw (by omega) (by omega) t) (by rw [zc_T cI cZ cT o _ hw ht]; simp [z_fT, z_up])
theorem zs_T4 (cI cZ cT : ClassId) (o : Nat) (S : zS) {w t : Nat} (hw : w < 2) (ht : t < 8) (x : Int32) : (z_w cI cZ cT o S).set (pT w t) (o + pT w t, .inr (3, (z_fT o w t S).set 4 (.int x))) = z_w cI cZ cT o (z_up S w 18 t x) :=
  zw_up cI cZ cT o S w 18 t x (pT_lt hw ht) (zh_T hw (by omega) (by omega) t) (by rw [zc_T cI cZ cT o _ hw ht]; simp [z_fT, z_up])
theorem zs_T5 (cI cZ cT : ClassId) (o : Nat) (S : zS) {w t : Nat} (hw : w < 2) (ht : t < 8) (x : Int32) : (z_w cI cZ cT o S).set (pT w t) (o + pT w t, .inr (3, (z_fT o w t S).set 5 (.int x))) = z_w cI cZ cT o (z_up S w 19 t x) :=
  zw_up cI cZ cT o S w 19 t x (pT_lt hw ht) (zh_T hw (by omega) (by omega) t) (by rw [zc_T cI cZ cT o _ hw ht]; simp [z_fT, z_up])
theorem zs_T6 (cI cZ cT : ClassId) (o : Nat) (S : zS) {w t : Nat} (hw : w < 2) (ht : t < 8) (x : Int32) : (z_w cI cZ cT o S).set (pT w t) (o + pT w t, .inr (3, (z_fT o w t S).set 6 (.int x))) = z_w cI cZ cT o (z_up S w 20 t x) :=
  zw_up cI cZ cT o S w 20 t x (pT_lt hw ht) (zh_T hw (by omega) (by omega) t) (by rw [zc_T cI cZ cT o _ hw ht]; simp [z_fT, z_up])
theorem zs_T7 (cI cZ cT : ClassId) (o : Nat) (S : zS) {w t : Nat} (hw : w < 2) (ht : t < 8) (x : Int32) : (z_w cI cZ cT o S).set (pT w t) (o + pT w t, .inr (3, (z_fT o w t S).set 7 (.int x))) = z_w cI cZ cT o (z_up S w 21 t x) :=
  zw_up cI cZ cT o S w 21 t x (pT_lt hw ht) (zh_T hw (by omega) (by omega) t) (by rw [zc_T cI cZ cT o _ hw ht]; simp [z_fT, z_up])
theorem zs_T8 (cI cZ cT : ClassId) (o : Nat) (S : zS) {w t : Nat} (hw : w < 2) (ht : t < 8) (x : Int32) : (z_w cI cZ cT o S).set (pT w t) (o + pT w t, .inr (3, (z_fT o w t S).set 8 (.int x))) = z_w cI cZ cT o (z_up S w 22 t x) :=
  zw_up cI cZ cT o S w 22 t x (pT_lt hw ht) (zh_T hw (by omega) (by omega) t) (by rw [zc_T cI cZ cT o _ hw ht]; simp [z_fT, z_up])
theorem zs_T9 (cI cZ cT : ClassId) (o : Nat) (S : zS) {w t : Nat} (hw : w < 2) (ht : t < 8) (x : Int32) : (z_w cI cZ cT o S).set (pT w t) (o + pT w t, .inr (3, (z_fT o w t S).set 9 (.int x))) = z_w cI cZ cT o (z_up S w 23 t x) :=
  zw_up cI cZ cT o S w 23 t x (pT_lt hw ht) (zh_T hw (by omega) (by omega) t) (by rw [zc_T cI cZ cT o _ hw ht]; simp [z_fT, z_up])
theorem zs_T10 (cI cZ cT : ClassId) (o : Nat) (S : zS) {w t : Nat} (hw : w < 2) (ht : t < 8) (x : Int32) : (z_w cI cZ cT o S).set (pT w t) (o + pT w t, .inr (3, (z_fT o w t S).set 10 (.int x))) = z_w cI cZ cT o (z_up S w 24 t x) :=
  zw_up cI cZ cT o S w 24 t x (pT_lt hw ht) (zh_T hw (by omega) (by omega) t) (by rw [zc_T cI cZ cT o _ hw ht]; simp [z_fT, z_up])
theorem zs_T11 (cI cZ cT : ClassId) (o : Nat) (S : zS) {w t : Nat} (hw : w < 2) (ht : t < 8) (x : Int32) : (z_w cI cZ cT o S).set (pT w t) (o + pT w t, .inr (3, (z_fT o w t S).set 11 (.int x))) = z_w cI cZ cT o (z_up S w 25 t x) :=
  zw_up cI cZ cT o S w 25 t x (pT_lt hw ht) (zh_T hw (by omega) (by omega) t) (by rw [zc_T cI cZ cT o _ hw ht]; simp [z_fT, z_up])
theorem zs_T12 (cI cZ cT : ClassId) (o : Nat) (S : zS) {w t : Nat} (hw : w < 2) (ht : t < 8) (x : Int32) : (z_w cI cZ cT o S).set (pT w t) (o + pT w t, .inr (3, (z_fT o w t S).set 12 (.int x))) = z_w cI cZ cT o (z_up S w 26 t x) :=
  zw_up cI cZ cT o S w 26 t x (pT_lt hw ht) (zh_T hw (by omega) (by omega) t) (by rw [zc_T cI cZ cT o _ hw ht]; simp [z_fT, z_up])
theorem zs_G10 (cI cZ cT : ClassId) (o : Nat) (S : zS) {w : Nat} (hw : w < 2) (x : Int32) : (z_w cI cZ cT o S).set (pG w) (o + pG w, .inr (0, (z_fG o w S).set 10 (.int x))) = z_w cI cZ cT o (z_up S w 10 0 x) :=
  zw_up cI cZ cT o S w 10 0 x (pG_lt hw) (zh_G hw (by omega) (by omega) 0) (by rw [zc_G cI cZ cT o _ hw]; simp [z_fG, z_up])
theorem zs_G11 (cI cZ cT : ClassId) (o : Nat) (S : zS) {w : Nat} (hw : w < 2) (x : Int32) : (z_w cI cZ cT o S).set (pG w) (o + pG w, .inr (0, (z_fG o w S).set 11 (.int x))) = z_w cI cZ cT o (z_up S w 11 0 x) :=
  zw_up cI cZ cT o S w 11 0 x (pG_lt hw) (zh_G hw (by omega) (by omega) 0) (by rw [zc_G cI cZ cT o _ hw]; simp [z_fG, z_up])
theorem zs_S2 (cI cZ cT : ClassId) (o : Nat) (S : zS) {w : Nat} (hw : w < 2) (x : Int32) : (z_w cI cZ cT o S).set (pS w) (o + pS w, .inr (1, (z_fS o w S).set 2 (.int x))) = z_w cI cZ cT o (z_up S w 12 0 x) :=
  zw_up cI cZ cT o S w 12 0 x (pS_lt hw) (zh_S hw (by omega) (by omega) 0) (by rw [zc_S cI cZ cT o _ hw]; simp [z_fS, z_up])
theorem zs_S3 (cI cZ cT : ClassId) (o : Nat) (S : zS) {w : Nat} (hw : w < 2) (x : Int32) : (z_w cI cZ cT o S).set (pS w) (o + pS w, .inr (1, (z_fS o w S).set 3 (.int x))) = z_w cI cZ cT o (z_up S w 13 0 x) :=
  zw_up cI cZ cT o S w 13 0 x (pS_lt hw) (zh_S hw (by omega) (by omega) 0) (by rw [zc_S cI cZ cT o _ hw]; simp [z_fS, z_up])
theorem zs_X2 (cI cZ cT : ClassId) (o : Nat) (S : zS) (x : Int32) : (z_w cI cZ cT o S).set 0 (o + 0, .inr (5, (z_fX o S).set 2 (.int x))) = z_w cI cZ cT o (z_up S 2 3 0 x) :=
  zw_up cI cZ cT o S 2 3 0 x (by omega) rfl (by rw [zc_X]; simp [z_fX, z_up])
theorem zs_P1 (cI cZ cT : ClassId) (o : Nat) (S : zS) (x : Int32) : (z_w cI cZ cT o S).set 1 (o + 1, .inr (2, (z_fP o S).set 1 (.int x))) = z_w cI cZ cT o (z_up S 2 1 0 x) :=
  zw_up cI cZ cT o S 2 1 0 x (by omega) rfl (by rw [zc_P]; simp [z_fP, z_up])
theorem zs_pA (cI cZ cT : ClassId) (o : Nat) (S : zS) {w k : Nat} (hw : w < 2) (hk : k < 10) (f : Nat → Int32) : (z_w cI cZ cT o S).set (pA w k) (o + pA w k, .inl (cI, 144, .inl f)) = z_w cI cZ cT o (z_put S w k f) :=
  z_w_upd cI cZ cT o S _ (pA_lt hw hk) (fun w' k' i' h => by
    have q : ¬ (w' = w ∧ k' = k) := fun q => h (by rw [q.1, q.2]; exact zh_A hw hk i')
    simp only [z_put, if_neg q]) (by rw [zc_A cI cZ cT o _ hw hk, z_put_row])
theorem zs_pO (cI cZ cT : ClassId) (o : Nat) (S : zS) {w t r : Nat} (hw : w < 2) (ht : t < 8) (hr : r < 3) (f : Nat → Int32) : (z_w cI cZ cT o S).set (pO w t r) (o + pO w t r, .inl (cI, 12, .inl f)) = z_w cI cZ cT o (z_put S w (27 + 3 * t + r) f) :=
  z_w_upd cI cZ cT o S _ (pO_lt hw ht hr) (fun w' k' i' h => by
    have q : ¬ (w' = w ∧ k' = 27 + 3 * t + r) := fun q => h (by rw [q.1, q.2]; exact zh_O hw hr i')
    simp only [z_put, if_neg q]) (by rw [zc_O cI cZ cT o _ hw ht hr, z_put_row])
end ZV
