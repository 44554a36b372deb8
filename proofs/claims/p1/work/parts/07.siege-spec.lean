section ZM3
def cl (x : Int32) : Nat := x.toNatClampNeg
def inr (x : Int32) (n : Nat) : Prop := x = nI (cl x) ∧ cl x < n
theorem cl_nI {k : Nat} (h : k < 2 ^ 31) : cl (nI k) = k := nI_clamp h
theorem inr_nI {k n : Nat} (h : k < n) (hn : n ≤ 2 ^ 31) : inr (nI k) n := by
  have e := cl_nI (Nat.lt_of_lt_of_le h hn)
  exact ⟨by rw [e], by rw [e]; exact h⟩
/-- the numbers of siege w by which the code reads rows: n teams, each in a cell, its orders of the seven kinds, in the four directions -/
def z_ok (S : zS) (w n : Nat) : Prop := S w 12 0 = nI n ∧ n ≤ 8 ∧ ∀ t, t < 8 → inr (S w 15 t) 144 ∧ inr (S w 26 t) 13 ∧ ∀ i, i < 12 → inr (S w (27 + 3 * t + 0) i) 7 ∧ inr (S w (27 + 3 * t + 1) i) 4
theorem z_ok.same {S S' : zS} {w n : Nat} (h : z_ok S w n) (e : ∀ k i, (k = 12 ∨ k = 15 ∨ k = 26 ∨ 27 ≤ k) → S' w k i = S w k i) : z_ok S' w n := by
  refine ⟨by rw [e 12 0 (by omega)]; exact h.1, h.2.1, fun t ht => ?_⟩
  obtain ⟨h1, h2, h3⟩ := h.2.2 t ht
  refine ⟨by rw [e 15 t (by omega)]; exact h1, by rw [e 26 t (by omega)]; exact h2, fun i hi => ⟨by rw [e _ i (by omega)]; exact (h3 i hi).1, by rw [e _ i (by omega)]; exact (h3 i hi).2⟩⟩
theorem z_ok.up {S : zS} {w n : Nat} (h : z_ok S w n) (k i : Nat) (x : Int32) (hk : k ≠ 12 ∧ k ≠ 15 ∧ k ≠ 26 ∧ k < 27) : z_ok (z_up S w k i x) w n :=
  h.same fun k' i' h' => z_up_ne S x (by omega)
theorem z_ok.up15 {S : zS} {w n : Nat} (h : z_ok S w n) (t : Nat) {x : Int32} (hx : inr x 144) : z_ok (z_up S w 15 t x) w n := by
  refine ⟨by rw [z_up_ne S x (by omega)]; exact h.1, h.2.1, fun t' ht => ?_⟩
  obtain ⟨h1, h2, h3⟩ := h.2.2 t' ht
  refine ⟨?_, by rw [z_up_ne S x (by omega)]; exact h2, fun i hi => ⟨by rw [z_up_ne S x (by omega)]; exact (h3 i hi).1, by rw [z_up_ne S x (by omega)]; exact (h3 i hi).2⟩⟩
  by_cases q : t' = t
  · subst q; rw [z_up_at]; exact hx
  · rw [z_up_ne S x (by omega)]; exact h1
theorem z_ok.up26 {S : zS} {w n : Nat} (h : z_ok S w n) (t : Nat) {x : Int32} (hx : inr x 13) : z_ok (z_up S w 26 t x) w n := by
  refine ⟨by rw [z_up_ne S x (by omega)]; exact h.1, h.2.1, fun t' ht => ?_⟩
  obtain ⟨h1, h2, h3⟩ := h.2.2 t' ht
  refine ⟨by rw [z_up_ne S x (by omega)]; exact h1, ?_, fun i hi => ⟨by rw [z_up_ne S x (by omega)]; exact (h3 i hi).1, by rw [z_up_ne S x (by omega)]; exact (h3 i hi).2⟩⟩
  by_cases q : t' = t
  · subst q; rw [z_up_at]; exact hx
  · rw [z_up_ne S x (by omega)]; exact h2
theorem z_ok.upO {S : zS} {w n : Nat} (h : z_ok S w n) (t r j : Nat) {x : Int32} (hr : r < 3) (h0 : r = 0 → inr x 7) (h1 : r = 1 → inr x 4) : z_ok (z_up S w (27 + 3 * t + r) j x) w n := by
  refine ⟨by rw [z_up_ne S x (by omega)]; exact h.1, h.2.1, fun t' ht => ?_⟩
  obtain ⟨g1, g2, g3⟩ := h.2.2 t' ht
  refine ⟨by rw [z_up_ne S x (by omega)]; exact g1, by rw [z_up_ne S x (by omega)]; exact g2, fun i hi => ⟨?_, ?_⟩⟩
  · by_cases q : 27 + 3 * t' + 0 = 27 + 3 * t + r ∧ i = j
    · obtain ⟨q1, q2⟩ := q; rw [q1, q2, z_up_at]; exact h0 (by omega)
    · rw [z_up_ne S x (by omega)]; exact (g3 i hi).1
  · by_cases q : 27 + 3 * t' + 1 = 27 + 3 * t + r ∧ i = j
    · obtain ⟨q1, q2⟩ := q; rw [q1, q2, z_up_at]; exact h1 (by omega)
    · rw [z_up_ne S x (by omega)]; exact (g3 i hi).2
/-- only the grid of siege w has changed -/
def gk (w : Nat) (S S' : zS) : Prop := ∀ w' k i, (w' ≠ w ∨ 12 ≤ k) → S' w' k i = S w' k i
theorem gk.rf {w : Nat} {S : zS} : gk w S S := fun _ _ _ _ => rfl
theorem gk.tr {w : Nat} {S S1 S2 : zS} (h1 : gk w S S1) (h2 : gk w S1 S2) : gk w S S2 := fun w' k i h => (h2 w' k i h).trans (h1 w' k i h)
theorem gk.up {w : Nat} {S S1 : zS} (h1 : gk w S S1) {k : Nat} (hk : k < 12) (i : Nat) (x : Int32) : gk w S (z_up S1 w k i x) := fun w' k' i' h => (z_up_ne S1 x (by omega)).trans (h1 w' k' i' h)
theorem gk.put {w : Nat} {S S1 : zS} (h1 : gk w S S1) {k : Nat} (hk : k < 12) (w2 k2 : Nat) : gk w S (z_cpA S1 w k w2 k2) := fun w' k' i' h => by
  have q : ¬ (w' = w ∧ k' = k) := by omega
  rw [← h1 w' k' i' h]; simp only [z_cpA, z_put, if_neg q]
theorem gk.ok {w n : Nat} {S S' : zS} (h : gk w S S') (hok : z_ok S w n) : z_ok S' w n := hok.same fun k i hk => h w k i (by omega)
theorem gk_empty {w : Nat} {S S1 : zS} (h : gk w S S1) (c : Nat) : gk w S (s_empty S1 w c) := ((((h.up (by omega) c 0).up (by omega) c 0).up (by omega) c 0).up (by omega) c 0).up (by omega) c 0
theorem gk_open {w : Nat} {S S1 : zS} (h : gk w S S1) (c : Nat) : gk w S (s_openTunnel S1 w c) := (gk_empty h c).up (by omega) c 1
theorem gk_earth {w : Nat} {S S1 : zS} (h : gk w S S1) (c : Nat) (x : Int32) : gk w S (s_makeEarth S1 w c x) := ((gk_empty h c).up (by omega) c 0).up (by omega) c x
theorem gk_gives {w : Nat} {S S1 : zS} (h : gk w S S1) (c : Nat) : gk w S (s_givesWay S1 w c).2 := by
  unfold s_givesWay
  split
  · exact h.up (by omega) _ _
  · split
    · exact h.up (by omega) _ _
    · exact h.up (by omega) _ _
theorem gk_fall0 {w : Nat} {S S1 : zS} (h : gk w S S1) (c : Nat) : gk w S (s_fallIn0 S1 w c) := ((gk_earth h c 2).up (by omega) _ _).up (by omega) _ _
theorem gk_fall {w : Nat} {S S1 : zS} (h : gk w S S1) (c : Nat) : gk w S (s_fallIn S1 w c) := by
  unfold s_fallIn
  split
  · split
    · exact ((gk_fall0 h c).up (by omega) _ _).up (by omega) _ _
    · exact (gk_fall0 h c).up (by omega) _ _
  · exact gk_fall0 h c
theorem gk_settle1 {w : Nat} {S S1 : zS} (h : gk w S S1) (c : Nat) : gk w S (s_settle1 S1 w c) := by
  unfold s_settle1
  split
  · exact h.up (by omega) _ _
  · split
    · exact gk_gives (h.up (by omega) _ _) c
    · exact gk_fall (gk_gives (h.up (by omega) _ _) c) c
theorem gk_settle {w : Nat} {S S1 : zS} (h : gk w S S1) : ∀ i, gk w S (s_settle S1 w i)
  | 0 => h
  | i + 1 => gk_settle1 (gk_settle h i) i
theorem gk_burn {w : Nat} {S S1 : zS} (h : gk w S S1) (c : Nat) : gk w S (s_burn S1 w c) := by
  unfold s_burn
  split
  · exact (h.up (by omega) _ _).up (by omega) _ _
  · exact h.up (by omega) _ _
theorem gk_burnN {w : Nat} {S S1 : zS} (h : gk w S S1) (c : Nat) : ∀ d, gk w S (s_burnN S1 w c d)
  | 0 => h
  | d + 1 => by
    show gk w S (s_burn1 (s_burnN S1 w c d) w c d)
    unfold s_burn1
    split
    · split
      · exact gk_burnN h c d
      · exact gk_burn (gk_burnN h c d) _
    · exact gk_burnN h c d
theorem gk_fireN {w : Nat} {S S1 : zS} (h : gk w S S1) (c : Nat) : ∀ d, gk w S (s_fireN S1 w c d)
  | 0 => gk_burn h c
  | d + 1 => by
    show gk w S (s_fire1 (s_fireN S1 w c d) w c d)
    unfold s_fire1
    split
    · split
      · exact gk_fireN h c d
      · exact gk_burnN (gk_burn (gk_fireN h c d) _) _ 4
    · exact gk_fireN h c d
theorem gk_smokeN {w : Nat} {S S1 : zS} (h : gk w S S1) : ∀ i, gk w S (s_smokeN S1 w i)
  | 0 => h.put (by omega) w 5
  | i + 1 => by
    show gk w S (s_smoke1 (s_smokeN S1 w i) w i)
    unfold s_smoke1
    split
    · exact gk_smokeN h i
    · exact (gk_smokeN h i).up (by omega) _ _
theorem gk_smoke {w : Nat} {S S1 : zS} (h : gk w S S1) : gk w S (s_smoke S1 w) := by
  unfold s_smoke
  split
  · exact h
  · exact gk_smokeN h 144
/-! the siege -/
def s_hasTeam (S : zS) (w : Nat) (x : Int32) : Int32 := if x < 0 then 0 else if x < S w 12 0 then 1 else 0
def s_left (S : zS) (w : Nat) (x : Int32) : Nat → Int32
  | 0 => 0
  | t + 1 => if S w 14 t = x then (if s_isGone S w t = 0 then s_left S w x t + 1 else s_left S w x t) else s_left S w x t
def s_see1 (S : zS) (w a t : Nat) : Bool := !decide (S w 14 t = S w 14 a) && (decide (s_isGone S w t = 0) && !decide (s_isNear (cl (S w 15 a)) (cl (S w 15 t)) = 0))
def s_seeN (S : zS) (w a : Nat) : Nat → Bool
  | 0 => false
  | t + 1 => s_seeN S w a t || s_see1 S w a t
theorem s_seeN_of {S : zS} {w a t : Nat} (h : s_see1 S w a t = true) : ∀ n, t < n → s_seeN S w a n = true
  | 0, q => absurd q (Nat.not_lt_zero t)
  | n + 1, q => by
    show (s_seeN S w a n || s_see1 S w a n) = true
    rcases Nat.lt_or_ge t n with q1 | q1
    · rw [s_seeN_of h n q1]; rfl
    · rw [show n = t by omega, h, Bool.or_true]
def s_sees (S : zS) (w a n : Nat) : Int32 := if s_seeN S w a n = true then 1 else 0
def s_best1 (S : zS) (w c d b : Nat) : Nat := if nbb c d = true then (if s_isTunnel S w (nbn c d) = 0 then b else if S w 5 (nbn c d) < S w 5 b then nbn c d else b) else b
def s_bestN (S : zS) (w c : Nat) : Nat → Nat
  | 0 => c
  | d + 1 => s_best1 S w c d (s_bestN S w c d)
theorem s_bestN_lt {S : zS} {w c : Nat} (hc : c < 144) : ∀ d, s_bestN S w c d < 144
  | 0 => hc
  | d + 1 => by
    show s_best1 S w c d (s_bestN S w c d) < 144
    have ih := s_bestN_lt (S := S) (w := w) hc d
    unfold s_best1
    split
    · rename_i h
      split
      · exact ih
      · split
        · exact nbn_lt hc h
        · exact ih
    · exact ih
def s_choke0 (S : zS) (w t : Nat) : zS := s_lose (z_up S w 19 t 1) w t 1
def s_choke (S : zS) (w t : Nat) : zS := if s_isGone (s_choke0 S w t) w t = 0 then z_up (s_choke0 S w t) w 15 t (nI (s_bestN (s_choke0 S w t) w (cl (S w 15 t)) 4)) else s_choke0 S w t
def s_dig1 (S : zS) (w t m : Nat) : zS := z_up S w 6 m (S w 6 m + S w 17 t)
def s_dig2 (S : zS) (w t m : Nat) : zS :=
  if s_isRock S w m = 0 then
    (if s_isTunnel S w m = 0 then (if 0 < s_workLeft (s_dig1 S w t m) w m then s_dig1 S w t m else s_countFirst (z_up (s_openTunnel (s_dig1 S w t m) w m) w 15 t (nI m)) w t)
     else s_countFirst (z_up S w 15 t (nI m)) w t)
  else s_missFirst S w t
def s_dig (S : zS) (w t : Nat) : zS := if nbb (cl (S w 15 t)) (cl (S w (27 + 3 * t + 1) 0)) = true then s_dig2 S w t (nbn (cl (S w 15 t)) (cl (S w (27 + 3 * t + 1) 0))) else s_missFirst S w t
def s_go2 (S : zS) (w t m : Nat) : zS := if s_isTunnel S w m = 0 then s_missFirst S w t else s_countFirst (z_up S w 15 t (nI m)) w t
def s_go (S : zS) (w t : Nat) : zS := if nbb (cl (S w 15 t)) (cl (S w (27 + 3 * t + 1) 0)) = true then s_go2 S w t (nbn (cl (S w 15 t)) (cl (S w (27 + 3 * t + 1) 0))) else s_missFirst S w t
def s_prop (S : zS) (w t : Nat) : zS := if S w 3 (cl (S w 15 t)) < 3 then s_countFirst (z_up S w 3 (cl (S w 15 t)) (S w 3 (cl (S w 15 t)) + 1)) w t else s_missFirst S w t
def s_carry1 (S : zS) (w t k : Nat) : zS :=
  if k = 1 then s_dig S w t else if k = 2 then s_go S w t else if k = 3 then s_prop S w t else if k = 4 then s_countFirst (z_up S w 22 t 1) w t
  else if k = 5 then s_countFirst (z_up S w 5 (cl (S w 15 t)) 9) w t else if k = 6 then s_countFirst (s_fire S w (cl (S w 15 t))) w t else s_countFirst S w t
def s_carry (S : zS) (w t : Nat) : zS := s_carry1 (z_up S w 19 t (z_noise (cl (S w (27 + 3 * t + 0) 0)))) w t (cl (S w (27 + 3 * t + 0) 0))
def s_act2 (S : zS) (w n t : Nat) : zS :=
  if s_isGone S w t = 0 then
    (if s_sees S w t n = 0 then (if S w 5 (cl (S w 15 t)) < 6 then (if 0 < S w 26 t then s_carry S w t else S) else s_choke S w t)
     else z_up (z_up S w 21 t 1) w 19 t 6)
  else S
def s_act (S : zS) (w n : Nat) : Nat → zS
  | 0 => S
  | t + 1 => s_act2 (s_begin (s_act S w n t) w t) w n t
def s_foe1 (S : zS) (w a t : Nat) (q : Int32) : Int32 := if S w 14 t = S w 14 a then q else if S w 21 t = 0 then q else if s_isNear (cl (S w 15 a)) (cl (S w 15 t)) = 0 then q else q + 1
def s_foes (S : zS) (w a : Nat) : Nat → Int32
  | 0 => 0
  | t + 1 => s_foe1 S w a t (s_foes S w a t)
def z_min3 (x : Int32) : Int32 := if x < 3 then x else 3
def s_loss1 (S : zS) (w n t : Nat) : zS := if S w 21 t = 0 then S else z_up S w 20 t (z_min3 (s_foes S w t n))
def s_loss (S : zS) (w n : Nat) : Nat → zS
  | 0 => S
  | t + 1 => s_loss1 (s_loss S w n t) w n t
def s_hurt (S : zS) (w : Nat) : Nat → zS
  | 0 => S
  | t + 1 => s_lose (s_hurt S w t) w t (s_hurt S w t w 20 t)
def s_fight (S : zS) (w n : Nat) : zS := s_hurt (s_loss S w n n) w n
def z_dirTo (a b : Nat) : Int32 :=
  if z_abs (nI (b / 12) - nI (a / 12)) < z_abs (nI (b % 12) - nI (a % 12)) then (if 0 < nI (b % 12) - nI (a % 12) then 1 else 3) else (if 0 < nI (b / 12) - nI (a / 12) then 2 else 0)
def s_loud (S : zS) (w a t : Nat) : Int32 := 2 * S w 19 t + 3 - z_dist (cl (S w 15 a)) (cl (S w 15 t))
def s_lis1 (S : zS) (w a t : Nat) (q : Int32 × Int32) : Int32 × Int32 :=
  if S w 14 t = S w 14 a then q else if 0 < S w 19 t then (if q.1 < s_loud S w a t then (s_loud S w a t, nI (cl (S w 15 t))) else q) else q
def s_lisN (S : zS) (w a : Nat) : Nat → Int32 × Int32
  | 0 => (0, -1)
  | t + 1 => s_lis1 S w a t (s_lisN S w a t)
theorem s_lisN_in {S : zS} {w a n : Nat} (hok : z_ok S w n) : ∀ t, t ≤ n → (s_lisN S w a t).2 = -1 ∨ inr (s_lisN S w a t).2 144
  | 0, _ => Or.inl rfl
  | t + 1, ht => by
    have ih := s_lisN_in (a := a) hok t (by omega)
    show (s_lis1 S w a t (s_lisN S w a t)).2 = -1 ∨ inr (s_lis1 S w a t (s_lisN S w a t)).2 144
    unfold s_lis1
    split
    · exact ih
    · split
      · split
        · exact Or.inr (inr_nI (hok.2.2 t (by have := hok.2.1; omega)).1.2 (by decide))
        · exact ih
      · exact ih
def s_listen (S : zS) (w a n : Nat) : zS := if (s_lisN S w a n).2 < 0 then S else s_remember S w a (S w 13 0) (z_dirTo (cl (S w 15 a)) (cl (s_lisN S w a n).2)) (s_lisN S w a n).1
def s_hear1 (S : zS) (w n t : Nat) : zS := if S w 22 t = 0 then S else if s_isGone S w t = 0 then s_listen S w t n else S
def s_hear (S : zS) (w n : Nat) : Nat → zS
  | 0 => S
  | t + 1 => s_hear1 (s_hear S w n t) w n t
def s_bury1 (S : zS) (w t : Nat) : zS := if S w 8 (cl (S w 15 t)) = 0 then S else z_up S w 16 t 0
def s_bury (S : zS) (w : Nat) : Nat → zS
  | 0 => S
  | t + 1 => s_bury1 (s_bury S w t) w t
def s_h1 (S : zS) (w n : Nat) : zS := s_act S w n n
def s_h2 (S : zS) (w n : Nat) : zS := s_fight (s_h1 S w n) w n
def s_h3 (S : zS) (w n : Nat) : zS := s_hear (s_h2 S w n) w n n
def s_h4 (S : zS) (w n : Nat) : zS := s_smoke (s_h3 S w n) w
def s_h5 (S : zS) (w n : Nat) : zS := s_settle (s_h4 S w n) w 144
def s_h6 (S : zS) (w n : Nat) : zS := s_bury (s_h5 S w n) w n
def s_hour (S : zS) (w n : Nat) : zS := z_up (s_h6 S w n) w 13 0 (s_h6 S w n w 13 0 + 1)
def s_hours (S : zS) (w n : Nat) : Nat → zS
  | 0 => S
  | i + 1 => s_hour (s_hours S w n i) w n
/-! the numbers keep their ranges -/
theorem ok_lose {S : zS} {w n : Nat} (h : z_ok S w n) (t : Nat) (x : Int32) : z_ok (s_lose S w t x) w n := h.up _ _ _ (by omega)
theorem ok_begin {S : zS} {w n : Nat} (h : z_ok S w n) (t : Nat) : z_ok (s_begin S w t) w n := (((h.up _ _ _ (by omega)).up _ _ _ (by omega)).up _ _ _ (by omega)).up _ _ _ (by omega)
theorem ok_remember {S : zS} {w n : Nat} (h : z_ok S w n) (t : Nat) (a b c : Int32) : z_ok (s_remember S w t a b c) w n := ((h.up _ _ _ (by omega)).up _ _ _ (by omega)).up _ _ _ (by omega)
theorem ok_shift {S : zS} {w n t : Nat} (h : z_ok S w n) (ht : t < 8) : ∀ i, i ≤ 11 → z_ok (s_shift S w t i) w n
  | 0, _ => h
  | i + 1, hi => by
    have ih := ok_shift h ht i (by omega)
    obtain ⟨g1, g2⟩ := (ih.2.2 t ht).2.2 (i + 1) (by omega)
    exact ((ih.upO t 0 i (by omega) (fun _ => g1) (fun q => absurd q (by omega))).upO t 1 i (by omega) (fun q => absurd q (by omega)) (fun _ => g2)).upO t 2 i (by omega) (fun q => absurd q (by omega)) (fun q => absurd q (by omega))
theorem shift_26 (S : zS) (w t : Nat) : ∀ i, s_shift S w t i w 26 t = S w 26 t
  | 0 => rfl
  | i + 1 => by
    show z_up (z_up (z_up (s_shift S w t i) w (27 + 3 * t + 0) i _) w (27 + 3 * t + 1) i _) w (27 + 3 * t + 2) i _ w 26 t = _
    rw [z_up_ne _ _ (by omega), z_up_ne _ _ (by omega), z_up_ne _ _ (by omega)]
    exact shift_26 S w t i
theorem ok_drop {S : zS} {w n t : Nat} (h : z_ok S w n) (ht : t < 8) (hp : 0 < S w 26 t) : z_ok (s_drop S w t) w n := by
  refine (ok_shift h ht 11 (by omega)).up26 t ?_
  rw [shift_26]
  obtain ⟨e, he⟩ := (h.2.2 t ht).2.1
  have h1 : 0 < cl (S w 26 t) := by
    rcases Nat.eq_zero_or_pos (cl (S w 26 t)) with q | q
    · rw [q] at e; rw [e] at hp; exact absurd hp (by decide)
    · exact q
  have h2 : S w 26 t - 1 = nI (cl (S w 26 t) - 1) := by
    rw [e, cl_nI (by omega)]
    exact pk_sub (a := cl (S w 26 t)) (b := 1) (by omega)
  rw [h2]
  exact inr_nI (by omega) (by decide)
theorem ok_countFirst {S : zS} {w n t : Nat} (h : z_ok S w n) (ht : t < 8) (hp : 0 < S w 26 t) : z_ok (s_countFirst S w t) w n := by
  have h1 := h.upO t 2 0 (x := S w (27 + 3 * t + 2) 0 - 1) (by omega) (fun q => absurd q (by omega)) (fun q => absurd q (by omega))
  unfold s_countFirst
  split
  · exact h1
  · exact ok_drop h1 ht (by rw [z_up_ne _ _ (by omega)]; exact hp)
theorem ok_missFirst {S : zS} {w n t : Nat} (h : z_ok S w n) (ht : t < 8) (hp : 0 < S w 26 t) : z_ok (s_missFirst S w t) w n :=
  ok_drop (h.up 18 t _ (by omega)) ht (by rw [z_up_ne _ _ (by omega)]; exact hp)
theorem ok_choke {S : zS} {w n t : Nat} (h : z_ok S w n) (ht : t < 8) : z_ok (s_choke S w t) w n := by
  have h1 : z_ok (s_choke0 S w t) w n := ok_lose (h.up _ _ _ (by omega)) t 1
  unfold s_choke
  split
  · exact h1.up15 t (inr_nI (s_bestN_lt (h.2.2 t ht).1.2 4) (by decide))
  · exact h1
theorem ok_dig {S : zS} {w n t : Nat} (h : z_ok S w n) (ht : t < 8) (hp : 0 < S w 26 t) : z_ok (s_dig S w t) w n := by
  unfold s_dig
  split
  · rename_i hb
    have hm : nbn (cl (S w 15 t)) (cl (S w (27 + 3 * t + 1) 0)) < 144 := nbn_lt (h.2.2 t ht).1.2 hb
    have h1 : z_ok (s_dig1 S w t (nbn (cl (S w 15 t)) (cl (S w (27 + 3 * t + 1) 0)))) w n := h.up _ _ _ (by omega)
    unfold s_dig2
    split
    · split
      · split
        · exact h1
        · refine ok_countFirst (((gk_open gk.rf _).ok h1).up15 t (inr_nI hm (by decide))) ht ?_
          rw [z_up_ne _ _ (by omega), (gk_open gk.rf _) w 26 t (by omega)]
          show 0 < z_up S w 6 _ _ w 26 t
          rw [z_up_ne _ _ (by omega)]; exact hp
      · exact ok_countFirst (h.up15 t (inr_nI hm (by decide))) ht (by rw [z_up_ne _ _ (by omega)]; exact hp)
    · exact ok_missFirst h ht hp
  · exact ok_missFirst h ht hp
theorem ok_go {S : zS} {w n t : Nat} (h : z_ok S w n) (ht : t < 8) (hp : 0 < S w 26 t) : z_ok (s_go S w t) w n := by
  unfold s_go
  split
  · rename_i hb
    have hm : nbn (cl (S w 15 t)) (cl (S w (27 + 3 * t + 1) 0)) < 144 := nbn_lt (h.2.2 t ht).1.2 hb
    unfold s_go2
    split
    · exact ok_missFirst h ht hp
    · exact ok_countFirst (h.up15 t (inr_nI hm (by decide))) ht (by rw [z_up_ne _ _ (by omega)]; exact hp)
  · exact ok_missFirst h ht hp
theorem ok_prop {S : zS} {w n t : Nat} (h : z_ok S w n) (ht : t < 8) (hp : 0 < S w 26 t) : z_ok (s_prop S w t) w n := by
  unfold s_prop
  split
  · exact ok_countFirst (h.up _ _ _ (by omega)) ht (by rw [z_up_ne _ _ (by omega)]; exact hp)
  · exact ok_missFirst h ht hp
theorem ok_carry {S : zS} {w n t : Nat} (h : z_ok S w n) (ht : t < 8) (hp : 0 < S w 26 t) : z_ok (s_carry S w t) w n := by
  unfold s_carry
  generalize cl (S w (27 + 3 * t + 0) 0) = k
  have h1 : z_ok (z_up S w 19 t (z_noise k)) w n := h.up _ _ _ (by omega)
  have hp1 : 0 < z_up S w 19 t (z_noise k) w 26 t := by rw [z_up_ne _ _ (by omega)]; exact hp
  generalize z_up S w 19 t (z_noise k) = S1 at h1 hp1 ⊢
  unfold s_carry1
  split
  · exact ok_dig h1 ht hp1
  · split
    · exact ok_go h1 ht hp1
    · split
      · exact ok_prop h1 ht hp1
      · split
        · exact ok_countFirst (h1.up _ _ _ (by omega)) ht (by rw [z_up_ne _ _ (by omega)]; exact hp1)
        · split
          · exact ok_countFirst (h1.up _ _ _ (by omega)) ht (by rw [z_up_ne _ _ (by omega)]; exact hp1)
          · split
            · exact ok_countFirst ((gk_fireN gk.rf _ 4).ok h1) ht (by show 0 < s_fireN S1 w _ 4 w 26 t; rw [(gk_fireN gk.rf _ 4) w 26 t (by omega)]; exact hp1)
            · exact ok_countFirst h1 ht hp1
theorem ok_act2 {S : zS} {w n t : Nat} (h : z_ok S w n) (ht : t < 8) : z_ok (s_act2 S w n t) w n := by
  unfold s_act2
  split
  · split
    · split
      · split
        · rename_i hp; exact ok_carry h ht hp
        · exact h
      · exact ok_choke h ht
    · exact (h.up _ _ _ (by omega)).up _ _ _ (by omega)
  · exact h
theorem ok_act {S : zS} {w n : Nat} (h : z_ok S w n) : ∀ t, t ≤ 8 → z_ok (s_act S w n t) w n
  | 0, _ => h
  | t + 1, ht => ok_act2 (ok_begin (ok_act h t (by omega)) t) (by omega)
theorem ok_loss {S : zS} {w n : Nat} (h : z_ok S w n) : ∀ t, z_ok (s_loss S w n t) w n
  | 0 => h
  | t + 1 => by
    show z_ok (s_loss1 (s_loss S w n t) w n t) w n
    unfold s_loss1
    split
    · exact ok_loss h t
    · exact (ok_loss h t).up _ _ _ (by omega)
theorem ok_hurt {S : zS} {w n : Nat} (h : z_ok S w n) : ∀ t, z_ok (s_hurt S w t) w n
  | 0 => h
  | t + 1 => ok_lose (ok_hurt h t) t _
theorem ok_fight {S : zS} {w n : Nat} (h : z_ok S w n) : z_ok (s_fight S w n) w n := ok_hurt (ok_loss h n) n
theorem ok_listen {S : zS} {w n : Nat} (h : z_ok S w n) (a : Nat) : z_ok (s_listen S w a n) w n := by
  unfold s_listen
  split
  · exact h
  · exact ok_remember h a _ _ _
theorem ok_hear {S : zS} {w n : Nat} (h : z_ok S w n) : ∀ t, z_ok (s_hear S w n t) w n
  | 0 => h
  | t + 1 => by
    show z_ok (s_hear1 (s_hear S w n t) w n t) w n
    unfold s_hear1
    split
    · exact ok_hear h t
    · split
      · exact ok_listen (ok_hear h t) t
      · exact ok_hear h t
theorem ok_bury {S : zS} {w n : Nat} (h : z_ok S w n) : ∀ t, z_ok (s_bury S w t) w n
  | 0 => h
  | t + 1 => by
    show z_ok (s_bury1 (s_bury S w t) w t) w n
    unfold s_bury1
    split
    · exact ok_bury h t
    · exact (ok_bury h t).up _ _ _ (by omega)
theorem ok_h1 {S : zS} {w n : Nat} (h : z_ok S w n) : z_ok (s_h1 S w n) w n := ok_act h n h.2.1
theorem ok_h2 {S : zS} {w n : Nat} (h : z_ok S w n) : z_ok (s_h2 S w n) w n := ok_fight (ok_h1 h)
theorem ok_h3 {S : zS} {w n : Nat} (h : z_ok S w n) : z_ok (s_h3 S w n) w n := ok_hear (ok_h2 h) n
theorem ok_h4 {S : zS} {w n : Nat} (h : z_ok S w n) : z_ok (s_h4 S w n) w n := (gk_smoke gk.rf).ok (ok_h3 h)
theorem ok_h5 {S : zS} {w n : Nat} (h : z_ok S w n) : z_ok (s_h5 S w n) w n := (gk_settle gk.rf 144).ok (ok_h4 h)
theorem ok_h6 {S : zS} {w n : Nat} (h : z_ok S w n) : z_ok (s_h6 S w n) w n := ok_bury (ok_h5 h) n
theorem ok_hour {S : zS} {w n : Nat} (h : z_ok S w n) : z_ok (s_hour S w n) w n := (ok_h6 h).up _ _ _ (by omega)
theorem ok_hours {S : zS} {w n : Nat} (h : z_ok S w n) : ∀ i, z_ok (s_hours S w n i) w n
  | 0 => h
  | i + 1 => ok_hour (ok_hours h i)
end ZM3
