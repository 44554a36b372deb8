section ZP1
/-- the places of a siege of n teams that its hours rest on -/
def zP (n k i : Nat) : Prop := k < 8 ∨ (10 ≤ k ∧ k < 14 ∧ i = 0) ∨ (14 ≤ k ∧ k < 27 ∧ i < n) ∨ (27 ≤ k ∧ k < 27 + 3 * n)
/-- two sieges are alike at Q, and Q holds those places -/
def zE (n : Nat) (Q : Nat → Nat → Prop) (S : zS) (w : Nat) (S' : zS) (w' : Nat) : Prop := (∀ k i, zP n k i → Q k i) ∧ ∀ k i, Q k i → S w k i = S' w' k i
variable {n : Nat} {Q : Nat → Nat → Prop} {S S' : zS} {w w' : Nat}
theorem zE.g (h : zE n Q S w S' w') (k : Nat) (hk : k < 8) (i : Nat) : S w k i = S' w' k i := h.2 k i (h.1 k i (Or.inl hk))
theorem zE.s (h : zE n Q S w S' w') (k : Nat) (h1 : 10 ≤ k) (h2 : k < 14) : S w k 0 = S' w' k 0 := h.2 k 0 (h.1 k 0 (Or.inr (Or.inl ⟨h1, h2, rfl⟩)))
theorem zE.t (h : zE n Q S w S' w') (k : Nat) (h1 : 14 ≤ k) (h2 : k < 27) {t : Nat} (ht : t < n) : S w k t = S' w' k t := h.2 k t (h.1 k t (Or.inr (Or.inr (Or.inl ⟨h1, h2, ht⟩))))
theorem zE.o (h : zE n Q S w S' w') (r : Nat) (hr : r < 3) {t : Nat} (ht : t < n) (i : Nat) : S w (27 + 3 * t + r) i = S' w' (27 + 3 * t + r) i := h.2 _ i (h.1 _ i (Or.inr (Or.inr (Or.inr ⟨by omega, by omega⟩))))
theorem zE.up (h : zE n Q S w S' w') (k i : Nat) {x x' : Int32} (e : x = x') : zE n Q (z_up S w k i x) w (z_up S' w' k i x') w' := by
  subst e
  refine ⟨h.1, fun k' i' q => ?_⟩
  by_cases c : k' = k ∧ i' = i
  · obtain ⟨rfl, rfl⟩ := c; rw [z_up_at, z_up_at]
  · rw [z_up_ne _ _ (by omega), z_up_ne _ _ (by omega)]; exact h.2 k' i' q
theorem zE.add (h : zE n Q S w S' w') (k i : Nat) {x x' : Int32} (e : x = x') : zE n (fun k' i' => Q k' i' ∨ (k' = k ∧ i' = i)) (z_up S w k i x) w (z_up S' w' k i x') w' := by
  subst e
  refine ⟨fun k' i' q => Or.inl (h.1 k' i' q), fun k' i' q => ?_⟩
  by_cases c : k' = k ∧ i' = i
  · obtain ⟨rfl, rfl⟩ := c; rw [z_up_at, z_up_at]
  · rw [z_up_ne _ _ (by omega), z_up_ne _ _ (by omega)]
    rcases q with q | q
    · exact h.2 k' i' q
    · exact absurd q c
theorem zE.wk {Q' : Nat → Nat → Prop} (h : zE n Q S w S' w') (h1 : ∀ k i, zP n k i → Q' k i) (h2 : ∀ k i, Q' k i → Q k i) : zE n Q' S w S' w' := ⟨h1, fun k i q => h.2 k i (h2 k i q)⟩
theorem e_isRock (h : zE n Q S w S' w') (c : Nat) : s_isRock S w c = s_isRock S' w' c := by unfold s_isRock; rw [h.g 0 (by decide) c]
theorem e_isTunnel (h : zE n Q S w S' w') (c : Nat) : s_isTunnel S w c = s_isTunnel S' w' c := by unfold s_isTunnel; rw [h.g 2 (by decide) c]
theorem e_workLeft (h : zE n Q S w S' w') (c : Nat) : s_workLeft S w c = s_workLeft S' w' c := by unfold s_workLeft; rw [h.g 0 (by decide) c, h.g 6 (by decide) c]
theorem e_isGone (h : zE n Q S w S' w') {t : Nat} (ht : t < n) : s_isGone S w t = s_isGone S' w' t := by unfold s_isGone; rw [h.t 16 (by decide) (by decide) ht]
theorem e_empty (h : zE n Q S w S' w') (c : Nat) : zE n Q (s_empty S w c) w (s_empty S' w' c) w' := ((((h.up 3 c rfl).up 4 c rfl).up 5 c rfl).up 6 c rfl).up 7 c rfl
theorem e_open (h : zE n Q S w S' w') (c : Nat) : zE n Q (s_openTunnel S w c) w (s_openTunnel S' w' c) w' := (e_empty h c).up 2 c rfl
theorem e_earth (h : zE n Q S w S' w') (c : Nat) (x : Int32) : zE n Q (s_makeEarth S w c x) w (s_makeEarth S' w' c x) w' := ((e_empty h c).up 2 c rfl).up 0 c rfl
theorem e_need (h : zE n Q S w S' w') (c : Nat) : s_need S w c = s_need S' w' c := by unfold s_need; rw [h.g 0 (by decide) c]
theorem e_gives1 (h : zE n Q S w S' w') (c : Nat) : (s_givesWay S w c).1 = (s_givesWay S' w' c).1 := by
  unfold s_givesWay
  rw [h.g 7 (by decide) c, h.g 3 (by decide) c, e_need h c, h.g 0 (by decide) c, h.g 4 (by decide) c]
  split
  · rfl
  · split <;> rfl
theorem e_gives2 (h : zE n Q S w S' w') (c : Nat) : zE n Q (s_givesWay S w c).2 w (s_givesWay S' w' c).2 w' := by
  unfold s_givesWay
  rw [h.g 7 (by decide) c, h.g 3 (by decide) c, e_need h c, h.g 0 (by decide) c, h.g 4 (by decide) c]
  split
  · exact h.up 7 c rfl
  · split
    · exact h.up 4 c rfl
    · exact h.up 4 c rfl
theorem e_fall0 (h : zE n Q S w S' w') (c : Nat) : zE n Q (s_fallIn0 S w c) w (s_fallIn0 S' w' c) w' :=
  ((e_earth h c 2).up 8 c rfl).up 10 0 (by rw [(e_earth h c 2).s 10 (by decide) (by decide)])
theorem e_fall (h : zE n Q S w S' w') (c : Nat) : zE n Q (s_fallIn S w c) w (s_fallIn S' w' c) w' := by
  unfold s_fallIn
  rw [(e_earth h c 2).g 1 (by decide) c, (e_earth h c 2).s 11 (by decide) (by decide)]
  split
  · split
    · exact ((e_fall0 h c).up 1 c rfl).up 11 0 rfl
    · exact (e_fall0 h c).up 1 c rfl
  · exact e_fall0 h c
theorem e_settle1 (h : zE n Q S w S' w') (c : Nat) : zE n (fun k i => Q k i ∨ (k = 8 ∧ i = c)) (s_settle1 S w c) w (s_settle1 S' w' c) w' := by
  have h1 := h.add 8 c (x := 0) rfl
  unfold s_settle1
  rw [e_isTunnel h1 c, e_gives1 h1 c]
  split
  · exact h1
  · split
    · exact e_gives2 h1 c
    · exact e_fall (e_gives2 h1 c) c
theorem e_settle (h : zE n Q S w S' w') : ∀ i, zE n (fun k j => Q k j ∨ (k = 8 ∧ j < i)) (s_settle S w i) w (s_settle S' w' i) w'
  | 0 => h.wk (fun k j q => Or.inl (h.1 k j q)) (fun k j q => by rcases q with q | q; exact q; omega)
  | i + 1 => (e_settle1 (e_settle h i) i).wk (fun k j q => Or.inl (h.1 k j q)) (fun k j q => by
      rcases q with q | q
      · exact Or.inl (Or.inl q)
      · by_cases c : j = i
        · exact Or.inr ⟨q.1, c⟩
        · exact Or.inl (Or.inr ⟨q.1, by omega⟩))
theorem e_burn (h : zE n Q S w S' w') (c : Nat) : zE n Q (s_burn S w c) w (s_burn S' w' c) w' := by
  unfold s_burn
  rw [h.g 7 (by decide) c]
  split
  · exact (h.up 3 c rfl).up 7 c rfl
  · exact h.up 3 c rfl
theorem e_burnN (h : zE n Q S w S' w') (c : Nat) : ∀ d, zE n Q (s_burnN S w c d) w (s_burnN S' w' c d) w'
  | 0 => h
  | d + 1 => by
    have ih := e_burnN h c d
    show zE n Q (s_burn1 (s_burnN S w c d) w c d) w (s_burn1 (s_burnN S' w' c d) w' c d) w'
    unfold s_burn1
    rw [e_isTunnel ih]
    split
    · split
      · exact ih
      · exact e_burn ih _
    · exact ih
theorem e_fireN (h : zE n Q S w S' w') (c : Nat) : ∀ d, zE n Q (s_fireN S w c d) w (s_fireN S' w' c d) w'
  | 0 => e_burn h c
  | d + 1 => by
    have ih := e_fireN h c d
    show zE n Q (s_fire1 (s_fireN S w c d) w c d) w (s_fire1 (s_fireN S' w' c d) w' c d) w'
    unfold s_fire1
    rw [e_isTunnel ih]
    split
    · split
      · exact ih
      · exact e_burnN (e_burn ih _) _ 4
    · exact ih
theorem e_avgN (h : zE n Q S w S' w') (hq : ∀ i, Q 9 i) (c : Nat) : ∀ d, s_avgN S w c d = s_avgN S' w' c d
  | 0 => by show (S w 9 c, 1) = (S' w' 9 c, 1); rw [h.2 9 c (hq c)]
  | d + 1 => by
    show s_avg1 S w c d (s_avgN S w c d) = s_avg1 S' w' c d (s_avgN S' w' c d)
    rw [e_avgN h hq c d]
    unfold s_avg1
    rw [e_isTunnel h, h.2 9 _ (hq _)]
theorem e_smoke1 (h : zE n Q S w S' w') (hq : ∀ i, Q 9 i) (c : Nat) : zE n Q (s_smoke1 S w c) w (s_smoke1 S' w' c) w' := by
  unfold s_smoke1 s_avg
  rw [e_isTunnel h, e_avgN h hq c 4]
  split
  · exact h
  · exact h.up 5 c rfl
theorem e_smokeN (h : zE n Q S w S' w') : ∀ i, zE n (fun k j => Q k j ∨ k = 9) (s_smokeN S w i) w (s_smokeN S' w' i) w'
  | 0 => by
    refine ⟨fun k j q => Or.inl (h.1 k j q), fun k j q => ?_⟩
    show z_cpA S w 9 w 5 w k j = z_cpA S' w' 9 w' 5 w' k j
    by_cases c : k = 9
    · subst c; rw [z_cp_at, z_cp_at]; exact h.g 5 (by decide) j
    · rw [z_cp_ne _ (by omega), z_cp_ne _ (by omega)]
      rcases q with q | q
      · exact h.2 k j q
      · exact absurd q c
  | i + 1 => e_smoke1 (e_smokeN h i) (fun _ => Or.inr rfl) i
theorem e_row (h : zE n Q S w S' w') (k : Nat) (hk : k < 8) : S w k = S' w' k := funext fun i => h.g k hk i
theorem e_smoke (h : zE n Q S w S' w') : zE n Q (s_smoke S w) w (s_smoke S' w') w' := by
  unfold s_smoke s_allSmoke
  rw [e_row h 5 (by decide)]
  split
  · exact h
  · exact (e_smokeN h 144).wk h.1 (fun k i q => Or.inl q)
theorem e_left (h : zE n Q S w S' w') (x : Int32) : ∀ t, t ≤ n → s_left S w x t = s_left S' w' x t
  | 0, _ => rfl
  | t + 1, ht => by
    have ih := e_left h x t (by omega)
    show (if S w 14 t = x then (if s_isGone S w t = 0 then s_left S w x t + 1 else s_left S w x t) else s_left S w x t) = _
    rw [ih, h.t 14 (by decide) (by decide) (by omega), e_isGone h (by omega)]
    rfl
theorem e_see1 (h : zE n Q S w S' w') {a t : Nat} (ha : a < n) (ht : t < n) : s_see1 S w a t = s_see1 S' w' a t := by
  unfold s_see1
  rw [h.t 14 (by decide) (by decide) ht, h.t 14 (by decide) (by decide) ha, e_isGone h ht, h.t 15 (by decide) (by decide) ht, h.t 15 (by decide) (by decide) ha]
theorem e_seeN (h : zE n Q S w S' w') {a : Nat} (ha : a < n) : ∀ t, t ≤ n → s_seeN S w a t = s_seeN S' w' a t
  | 0, _ => rfl
  | t + 1, ht => by
    show (s_seeN S w a t || s_see1 S w a t) = (s_seeN S' w' a t || s_see1 S' w' a t)
    rw [e_seeN h ha t (by omega), e_see1 h ha (by omega)]
theorem e_sees (h : zE n Q S w S' w') {a : Nat} (ha : a < n) : s_sees S w a n = s_sees S' w' a n := by unfold s_sees; rw [e_seeN h ha n (Nat.le_refl n)]
theorem e_bestN (h : zE n Q S w S' w') (c : Nat) : ∀ d, s_bestN S w c d = s_bestN S' w' c d
  | 0 => rfl
  | d + 1 => by
    show s_best1 S w c d (s_bestN S w c d) = s_best1 S' w' c d (s_bestN S' w' c d)
    rw [e_bestN h c d]
    unfold s_best1
    rw [e_isTunnel h, e_row h 5 (by decide)]
theorem e_lose (h : zE n Q S w S' w') {t : Nat} (ht : t < n) {x x' : Int32} (e : x = x') : zE n Q (s_lose S w t x) w (s_lose S' w' t x') w' :=
  h.up 16 t (by rw [h.t 16 (by decide) (by decide) ht, e])
theorem e_choke0 (h : zE n Q S w S' w') {t : Nat} (ht : t < n) : zE n Q (s_choke0 S w t) w (s_choke0 S' w' t) w' := e_lose (h.up 19 t rfl) ht rfl
theorem e_choke (h : zE n Q S w S' w') {t : Nat} (ht : t < n) : zE n Q (s_choke S w t) w (s_choke S' w' t) w' := by
  unfold s_choke
  rw [e_isGone (e_choke0 h ht) ht, e_bestN (e_choke0 h ht), h.t 15 (by decide) (by decide) ht]
  split
  · exact (e_choke0 h ht).up 15 t rfl
  · exact e_choke0 h ht
theorem e_shift (h : zE n Q S w S' w') {t : Nat} (ht : t < n) : ∀ i, zE n Q (s_shift S w t i) w (s_shift S' w' t i) w'
  | 0 => h
  | i + 1 => by
    have ih := e_shift h ht i
    exact ((ih.up _ i (ih.o 0 (by decide) ht _)).up _ i (ih.o 1 (by decide) ht _)).up _ i (ih.o 2 (by decide) ht _)
theorem e_drop (h : zE n Q S w S' w') {t : Nat} (ht : t < n) : zE n Q (s_drop S w t) w (s_drop S' w' t) w' :=
  (e_shift h ht 11).up 26 t (by rw [(e_shift h ht 11).t 26 (by decide) (by decide) ht])
theorem e_countFirst (h : zE n Q S w S' w') {t : Nat} (ht : t < n) : zE n Q (s_countFirst S w t) w (s_countFirst S' w' t) w' := by
  unfold s_countFirst
  rw [h.o 2 (by decide) ht]
  split
  · exact h.up _ 0 rfl
  · exact e_drop (h.up _ 0 rfl) ht
theorem e_missFirst (h : zE n Q S w S' w') {t : Nat} (ht : t < n) : zE n Q (s_missFirst S w t) w (s_missFirst S' w' t) w' :=
  e_drop (h.up 18 t (by rw [h.t 18 (by decide) (by decide) ht])) ht
theorem e_dig1 (h : zE n Q S w S' w') {t : Nat} (ht : t < n) (m : Nat) : zE n Q (s_dig1 S w t m) w (s_dig1 S' w' t m) w' :=
  h.up 6 m (by rw [h.g 6 (by decide) m, h.t 17 (by decide) (by decide) ht])
theorem e_dig2 (h : zE n Q S w S' w') {t : Nat} (ht : t < n) (m : Nat) : zE n Q (s_dig2 S w t m) w (s_dig2 S' w' t m) w' := by
  unfold s_dig2
  rw [e_isRock h, e_isTunnel h, e_workLeft (e_dig1 h ht m)]
  split
  · split
    · split
      · exact e_dig1 h ht m
      · exact e_countFirst ((e_open (e_dig1 h ht m) m).up 15 t rfl) ht
    · exact e_countFirst (h.up 15 t rfl) ht
  · exact e_missFirst h ht
theorem e_dig (h : zE n Q S w S' w') {t : Nat} (ht : t < n) : zE n Q (s_dig S w t) w (s_dig S' w' t) w' := by
  unfold s_dig
  rw [h.t 15 (by decide) (by decide) ht, h.o 1 (by decide) ht]
  split
  · exact e_dig2 h ht _
  · exact e_missFirst h ht
theorem e_go (h : zE n Q S w S' w') {t : Nat} (ht : t < n) : zE n Q (s_go S w t) w (s_go S' w' t) w' := by
  unfold s_go s_go2
  rw [h.t 15 (by decide) (by decide) ht, h.o 1 (by decide) ht, e_isTunnel h]
  split
  · split
    · exact e_missFirst h ht
    · exact e_countFirst (h.up 15 t rfl) ht
  · exact e_missFirst h ht
theorem e_prop (h : zE n Q S w S' w') {t : Nat} (ht : t < n) : zE n Q (s_prop S w t) w (s_prop S' w' t) w' := by
  unfold s_prop
  rw [h.t 15 (by decide) (by decide) ht, h.g 3 (by decide)]
  split
  · exact e_countFirst (h.up 3 _ rfl) ht
  · exact e_missFirst h ht
theorem e_carry1 (h : zE n Q S w S' w') {t : Nat} (ht : t < n) (k : Nat) : zE n Q (s_carry1 S w t k) w (s_carry1 S' w' t k) w' := by
  unfold s_carry1 s_fire
  rw [h.t 15 (by decide) (by decide) ht]
  split
  · exact e_dig h ht
  split
  · exact e_go h ht
  split
  · exact e_prop h ht
  split
  · exact e_countFirst (h.up 22 t rfl) ht
  split
  · exact e_countFirst (h.up 5 _ rfl) ht
  split
  · exact e_countFirst (e_fireN h _ 4) ht
  · exact e_countFirst h ht
theorem e_carry (h : zE n Q S w S' w') {t : Nat} (ht : t < n) : zE n Q (s_carry S w t) w (s_carry S' w' t) w' := by
  unfold s_carry
  rw [h.o 0 (by decide) ht]
  exact e_carry1 (h.up 19 t rfl) ht _
theorem e_begin (h : zE n Q S w S' w') (t : Nat) : zE n Q (s_begin S w t) w (s_begin S' w' t) w' := (((h.up 19 t rfl).up 20 t rfl).up 21 t rfl).up 22 t rfl
theorem e_act2 (h : zE n Q S w S' w') {t : Nat} (ht : t < n) : zE n Q (s_act2 S w n t) w (s_act2 S' w' n t) w' := by
  unfold s_act2
  rw [e_isGone h ht, e_sees h ht, h.t 15 (by decide) (by decide) ht, h.g 5 (by decide), h.t 26 (by decide) (by decide) ht]
  split
  · split
    · split
      · split
        · exact e_carry h ht
        · exact h
      · exact e_choke h ht
    · exact (h.up 21 t rfl).up 19 t rfl
  · exact h
theorem e_act (h : zE n Q S w S' w') : ∀ t, t ≤ n → zE n Q (s_act S w n t) w (s_act S' w' n t) w'
  | 0, _ => h
  | t + 1, ht => e_act2 (e_begin (e_act h t (by omega)) t) (by omega)
theorem e_foes (h : zE n Q S w S' w') {a : Nat} (ha : a < n) : ∀ t, t ≤ n → s_foes S w a t = s_foes S' w' a t
  | 0, _ => rfl
  | t + 1, ht => by
    have ht' : t < n := by omega
    show s_foe1 S w a t (s_foes S w a t) = s_foe1 S' w' a t (s_foes S' w' a t)
    rw [e_foes h ha t (by omega)]
    unfold s_foe1
    rw [h.t 14 (by decide) (by decide) ht', h.t 14 (by decide) (by decide) ha, h.t 21 (by decide) (by decide) ht', h.t 15 (by decide) (by decide) ht', h.t 15 (by decide) (by decide) ha]
theorem e_loss (h : zE n Q S w S' w') : ∀ t, t ≤ n → zE n Q (s_loss S w n t) w (s_loss S' w' n t) w'
  | 0, _ => h
  | t + 1, ht => by
    have ih := e_loss h t (by omega)
    show zE n Q (s_loss1 (s_loss S w n t) w n t) w (s_loss1 (s_loss S' w' n t) w' n t) w'
    unfold s_loss1
    rw [ih.t 21 (by decide) (by decide) (by omega), e_foes ih (by omega) n (Nat.le_refl n)]
    split
    · exact ih
    · exact ih.up 20 t rfl
theorem e_hurt (h : zE n Q S w S' w') : ∀ t, t ≤ n → zE n Q (s_hurt S w t) w (s_hurt S' w' t) w'
  | 0, _ => h
  | t + 1, ht => e_lose (e_hurt h t (by omega)) (by omega) ((e_hurt h t (by omega)).t 20 (by decide) (by decide) (by omega))
theorem e_fight (h : zE n Q S w S' w') : zE n Q (s_fight S w n) w (s_fight S' w' n) w' := e_hurt (e_loss h n (Nat.le_refl n)) n (Nat.le_refl n)
theorem e_loud (h : zE n Q S w S' w') {a t : Nat} (ha : a < n) (ht : t < n) : s_loud S w a t = s_loud S' w' a t := by
  unfold s_loud
  rw [h.t 19 (by decide) (by decide) ht, h.t 15 (by decide) (by decide) ht, h.t 15 (by decide) (by decide) ha]
theorem e_lisN (h : zE n Q S w S' w') {a : Nat} (ha : a < n) : ∀ t, t ≤ n → s_lisN S w a t = s_lisN S' w' a t
  | 0, _ => rfl
  | t + 1, ht => by
    have ht' : t < n := by omega
    show s_lis1 S w a t (s_lisN S w a t) = s_lis1 S' w' a t (s_lisN S' w' a t)
    rw [e_lisN h ha t (by omega)]
    unfold s_lis1
    rw [h.t 14 (by decide) (by decide) ht', h.t 14 (by decide) (by decide) ha, h.t 19 (by decide) (by decide) ht', e_loud h ha ht', h.t 15 (by decide) (by decide) ht']
theorem e_listen (h : zE n Q S w S' w') {a : Nat} (ha : a < n) : zE n Q (s_listen S w a n) w (s_listen S' w' a n) w' := by
  unfold s_listen s_remember
  rw [e_lisN h ha n (Nat.le_refl n), h.s 13 (by decide) (by decide), h.t 15 (by decide) (by decide) ha]
  split
  · exact h
  · exact ((h.up 23 a rfl).up 24 a rfl).up 25 a rfl
theorem e_hear (h : zE n Q S w S' w') : ∀ t, t ≤ n → zE n Q (s_hear S w n t) w (s_hear S' w' n t) w'
  | 0, _ => h
  | t + 1, ht => by
    have ih := e_hear h t (by omega)
    have ht' : t < n := by omega
    show zE n Q (s_hear1 (s_hear S w n t) w n t) w (s_hear1 (s_hear S' w' n t) w' n t) w'
    unfold s_hear1
    rw [ih.t 22 (by decide) (by decide) ht', e_isGone ih ht']
    split
    · exact ih
    · split
      · exact e_listen ih ht'
      · exact ih
theorem e_bury (h : zE n Q S w S' w') (hn : n ≤ 8) (hq : ∀ c, c < 144 → Q 8 c) (hc : ∀ t, t < 8 → cl (S w 15 t) < 144) : ∀ t, t ≤ n → zE n Q (s_bury S w t) w (s_bury S' w' t) w' ∧ ∀ t', s_bury S w t w 15 t' = S w 15 t'
  | 0, _ => ⟨h, fun _ => rfl⟩
  | t + 1, ht => by
    obtain ⟨ih, ic⟩ := e_bury h hn hq hc t (by omega)
    have ht' : t < n := by omega
    show zE n Q (s_bury1 (s_bury S w t) w t) w (s_bury1 (s_bury S' w' t) w' t) w' ∧ ∀ t', s_bury1 (s_bury S w t) w t w 15 t' = S w 15 t'
    have hb : s_bury S w t w 8 (cl (s_bury S w t w 15 t)) = s_bury S' w' t w' 8 (cl (s_bury S' w' t w' 15 t)) := by
      rw [← ih.t 15 (by decide) (by decide) ht']
      exact ih.2 8 _ (hq _ (by rw [ic]; exact hc t (by omega)))
    unfold s_bury1
    rw [hb]
    split
    · exact ⟨ih, ic⟩
    · exact ⟨ih.up 16 t rfl, fun t' => by rw [z_up_ne _ _ (by omega)]; exact ic t'⟩
theorem e_hour (h : zE n (zP n) S w S' w') (hok : z_ok S w n) : zE n (zP n) (s_hour S w n) w (s_hour S' w' n) w' := by
  have h1 : zE n (zP n) (s_h1 S w n) w (s_h1 S' w' n) w' := e_act h n (Nat.le_refl n)
  have h2 : zE n (zP n) (s_h2 S w n) w (s_h2 S' w' n) w' := e_fight h1
  have h3 : zE n (zP n) (s_h3 S w n) w (s_h3 S' w' n) w' := e_hear h2 n (Nat.le_refl n)
  have h4 : zE n (zP n) (s_h4 S w n) w (s_h4 S' w' n) w' := e_smoke h3
  have h5 : zE n (fun k j => zP n k j ∨ (k = 8 ∧ j < 144)) (s_h5 S w n) w (s_h5 S' w' n) w' := e_settle h4 144
  have h6 : zE n (fun k j => zP n k j ∨ (k = 8 ∧ j < 144)) (s_h6 S w n) w (s_h6 S' w' n) w' :=
    (e_bury h5 hok.2.1 (fun c hc => Or.inr ⟨rfl, hc⟩) (fun t ht => ((ok_h5 hok).2.2 t ht).1.2) n (Nat.le_refl n)).1
  have h7 : zE n (zP n) (s_h6 S w n) w (s_h6 S' w' n) w' := h6.wk (fun _ _ q => q) (fun _ _ q => Or.inl q)
  exact h7.up 13 0 (by rw [h7.s 13 (by decide) (by decide)])
theorem e_hours (h : zE n (zP n) S w S' w') (hok : z_ok S w n) : ∀ i, zE n (zP n) (s_hours S w n i) w (s_hours S' w' n i) w'
  | 0 => h
  | i + 1 => e_hour (e_hours h hok i) (ok_hours hok i)
/-- the siege ahead is the siege, where the hours look -/
theorem e_scopy (S : zS) (n : Nat) (h0 : z_ok S 0 n) : zE n (zP n) S 0 (s_scopy S n) 1 := by
  refine ⟨fun _ _ q => q, fun k j q => ?_⟩
  rw [scopy_at]
  by_cases c : ((14 ≤ k ∧ k ≤ 26) ∧ j < n) ∨ (27 ≤ k ∧ (k - 27) / 3 < n)
  · rw [if_pos c]
  · rw [if_neg c, scp_at]
    unfold zP at q
    rcases (show k < 8 ∨ (10 ≤ k ∧ k < 14 ∧ j = 0) by omega) with q | ⟨q1, q2, rfl⟩
    · rw [if_neg (by omega), if_neg (by omega), if_neg (by omega), if_neg (by omega), if_pos q]
    · rcases (show k = 10 ∨ k = 11 ∨ k = 12 ∨ k = 13 by omega) with rfl | rfl | rfl | rfl
      · rw [if_neg (by omega), if_neg (by omega), if_neg (by omega), if_pos ⟨rfl, rfl⟩]
      · rw [if_neg (by omega), if_neg (by omega), if_pos ⟨rfl, rfl⟩]
      · rw [if_neg (by omega), if_pos ⟨rfl, rfl⟩]; exact h0.1
      · rw [if_pos ⟨rfl, rfl⟩]
end ZP1
