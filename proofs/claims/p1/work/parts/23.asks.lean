section ZP4
/-- nothing but siege w has changed -/
def zFr (w : Nat) (S S' : zS) : Prop := ∀ w' k i, w' ≠ w → S' w' k i = S w' k i
variable {w n : Nat} {S S1 : zS}
theorem zFr.rf : zFr w S S := fun _ _ _ _ => rfl
theorem zFr.up (h : zFr w S S1) (k i : Nat) (x : Int32) : zFr w S (z_up S1 w k i x) := fun w' k' i' q => (z_up_ne S1 x (by omega)).trans (h w' k' i' q)
theorem zFr.gk {S2 : zS} (h : zFr w S S1) (g : gk w S1 S2) : zFr w S S2 := fun w' k i q => (g w' k i (Or.inl q)).trans (h w' k i q)
theorem f_begin (h : zFr w S S1) (t : Nat) : zFr w S (s_begin S1 w t) := (((h.up _ _ _).up _ _ _).up _ _ _).up _ _ _
theorem f_lose (h : zFr w S S1) (t : Nat) (x : Int32) : zFr w S (s_lose S1 w t x) := h.up _ _ _
theorem f_shift (h : zFr w S S1) (t : Nat) : ∀ i, zFr w S (s_shift S1 w t i)
  | 0 => h
  | i + 1 => (((f_shift h t i).up _ _ _).up _ _ _).up _ _ _
theorem f_drop (h : zFr w S S1) (t : Nat) : zFr w S (s_drop S1 w t) := (f_shift h t 11).up _ _ _
theorem f_count (h : zFr w S S1) (t : Nat) : zFr w S (s_countFirst S1 w t) := by
  unfold s_countFirst
  split
  · exact h.up _ _ _
  · exact f_drop (h.up _ _ _) t
theorem f_miss (h : zFr w S S1) (t : Nat) : zFr w S (s_missFirst S1 w t) := f_drop (h.up _ _ _) t
theorem f_dig (h : zFr w S S1) (t : Nat) : zFr w S (s_dig S1 w t) := by
  unfold s_dig s_dig2 s_dig1
  split
  · split
    · split
      · split
        · exact h.up _ _ _
        · exact f_count (((h.up _ _ _).gk (gk_open gk.rf _)).up _ _ _) t
      · exact f_count (h.up _ _ _) t
    · exact f_miss h t
  · exact f_miss h t
theorem f_go (h : zFr w S S1) (t : Nat) : zFr w S (s_go S1 w t) := by
  unfold s_go s_go2
  split
  · split
    · exact f_miss h t
    · exact f_count (h.up _ _ _) t
  · exact f_miss h t
theorem f_prop (h : zFr w S S1) (t : Nat) : zFr w S (s_prop S1 w t) := by
  unfold s_prop
  split
  · exact f_count (h.up _ _ _) t
  · exact f_miss h t
theorem f_carry1 (h : zFr w S S1) (t k : Nat) : zFr w S (s_carry1 S1 w t k) := by
  unfold s_carry1
  split
  · exact f_dig h t
  split
  · exact f_go h t
  split
  · exact f_prop h t
  split
  · exact f_count (h.up _ _ _) t
  split
  · exact f_count (h.up _ _ _) t
  split
  · exact f_count (h.gk (gk_fireN gk.rf _ 4)) t
  · exact f_count h t
theorem f_choke (h : zFr w S S1) (t : Nat) : zFr w S (s_choke S1 w t) := by
  have h1 : zFr w S (s_choke0 S1 w t) := f_lose (h.up _ _ _) t 1
  unfold s_choke
  split
  · exact h1.up _ _ _
  · exact h1
theorem f_act2 (h : zFr w S S1) (n t : Nat) : zFr w S (s_act2 S1 w n t) := by
  unfold s_act2
  split
  · split
    · split
      · split
        · unfold s_carry
          generalize cl (S1 w (27 + 3 * t + 0) 0) = k
          exact f_carry1 (h.up _ _ _) t k
        · exact h
      · exact f_choke h t
    · exact (h.up _ _ _).up _ _ _
  · exact h
theorem f_act (h : zFr w S S1) (n : Nat) : ∀ t, zFr w S (s_act S1 w n t)
  | 0 => h
  | t + 1 => f_act2 (f_begin (f_act h n t) t) n t
theorem f_loss (h : zFr w S S1) (n : Nat) : ∀ t, zFr w S (s_loss S1 w n t)
  | 0 => h
  | t + 1 => by
    show zFr w S (s_loss1 (s_loss S1 w n t) w n t)
    unfold s_loss1
    split
    · exact f_loss h n t
    · exact (f_loss h n t).up _ _ _
theorem f_hurt (h : zFr w S S1) : ∀ t, zFr w S (s_hurt S1 w t)
  | 0 => h
  | t + 1 => f_lose (f_hurt h t) t _
theorem f_hear (h : zFr w S S1) (n : Nat) : ∀ t, zFr w S (s_hear S1 w n t)
  | 0 => h
  | t + 1 => by
    show zFr w S (s_hear1 (s_hear S1 w n t) w n t)
    unfold s_hear1
    split
    · exact f_hear h n t
    · split
      · unfold s_listen s_remember
        split
        · exact f_hear h n t
        · exact (((f_hear h n t).up _ _ _).up _ _ _).up _ _ _
      · exact f_hear h n t
theorem f_bury (h : zFr w S S1) : ∀ t, zFr w S (s_bury S1 w t)
  | 0 => h
  | t + 1 => by
    show zFr w S (s_bury1 (s_bury S1 w t) w t)
    unfold s_bury1
    split
    · exact f_bury h t
    · exact (f_bury h t).up _ _ _
theorem f_hour (h : zFr w S S1) (n : Nat) : zFr w S (s_hour S1 w n) := by
  have h1 : zFr w S (s_h1 S1 w n) := f_act h n n
  have h2 : zFr w S (s_h2 S1 w n) := f_hurt (f_loss h1 n n) n
  have h3 : zFr w S (s_h3 S1 w n) := f_hear h2 n n
  have h4 : zFr w S (s_h4 S1 w n) := h3.gk (gk_smoke gk.rf)
  have h5 : zFr w S (s_h5 S1 w n) := h4.gk (gk_settle gk.rf 144)
  have h6 : zFr w S (s_h6 S1 w n) := f_bury h5 n
  exact h6.up _ _ _
theorem f_hours (h : zFr w S S1) (n : Nat) : ∀ i, zFr w S (s_hours S1 w n i)
  | 0 => h
  | i + 1 => f_hour (f_hours h n i) n
/-! what asking leaves -/
/-- the siege and the tape are as they were -/
def zQ (S S' : zS) : Prop := S' 0 = S 0 ∧ ∀ k i, k < 4 → S' 2 k i = S 2 k i
theorem zQ.rf : zQ S S := ⟨rfl, fun _ _ _ => rfl⟩
theorem zQ.tr {S2 : zS} (h : zQ S S1) (h2 : zQ S1 S2) : zQ S S2 := ⟨h2.1.trans h.1, fun k i q => (h2.2 k i q).trans (h.2 k i q)⟩
theorem q_scopy (S : zS) (n : Nat) : zQ S (s_scopy S n) := ⟨funext fun k => funext fun i => k0_scopy k0.rf n 0 k i (by decide), fun k i _ => k0_scopy k0.rf n 2 k i (by decide)⟩
theorem q_hours1 (S : zS) (n i : Nat) : zQ S (s_hours S 1 n i) := ⟨funext fun k => funext fun j => f_hours zFr.rf n i 0 k j (by decide), fun k j _ => f_hours zFr.rf n i 2 k j (by decide)⟩
theorem q_ahead (S : zS) (n i : Nat) : zQ S (s_hours (s_scopy S n) 1 n i) := (q_scopy S n).tr (q_hours1 _ n i)
theorem q_targ (S : zS) (t : Nat) : zQ S (s_targ S t) := by
  have h : ∀ i, wk S (s_srchN S 0 (cl (S 0 15 t)) (S 0 17 t) i) := fun i => wk_srchN wk.rf _ _ _ i
  exact ⟨funext fun k => funext fun j => h 144 0 k j (by omega), fun k j q => h 144 2 k j (by omega)⟩
theorem targ_1 (S : zS) (t k j : Nat) : s_targ S t 1 k j = S 1 k j := by
  have h : ∀ i, wk S (s_srchN S 0 (cl (S 0 15 t)) (S 0 17 t) i) := fun i => wk_srchN wk.rf _ _ _ i
  exact h 144 1 k j (by omega)
theorem left_same {S' : zS} (h : S' 0 = S 0) (x : Int32) : ∀ t, s_left S' 0 x t = s_left S 0 x t
  | 0 => rfl
  | t + 1 => by
    show (if S' 0 14 t = x then (if s_isGone S' 0 t = 0 then s_left S' 0 x t + 1 else s_left S' 0 x t) else s_left S' 0 x t) = _
    unfold s_isGone
    rw [left_same h x t, h]
    rfl
theorem count_same {S' : zS} (q : zQ S S') (n k : Nat) : s_count S' n k = s_count S n k := by
  unfold s_count s_up s_down s_allSmoke
  rw [left_same q.1, left_same q.1, q.1, q.2 1 0 (by decide), q.2 3 0 (by decide)]
theorem team_same {S' : zS} (h : S' 0 = S 0) (t c k : Nat) : s_teamV S' 0 t c k = s_teamV S 0 t c k := by
  unfold s_teamV s_firstKind
  rw [h]
theorem dg1_same {S' : zS} (q : zQ S S') (n : Nat) : ∀ k, s_dg1 S' n k = s_dg1 S n k
  | 0 => rfl
  | k + 1 => by
    show s_dg1 S' n k * 31 + (s_count S' n k).toInt64 = s_dg1 S n k * 31 + (s_count S n k).toInt64
    rw [dg1_same q n k, count_same q]
theorem dgc_same {S' : zS} (h : S' 0 = S 0) (c : Nat) (d : Int64) : ∀ k, s_dgc S' c d k = s_dgc S c d k
  | 0 => rfl
  | k + 1 => by
    show s_dgc S' c d k * 31 + (S' 0 k c).toInt64 = s_dgc S c d k * 31 + (S 0 k c).toInt64
    rw [dgc_same h c d k, h]
theorem dg2_same {S' : zS} (h : S' 0 = S 0) (d : Int64) : ∀ c, s_dg2 S' d c = s_dg2 S d c
  | 0 => rfl
  | c + 1 => by
    show s_dgc S' c (s_dg2 S' d c) 8 = s_dgc S c (s_dg2 S d c) 8
    rw [dg2_same h d c, dgc_same h]
theorem dgt_same {S' : zS} (h : S' 0 = S 0) (t : Nat) (d : Int64) : ∀ k, s_dgt S' t d k = s_dgt S t d k
  | 0 => rfl
  | k + 1 => by
    show s_dgt S' t d k * 31 + (s_teamV S' 0 t (cl (S' 0 15 t)) k).toInt64 = s_dgt S t d k * 31 + (s_teamV S 0 t (cl (S 0 15 t)) k).toInt64
    rw [dgt_same h t d k, team_same h, h]
theorem dgh_same {S' : zS} (h : S' 0 = S 0) (t : Nat) (d : Int64) : ∀ k, s_dgh S' t d k = s_dgh S t d k
  | 0 => rfl
  | k + 1 => by
    show s_dgh S' t d k * 31 + (s_heardV S' 0 t k).toInt64 = s_dgh S t d k * 31 + (s_heardV S 0 t k).toInt64
    unfold s_heardV
    rw [dgh_same h t d k, h]
theorem dg3_same {S' : zS} (h : S' 0 = S 0) (d : Int64) : ∀ t, s_dg3 S' d t = s_dg3 S d t
  | 0 => rfl
  | t + 1 => by
    show s_dgh S' t (s_dgt S' t (s_dg3 S' d t) 10) 3 = s_dgh S t (s_dgt S t (s_dg3 S d t) 10) 3
    rw [dg3_same h d t, dgt_same h, dgh_same h]
theorem dg4_same {S' : zS} (q : zQ S S') (d : Int64) : ∀ p, s_dg4 S' d p = s_dg4 S d p
  | 0 => rfl
  | p + 1 => by
    show s_dg4 S' d p * 31 + (S' 2 2 p).toInt64 = s_dg4 S d p * 31 + (S 2 2 p).toInt64
    rw [dg4_same q d p, q.2 2 p (by decide)]
/-- asking leaves the checksum -/
theorem digest_same {S' : zS} (q : zQ S S') (n P : Nat) : s_digest S' n P = s_digest S n P := by
  unfold s_digest
  rw [dg1_same q, dg2_same q.1, dg3_same q.1, dg4_same q]
/-- what is foreseen comes -/
def s_comes (S : zS) (n h k : Nat) : Int32 := if k = 0 then s_hours S 0 n h 0 11 0 - S 0 11 0 else if k = 1 then s_left (s_hours S 0 n h) 0 0 n else if k = 2 then s_left (s_hours S 0 n h) 0 1 n else s_hours S 0 n h 0 10 0 - S 0 10 0
theorem foresee_comes (S : zS) {n : Nat} (hok : z_ok S 0 n) (h k : Nat) : s_foresee S n h k = s_comes S n h k := by
  have e := e_hours (e_scopy S n hok) hok h
  have q := q_ahead S n h
  unfold s_foresee s_comes s_ahead
  rw [← e.s 11 (by decide) (by decide), ← e.s 10 (by decide) (by decide), ← e_left e 0 n (Nat.le_refl n), ← e_left e 1 n (Nat.le_refl n), q.1]
theorem comes_same {S' : zS} (h : S' 0 = S 0) {n : Nat} (hok : z_ok S 0 n) (i k : Nat) : s_comes S' n i k = s_comes S n i k := by
  have e0 : zE n (zP n) S 0 S' 0 := ⟨fun _ _ q => q, fun k j _ => by rw [h]⟩
  have e := e_hours e0 hok i
  unfold s_comes
  rw [← e.s 11 (by decide) (by decide), ← e.s 10 (by decide) (by decide), ← e_left e 0 n (Nat.le_refl n), ← e_left e 1 n (Nat.le_refl n), h]
theorem ok_same {S' : zS} (h : S' 0 = S 0) (hok : z_ok S 0 n) : z_ok S' 0 n := hok.same fun k i _ => by rw [h]
theorem K_same {S' : zS} {W H : Nat → Int32} (h : S' 0 = S 0) (hk : zK W H S 0 n) : zK W H S' 0 n :=
  ⟨hk.1.same fun k c _ => by rw [h], hk.2.1.same fun k t _ => by rw [h], hk.2.2.same (fun k t _ => by rw [h]) (fun c q => by rw [h]; exact q)⟩
end ZP4
