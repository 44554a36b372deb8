section ZP2
theorem inr.ex {x : Int32} {n : Nat} (h : inr x n) : ∃ a, a < n ∧ x = nI a := ⟨cl x, h.2, h.1⟩
theorem in_0 {n : Nat} (h : 0 < n) (hn : n ≤ 2 ^ 31) : inr 0 n := inr_nI (k := 0) h hn
theorem in_w {x : Int32} {a b : Nat} (h : inr x a) (hb : a ≤ b) : inr x b := ⟨h.1, Nat.lt_of_lt_of_le h.2 hb⟩
def z_wr (a b : Int32) : Prop := (a = -1 ∧ b = -1) ∨ (inr a 21 ∧ inr b 21 ∧ cl b ≤ cl a)
def z_hr (a b : Int32) : Prop := inr a 10 ∧ inr b 10 ∧ cl b ≤ cl a
theorem wr_fall {a b : Int32} (h : z_wr a b) (q : 0 < b) : z_wr a (z_max0 (b - 8)) := by
  rcases h with ⟨_, rfl⟩ | ⟨ha, hb, hl⟩
  · exact absurd q (by decide)
  · obtain ⟨x, hx, rfl⟩ := hb.ex
    have e := (by decide : ∀ x, x < 21 → z_max0 (nI x - 8) = nI (x - 8)) x hx
    rw [e]
    rw [cl_nI (by omega)] at hl
    exact Or.inr ⟨ha, inr_nI (by omega) (by decide), by rw [cl_nI (by omega)]; omega⟩
theorem hr_lose {a b x : Int32} (h : z_hr a b) (hx : inr x 4) : z_hr a (z_max0 (b - x)) := by
  obtain ⟨ha, hb, hl⟩ := h
  obtain ⟨y, hy, rfl⟩ := hb.ex
  obtain ⟨v, hv, rfl⟩ := hx.ex
  have e := (by decide : ∀ y, y < 10 → ∀ v, v < 4 → z_max0 (nI y - nI v) = nI (y - v)) y hy v hv
  rw [e]
  rw [cl_nI (by omega)] at hl
  exact ⟨ha, inr_nI (by omega) (by decide), by rw [cl_nI (by omega)]; omega⟩
theorem hr_pos {a b x : Int32} (h : z_hr a b) (hx : inr x 4) (q : 0 < z_max0 (b - x)) : 0 < b := by
  obtain ⟨ha, hb, hl⟩ := h
  obtain ⟨y, hy, rfl⟩ := hb.ex
  obtain ⟨v, hv, rfl⟩ := hx.ex
  exact (by decide : ∀ y, y < 10 → ∀ v, v < 4 → 0 < z_max0 (nI y - nI v) → 0 < nI y) y hy v hv q
/-- what the numbers of a cell keep to (w0: its wall before) -/
def hc (w0 h wa tu pr ag sm wo bu : Int32) : Prop := inr h 10 ∧ z_wr w0 wa ∧ inr pr 4 ∧ inr sm 10 ∧ inr bu 5 ∧ ((tu = 1 ∧ h ≠ 0 ∧ wo = 0 ∧ ag ≤ 36) ∨ (tu = 0 ∧ pr = 0 ∧ ag = 0 ∧ sm = 0 ∧ bu = 0))
def zG (W : Nat → Int32) (S : zS) (w : Nat) : Prop := ∀ c, hc (W c) (S w 0 c) (S w 1 c) (S w 2 c) (S w 3 c) (S w 4 c) (S w 5 c) (S w 6 c) (S w 7 c)
def zT (H : Nat → Int32) (S : zS) (w : Nat) : Prop := ∀ t, z_hr (H t) (S w 16 t) ∧ inr (S w 20 t) 4 ∧ (S w 21 t = 0 ∨ S w 21 t = 1) ∧ (S w 22 t = 0 ∨ S w 22 t = 1)
def zLs (S : zS) (w n : Nat) : Prop := ∀ t, t < n → 0 < S w 16 t → S w 2 (cl (S w 15 t)) = 1
def zK (W H : Nat → Int32) (S : zS) (w n : Nat) : Prop := zG W S w ∧ zT H S w ∧ zLs S w n
variable {W H : Nat → Int32} {S S' : zS} {w n : Nat}
theorem up_c (S : zS) (w k c : Nat) (x : Int32) (k' : Nat) : z_up S w k c x w k' c = if k' = k then x else S w k' c := by
  by_cases h : k' = k
  · subst h; rw [z_up_at, if_pos rfl]
  · rw [z_up_ne _ _ (by omega), if_neg h]
theorem zG.chg (h : zG W S w) (c : Nat) (e : ∀ k c', k < 8 → c' ≠ c → S' w k c' = S w k c') (hx : hc (W c) (S' w 0 c) (S' w 1 c) (S' w 2 c) (S' w 3 c) (S' w 4 c) (S' w 5 c) (S' w 6 c) (S' w 7 c)) : zG W S' w := fun c' => by
  by_cases q : c' = c
  · subst q; exact hx
  · rw [e 0 c' (by decide) q, e 1 c' (by decide) q, e 2 c' (by decide) q, e 3 c' (by decide) q, e 4 c' (by decide) q, e 5 c' (by decide) q, e 6 c' (by decide) q, e 7 c' (by decide) q]; exact h c'
theorem zG.same (h : zG W S w) (e : ∀ k c, k < 8 → S' w k c = S w k c) : zG W S' w := fun c => by
  rw [e 0 c (by decide), e 1 c (by decide), e 2 c (by decide), e 3 c (by decide), e 4 c (by decide), e 5 c (by decide), e 6 c (by decide), e 7 c (by decide)]; exact h c
theorem zT.same (h : zT H S w) (e : ∀ k t, (k = 16 ∨ k = 20 ∨ k = 21 ∨ k = 22) → S' w k t = S w k t) : zT H S' w := fun t => by
  rw [e 16 t (by omega), e 20 t (by omega), e 21 t (by omega), e 22 t (by omega)]; exact h t
theorem zLs.same (h : zLs S w n) (e : ∀ k t, (k = 15 ∨ k = 16) → S' w k t = S w k t) (keep : ∀ c, S w 2 c = 1 → S' w 2 c = 1) : zLs S' w n := fun t ht hp => by
  rw [e 16 t (by omega)] at hp
  rw [e 15 t (by omega)]
  exact keep _ (h t ht hp)
theorem tun_1 {c : Nat} (h : ¬ s_isTunnel S w c = 0) : S w 2 c = 1 := by
  unfold s_isTunnel at h
  by_cases q : S w 2 c = 1
  · exact q
  · rw [if_neg q] at h; exact absurd rfl h
theorem tun_0 {c : Nat} (h : s_isTunnel S w c = 0) : S w 2 c ≠ 1 := fun q => by
  unfold s_isTunnel at h
  rw [if_pos q] at h; exact absurd h (by decide)
theorem rock_0 {c : Nat} (h : s_isRock S w c = 0) : S w 0 c ≠ 0 := fun q => by
  unfold s_isRock at h
  rw [if_pos q] at h; exact absurd h (by decide)
theorem gone_0 {t : Nat} (h : s_isGone S w t = 0) : 0 < S w 16 t := by
  unfold s_isGone at h
  by_cases q : 0 < S w 16 t
  · exact q
  · rw [if_neg q] at h; exact absurd h (by decide)
theorem zG.tun (h : zG W S w) {c : Nat} (q : S w 2 c = 1) : S w 0 c ≠ 0 ∧ S w 6 c = 0 ∧ S w 4 c ≤ 36 := by
  rcases (h c).2.2.2.2.2 with q1 | q1
  · exact q1.2
  · rw [q1.1] at q; exact absurd q (by decide)
theorem zG.non (h : zG W S w) {c : Nat} (q : S w 2 c ≠ 1) : S w 2 c = 0 ∧ S w 3 c = 0 ∧ S w 4 c = 0 ∧ S w 5 c = 0 ∧ S w 7 c = 0 := by
  rcases (h c).2.2.2.2.2 with q1 | q1
  · exact absurd q1.1 q
  · exact q1
theorem zG.u3 (h : zG W S w) {c : Nat} (q : S w 2 c = 1) {x : Int32} (hx : inr x 4) : zG W (z_up S w 3 c x) w := by
  obtain ⟨a1, a2, a3, a4, a5, a6⟩ := h c
  refine h.chg c (fun k c' _ hq => z_up_ne _ _ (by omega)) ?_
  simp [up_c]
  exact ⟨a1, a2, hx, a4, a5, Or.inl ⟨q, h.tun q⟩⟩
theorem zG.u4 (h : zG W S w) {c : Nat} (q : S w 2 c = 1) {x : Int32} (hx : x ≤ 36) : zG W (z_up S w 4 c x) w := by
  obtain ⟨a1, a2, a3, a4, a5, a6⟩ := h c
  refine h.chg c (fun k c' _ hq => z_up_ne _ _ (by omega)) ?_
  simp [up_c]
  exact ⟨a1, a2, a3, a4, a5, Or.inl ⟨q, (h.tun q).1, (h.tun q).2.1, hx⟩⟩
theorem zG.u5 (h : zG W S w) {c : Nat} (q : S w 2 c = 1) {x : Int32} (hx : inr x 10) : zG W (z_up S w 5 c x) w := by
  obtain ⟨a1, a2, a3, a4, a5, a6⟩ := h c
  refine h.chg c (fun k c' _ hq => z_up_ne _ _ (by omega)) ?_
  simp [up_c]
  exact ⟨a1, a2, a3, hx, a5, Or.inl ⟨q, h.tun q⟩⟩
theorem zG.u6 (h : zG W S w) {c : Nat} (q : S w 2 c ≠ 1) (x : Int32) : zG W (z_up S w 6 c x) w := by
  obtain ⟨a1, a2, a3, a4, a5, a6⟩ := h c
  refine h.chg c (fun k c' _ hq => z_up_ne _ _ (by omega)) ?_
  simp [up_c]
  exact ⟨a1, a2, a3, a4, a5, Or.inr (h.non q)⟩
theorem zG.u7 (h : zG W S w) {c : Nat} (q : S w 2 c = 1) {x : Int32} (hx : inr x 5) : zG W (z_up S w 7 c x) w := by
  obtain ⟨a1, a2, a3, a4, a5, a6⟩ := h c
  refine h.chg c (fun k c' _ hq => z_up_ne _ _ (by omega)) ?_
  simp [up_c]
  exact ⟨a1, a2, a3, a4, hx, Or.inl ⟨q, h.tun q⟩⟩
theorem zG.oth (h : zG W S w) (k c : Nat) (x : Int32) (hk : 8 ≤ k) : zG W (z_up S w k c x) w := h.same fun k' c' _ => z_up_ne _ _ (by omega)
theorem empty_ne (S : zS) (w c : Nat) {k' c' : Nat} (q : c' ≠ c ∨ k' < 3 ∨ 7 < k') : s_empty S w c w k' c' = S w k' c' := by
  unfold s_empty
  rw [z_up_ne _ _ (by omega), z_up_ne _ _ (by omega), z_up_ne _ _ (by omega), z_up_ne _ _ (by omega), z_up_ne _ _ (by omega)]
theorem open_ne (S : zS) (w c : Nat) {k' c' : Nat} (q : c' ≠ c ∨ k' < 2 ∨ 7 < k') : s_openTunnel S w c w k' c' = S w k' c' := by
  unfold s_openTunnel
  rw [z_up_ne _ _ (by omega), empty_ne S w c (by omega)]
theorem open_2 (S : zS) (w c : Nat) : s_openTunnel S w c w 2 c = 1 := z_up_at _ _ _ _ _
theorem earth_ne (S : zS) (w c : Nat) (x : Int32) {k' c' : Nat} (q : c' ≠ c ∨ k' = 1 ∨ 7 < k') : s_makeEarth S w c x w k' c' = S w k' c' := by
  unfold s_makeEarth
  rw [z_up_ne _ _ (by omega), z_up_ne _ _ (by omega), empty_ne S w c (by omega)]
theorem zG_open (h : zG W S w) {c : Nat} (q : S w 0 c ≠ 0) : zG W (s_openTunnel S w c) w := by
  obtain ⟨a1, a2, a3, a4, a5, a6⟩ := h c
  refine h.chg c (fun k c' _ hq => open_ne S w c (Or.inl hq)) ?_
  simp [s_openTunnel, s_empty, up_c]
  exact ⟨a1, a2, in_0 (by decide) (by decide), in_0 (by decide) (by decide), in_0 (by decide) (by decide), Or.inl ⟨rfl, q, rfl, by decide⟩⟩
/-! orders alone -/
def zOd (S S' : zS) (w : Nat) : Prop := ∀ k i, (k < 18 ∨ (18 < k ∧ k < 26)) → S' w k i = S w k i
theorem zOd.up {S1 : zS} (h : zOd S S1 w) {k : Nat} (hk : k = 18 ∨ 26 ≤ k) (i : Nat) (x : Int32) : zOd S (z_up S1 w k i x) w := fun k' i' q => (z_up_ne _ _ (by omega)).trans (h k' i' q)
theorem od_shift {S1 : zS} (h : zOd S S1 w) (t : Nat) : ∀ i, zOd S (s_shift S1 w t i) w
  | 0 => h
  | i + 1 => (((od_shift h t i).up (by omega) _ _).up (by omega) _ _).up (by omega) _ _
theorem od_drop {S1 : zS} (h : zOd S S1 w) (t : Nat) : zOd S (s_drop S1 w t) w := (od_shift h t 11).up (by omega) _ _
theorem od_count {S1 : zS} (h : zOd S S1 w) (t : Nat) : zOd S (s_countFirst S1 w t) w := by
  unfold s_countFirst
  split
  · exact h.up (by omega) _ _
  · exact od_drop (h.up (by omega) _ _) t
theorem od_rf : zOd S S w := fun _ _ _ => rfl
theorem od_miss {S1 : zS} (h : zOd S S1 w) (t : Nat) : zOd S (s_missFirst S1 w t) w := od_drop (h.up (by omega) _ _) t
theorem zK.od (h : zK W H S w n) (e : zOd S S' w) : zK W H S' w n :=
  ⟨h.1.same fun k c hk => e k c (by omega), h.2.1.same fun k t hk => e k t (by omega), h.2.2.same (fun k t hk => e k t (by omega)) (fun c q => by rw [e 2 c (by omega)]; exact q)⟩
theorem zK.count (h : zK W H S w n) (t : Nat) : zK W H (s_countFirst S w t) w n := h.od (od_count od_rf t)
theorem zK.miss (h : zK W H S w n) (t : Nat) : zK W H (s_missFirst S w t) w n := h.od (od_miss od_rf t)
theorem zK.oth (h : zK W H S w n) (k i : Nat) (x : Int32) (hk : 8 ≤ k) (h1 : k ≠ 15) (h2 : k ≠ 16) (h3 : k ≠ 20) (h4 : k ≠ 21) (h5 : k ≠ 22) : zK W H (z_up S w k i x) w n :=
  ⟨h.1.oth k i x hk, h.2.1.same fun k' t q => z_up_ne _ _ (by omega), h.2.2.same (fun k' t q => z_up_ne _ _ (by omega)) (fun c q => by rw [z_up_ne _ _ (by omega)]; exact q)⟩
theorem zK.u15 (h : zK W H S w n) (t : Nat) {x : Int32} (hx : S w 2 (cl x) = 1) : zK W H (z_up S w 15 t x) w n := by
  refine ⟨h.1.oth 15 t x (by decide), h.2.1.same fun k' t q => z_up_ne _ _ (by omega), fun t' ht hp => ?_⟩
  rw [z_up_ne _ _ (by omega)] at hp
  rw [z_up_ne _ _ (by omega)]
  by_cases q : t' = t
  · subst q; rw [z_up_at]; exact hx
  · rw [z_up_ne _ _ (by omega)]; exact h.2.2 t' ht hp
theorem zK.u16 (h : zK W H S w n) (t : Nat) {x : Int32} (hx : z_hr (H t) x) (hp : 0 < x → 0 < S w 16 t) : zK W H (z_up S w 16 t x) w n := by
  refine ⟨h.1.oth 16 t x (by decide), fun t' => ?_, fun t' ht hq => ?_⟩
  · rw [z_up_ne (k' := 20) _ _ (by omega), z_up_ne (k' := 21) _ _ (by omega), z_up_ne (k' := 22) _ _ (by omega)]
    refine ⟨?_, (h.2.1 t').2⟩
    by_cases q : t' = t
    · subst q; rw [z_up_at]; exact hx
    · rw [z_up_ne _ _ (by omega)]; exact (h.2.1 t').1
  · rw [z_up_ne (k' := 2) _ _ (by omega), z_up_ne (k' := 15) _ _ (by omega)]
    by_cases q : t' = t
    · subst q; rw [z_up_at] at hq; exact h.2.2 t' ht (hp hq)
    · rw [z_up_ne _ _ (by omega)] at hq; exact h.2.2 t' ht hq
theorem zLs.oth (h : zLs S w n) (k i : Nat) (x : Int32) (h2 : k ≠ 2) (h3 : k ≠ 15) (h4 : k ≠ 16) : zLs (z_up S w k i x) w n :=
  h.same (fun k' t q => z_up_ne _ _ (by omega)) (fun c q => by rw [z_up_ne _ _ (by omega)]; exact q)
theorem zK.u20 (h : zK W H S w n) (t : Nat) {x : Int32} (hx : inr x 4) : zK W H (z_up S w 20 t x) w n := by
  refine ⟨h.1.oth 20 t x (by decide), fun t' => ?_, h.2.2.oth 20 t x (by decide) (by decide) (by decide)⟩
  rw [z_up_ne (k' := 16) _ _ (by omega), z_up_ne (k' := 21) _ _ (by omega), z_up_ne (k' := 22) _ _ (by omega)]
  refine ⟨(h.2.1 t').1, ?_, (h.2.1 t').2.2⟩
  by_cases q : t' = t
  · subst q; rw [z_up_at]; exact hx
  · rw [z_up_ne _ _ (by omega)]; exact (h.2.1 t').2.1
theorem zK.u21 (h : zK W H S w n) (t : Nat) {x : Int32} (hx : x = 0 ∨ x = 1) : zK W H (z_up S w 21 t x) w n := by
  refine ⟨h.1.oth 21 t x (by decide), fun t' => ?_, h.2.2.oth 21 t x (by decide) (by decide) (by decide)⟩
  rw [z_up_ne (k' := 16) _ _ (by omega), z_up_ne (k' := 20) _ _ (by omega), z_up_ne (k' := 22) _ _ (by omega)]
  refine ⟨(h.2.1 t').1, (h.2.1 t').2.1, ?_, (h.2.1 t').2.2.2⟩
  by_cases q : t' = t
  · subst q; rw [z_up_at]; exact hx
  · rw [z_up_ne _ _ (by omega)]; exact (h.2.1 t').2.2.1
theorem zK.u22 (h : zK W H S w n) (t : Nat) {x : Int32} (hx : x = 0 ∨ x = 1) : zK W H (z_up S w 22 t x) w n := by
  refine ⟨h.1.oth 22 t x (by decide), fun t' => ?_, h.2.2.oth 22 t x (by decide) (by decide) (by decide)⟩
  rw [z_up_ne (k' := 16) _ _ (by omega), z_up_ne (k' := 20) _ _ (by omega), z_up_ne (k' := 21) _ _ (by omega)]
  refine ⟨(h.2.1 t').1, (h.2.1 t').2.1, (h.2.1 t').2.2.1, ?_⟩
  by_cases q : t' = t
  · subst q; rw [z_up_at]; exact hx
  · rw [z_up_ne _ _ (by omega)]; exact (h.2.1 t').2.2.2
/-- a change of the grid that leaves the tunnels open -/
theorem zK.grid (h : zK W H S w n) (hg : zG W S' w) (e : ∀ k i, 14 ≤ k → S' w k i = S w k i) (keep : ∀ c, S w 2 c = 1 → S' w 2 c = 1) : zK W H S' w n :=
  ⟨hg, h.2.1.same fun k t hk => e k t (by omega), h.2.2.same (fun k t hk => e k t (by omega)) keep⟩
theorem zK.begin (h : zK W H S w n) (t : Nat) : zK W H (s_begin S w t) w n :=
  (((h.oth 19 t 0 (by decide) (by decide) (by decide) (by decide) (by decide) (by decide)).u20 t (in_0 (by decide) (by decide))).u21 t (Or.inl rfl)).u22 t (Or.inl rfl)
theorem zK.lose (h : zK W H S w n) (t : Nat) {x : Int32} (hx : inr x 4) : zK W H (s_lose S w t x) w n :=
  h.u16 t (hr_lose (h.2.1 t).1 hx) (hr_pos (h.2.1 t).1 hx)
/-! what a team does -/
theorem G_burn (h : zG W S w) {c : Nat} (q : S w 2 c = 1) : zG W (s_burn S w c) w ∧ ∀ c', s_burn S w c w 2 c' = S w 2 c' := by
  have h3 : zG W (z_up S w 3 c 0) w := h.u3 q (in_0 (by decide) (by decide))
  have q3 : z_up S w 3 c 0 w 2 c = 1 := by rw [z_up_ne _ _ (by omega)]; exact q
  unfold s_burn
  split
  · exact ⟨h3.u7 q3 (inr_nI (k := 4) (by decide) (by decide)), fun c' => by rw [z_up_ne _ _ (by omega), z_up_ne _ _ (by omega)]⟩
  · exact ⟨h3, fun c' => by rw [z_up_ne _ _ (by omega)]⟩
theorem G_burnN (h : zG W S w) (c : Nat) : ∀ d, zG W (s_burnN S w c d) w ∧ ∀ c', s_burnN S w c d w 2 c' = S w 2 c'
  | 0 => ⟨h, fun _ => rfl⟩
  | d + 1 => by
    obtain ⟨i1, i2⟩ := G_burnN h c d
    show zG W (s_burn1 (s_burnN S w c d) w c d) w ∧ ∀ c', s_burn1 (s_burnN S w c d) w c d w 2 c' = S w 2 c'
    unfold s_burn1
    split
    · split
      · exact ⟨i1, i2⟩
      · rename_i q
        obtain ⟨j1, j2⟩ := G_burn i1 (tun_1 q)
        exact ⟨j1, fun c' => (j2 c').trans (i2 c')⟩
    · exact ⟨i1, i2⟩
theorem G_fireN (h : zG W S w) {c : Nat} (q : S w 2 c = 1) : ∀ d, zG W (s_fireN S w c d) w ∧ ∀ c', s_fireN S w c d w 2 c' = S w 2 c'
  | 0 => G_burn h q
  | d + 1 => by
    obtain ⟨i1, i2⟩ := G_fireN h q d
    show zG W (s_fire1 (s_fireN S w c d) w c d) w ∧ ∀ c', s_fire1 (s_fireN S w c d) w c d w 2 c' = S w 2 c'
    unfold s_fire1
    split
    · split
      · exact ⟨i1, i2⟩
      · rename_i q
        obtain ⟨j1, j2⟩ := G_burn i1 (tun_1 q)
        obtain ⟨l1, l2⟩ := G_burnN j1 (nbn c d) 4
        exact ⟨l1, fun c' => ((l2 c').trans (j2 c')).trans (i2 c')⟩
    · exact ⟨i1, i2⟩
theorem K_dig2 (h : zK W H S w n) (t : Nat) {m : Nat} (hm : m < 144) : zK W H (s_dig2 S w t m) w n := by
  unfold s_dig2
  split
  · rename_i r0
    split
    · rename_i t0
      have h1 : zK W H (s_dig1 S w t m) w n := h.grid (h.1.u6 (tun_0 t0) _) (fun k i hk => z_up_ne _ _ (by omega)) (fun c q => by unfold s_dig1; rw [z_up_ne _ _ (by omega)]; exact q)
      split
      · exact h1
      · have r1 : s_dig1 S w t m w 0 m ≠ 0 := by unfold s_dig1; rw [z_up_ne _ _ (by omega)]; exact rock_0 r0
        have h2 : zK W H (s_openTunnel (s_dig1 S w t m) w m) w n := h1.grid (zG_open h1.1 r1) (fun k i hk => open_ne _ w m (by omega)) (fun c q => by
          by_cases e : c = m
          · rw [e, open_2]
          · rw [open_ne _ w m (Or.inl e)]; exact q)
        exact (h2.u15 t (by rw [cl_nI (by omega), open_2])).count t
    · rename_i t1
      exact (h.u15 t (by rw [cl_nI (by omega)]; exact tun_1 t1)).count t
  · exact h.miss t
theorem K_carry1 (h : zK W H S w n) (hok : z_ok S w n) {t : Nat} (ht : t < n) (ha : 0 < S w 16 t) (k : Nat) : zK W H (s_carry1 S w t k) w n := by
  have hn := hok.2.1
  have hc : cl (S w 15 t) < 144 := (hok.2.2 t (by omega)).1.2
  have hs : S w 2 (cl (S w 15 t)) = 1 := h.2.2 t ht ha
  unfold s_carry1
  split
  · unfold s_dig
    split
    · rename_i hb; exact K_dig2 h t (nbn_lt hc hb)
    · exact h.miss t
  split
  · unfold s_go
    split
    · rename_i hb
      have hm := nbn_lt hc hb
      unfold s_go2
      split
      · exact h.miss t
      · rename_i t1
        exact (h.u15 t (by rw [cl_nI (by omega)]; exact tun_1 t1)).count t
    · exact h.miss t
  split
  · unfold s_prop
    split
    · rename_i q
      have q3 : inr (S w 3 (cl (S w 15 t)) + 1) 4 := by
        obtain ⟨a, ha, e⟩ := (h.1 (cl (S w 15 t))).2.2.1.ex
        rw [e] at q ⊢
        rw [nI_1]
        have q' : a < 3 := (nI_ltI (b := 3) (by omega) (by decide)).1 q
        exact inr_nI (by omega) (by decide)
      exact zK.count (h.grid (h.1.u3 hs q3) (fun k i hk => z_up_ne _ _ (by omega)) (fun c q => by rw [z_up_ne _ _ (by omega)]; exact q)) t
    · exact h.miss t
  split
  · exact (h.u22 t (Or.inr rfl)).count t
  split
  · exact zK.count (h.grid (h.1.u5 hs (inr_nI (k := 9) (by decide) (by decide))) (fun k i hk => z_up_ne _ _ (by omega)) (fun c q => by rw [z_up_ne _ _ (by omega)]; exact q)) t
  split
  · exact zK.count (h.grid (G_fireN h.1 hs 4).1 (fun k i hk => gk_fireN gk.rf _ 4 w k i (by omega)) (fun c q => by rw [(G_fireN h.1 hs 4).2]; exact q)) t
  · exact h.count t
theorem best_tun {c : Nat} (h : S w 2 c = 1) : ∀ d, S w 2 (s_bestN S w c d) = 1
  | 0 => h
  | d + 1 => by
    show S w 2 (s_best1 S w c d (s_bestN S w c d)) = 1
    have ih := best_tun h d
    unfold s_best1
    split
    · split
      · exact ih
      · rename_i q
        split
        · exact tun_1 q
        · exact ih
    · exact ih
theorem K_choke (h : zK W H S w n) (hok : z_ok S w n) {t : Nat} (ht : t < n) (ha : 0 < S w 16 t) : zK W H (s_choke S w t) w n := by
  have hn := hok.2.1
  have hc : cl (S w 15 t) < 144 := (hok.2.2 t (by omega)).1.2
  have h1 : zK W H (s_choke0 S w t) w n := (h.oth 19 t 1 (by decide) (by decide) (by decide) (by decide) (by decide) (by decide)).lose t (inr_nI (k := 1) (by decide) (by decide))
  have hs : s_choke0 S w t w 2 (cl (S w 15 t)) = 1 := by
    show z_up (z_up S w 19 t 1) w 16 t _ w 2 (cl (S w 15 t)) = 1
    rw [z_up_ne _ _ (by omega), z_up_ne _ _ (by omega)]; exact h.2.2 t ht ha
  unfold s_choke
  split
  · refine h1.u15 t ?_
    rw [cl_nI (Nat.lt_of_lt_of_le (s_bestN_lt hc 4) (by decide))]
    exact best_tun hs 4
  · exact h1
theorem K_act2 (h : zK W H S w n) (hok : z_ok S w n) {t : Nat} (ht : t < n) : zK W H (s_act2 S w n t) w n := by
  unfold s_act2
  split
  · rename_i g
    have ha := gone_0 g
    split
    · split
      · split
        · unfold s_carry
          generalize cl (S w (27 + 3 * t + 0) 0) = k
          exact K_carry1 (h.oth 19 t _ (by decide) (by decide) (by decide) (by decide) (by decide) (by decide)) (hok.up _ _ _ (by omega)) ht (by rw [z_up_ne _ _ (by omega)]; exact ha) k
        · exact h
      · exact K_choke h hok ht ha
    · exact (h.u21 t (Or.inr rfl)).oth 19 t 6 (by decide) (by decide) (by decide) (by decide) (by decide) (by decide)
  · exact h
theorem K_act (h : zK W H S w n) (hok : z_ok S w n) : ∀ t, t ≤ n → zK W H (s_act S w n t) w n
  | 0, _ => h
  | t + 1, ht => K_act2 ((K_act h hok t (by omega)).begin t) (ok_begin (ok_act hok t (by have := hok.2.1; omega)) t) (by omega)
theorem foes_n (S : zS) (w a : Nat) : ∀ t, ∃ k, k ≤ t ∧ s_foes S w a t = nI k
  | 0 => ⟨0, Nat.le_refl 0, rfl⟩
  | t + 1 => by
    obtain ⟨k, hk, e⟩ := foes_n S w a t
    show ∃ k, k ≤ t + 1 ∧ s_foe1 S w a t (s_foes S w a t) = nI k
    rw [e]
    unfold s_foe1
    split
    · exact ⟨k, by omega, rfl⟩
    split
    · exact ⟨k, by omega, rfl⟩
    split
    · exact ⟨k, by omega, rfl⟩
    · exact ⟨k + 1, by omega, nI_1 k⟩
theorem K_loss (h : zK W H S w n) (hn : n ≤ 8) : ∀ t, zK W H (s_loss S w n t) w n
  | 0 => h
  | t + 1 => by
    show zK W H (s_loss1 (s_loss S w n t) w n t) w n
    unfold s_loss1
    split
    · exact K_loss h hn t
    · refine (K_loss h hn t).u20 t ?_
      obtain ⟨k, hk, e⟩ := foes_n (s_loss S w n t) w t n
      rw [e]
      have e2 := (by decide : ∀ k, k < 9 → z_min3 (nI k) = nI (if k < 3 then k else 3)) k (by omega)
      rw [e2]
      exact inr_nI (by split <;> omega) (by decide)
theorem K_hurt (h : zK W H S w n) : ∀ t, zK W H (s_hurt S w t) w n
  | 0 => h
  | t + 1 => (K_hurt h t).lose t ((K_hurt h t).2.1 t).2.1
theorem K_listen (h : zK W H S w n) (a : Nat) : zK W H (s_listen S w a n) w n := by
  unfold s_listen s_remember
  split
  · exact h
  · exact ((h.oth 23 a _ (by decide) (by decide) (by decide) (by decide) (by decide) (by decide)).oth 24 a _ (by decide) (by decide) (by decide) (by decide) (by decide) (by decide)).oth 25 a _ (by decide) (by decide) (by decide) (by decide) (by decide) (by decide)
theorem K_hear (h : zK W H S w n) : ∀ t, zK W H (s_hear S w n t) w n
  | 0 => h
  | t + 1 => by
    show zK W H (s_hear1 (s_hear S w n t) w n t) w n
    unfold s_hear1
    split
    · exact K_hear h t
    · split
      · exact K_listen (K_hear h t) t
      · exact K_hear h t
/-! smoke -/
theorem avg_n (h9 : ∀ c, inr (S w 9 c) 10) (c : Nat) : ∀ d, ∃ a k, s_avgN S w c d = (nI a, k) ∧ a ≤ 9 * k ∧ 1 ≤ k ∧ k ≤ d + 1
  | 0 => by
    obtain ⟨a, ha, e⟩ := (h9 c).ex
    exact ⟨a, 1, by show (S w 9 c, 1) = _; rw [e], by omega, by omega, by omega⟩
  | d + 1 => by
    obtain ⟨a, k, e, h1, h2, h3⟩ := avg_n h9 c d
    show ∃ a k, s_avg1 S w c d (s_avgN S w c d) = (nI a, k) ∧ a ≤ 9 * k ∧ 1 ≤ k ∧ k ≤ d + 1 + 1
    rw [e]
    unfold s_avg1
    split
    · split
      · exact ⟨a, k, rfl, h1, h2, by omega⟩
      · obtain ⟨b, hb, e2⟩ := (h9 (nbn c d)).ex
        exact ⟨a + b, k + 1, by rw [e2, nI_add], by omega, by omega, by omega⟩
    · exact ⟨a, k, rfl, h1, h2, by omega⟩
theorem avg_in (h9 : ∀ c, inr (S w 9 c) 10) (c : Nat) : inr (z_max0 (s_avg S w c - 1)) 10 := by
  obtain ⟨a, k, e, h1, h2, h3⟩ := avg_n h9 c 4
  have e2 : s_avg S w c = nI (a / k) := by unfold s_avg; rw [e]; exact pk_div (by omega) (by omega) (by omega)
  have h4 : a / k < 10 := (Nat.div_lt_iff_lt_mul (by omega)).2 (by omega)
  rw [e2, (by decide : ∀ x, x < 10 → z_max0 (nI x - 1) = nI (x - 1)) _ h4]
  exact inr_nI (by omega) (by decide)
theorem K_smokeN (h : zK W H S w n) : ∀ i, zK W H (s_smokeN S w i) w n ∧ ∀ c, inr (s_smokeN S w i w 9 c) 10
  | 0 => by
    show zK W H (z_cpA S w 9 w 5) w n ∧ ∀ c, inr (z_cpA S w 9 w 5 w 9 c) 10
    refine ⟨h.grid (h.1.same fun k c hk => z_cp_ne _ (by omega)) (fun k i hk => z_cp_ne _ (by omega)) (fun c q => by rw [z_cp_ne _ (by omega)]; exact q), fun c => ?_⟩
    rw [z_cp_at]
    exact (h.1 c).2.2.2.1
  | i + 1 => by
    obtain ⟨i1, i2⟩ := K_smokeN h i
    show zK W H (s_smoke1 (s_smokeN S w i) w i) w n ∧ ∀ c, inr (s_smoke1 (s_smokeN S w i) w i w 9 c) 10
    unfold s_smoke1
    split
    · exact ⟨i1, i2⟩
    · rename_i t1
      exact ⟨i1.grid (i1.1.u5 (tun_1 t1) (avg_in i2 i)) (fun k i hk => z_up_ne _ _ (by omega)) (fun c q => by rw [z_up_ne _ _ (by omega)]; exact q), fun c => by rw [z_up_ne _ _ (by omega)]; exact i2 c⟩
theorem K_smoke (h : zK W H S w n) : zK W H (s_smoke S w) w n := by
  unfold s_smoke
  split
  · exact h
  · exact (K_smokeN h 144).1
/-! the earth settles -/
theorem gives_ne (S : zS) (w c : Nat) {k' c' : Nat} (q : c' ≠ c ∨ (k' ≠ 4 ∧ k' ≠ 7)) : (s_givesWay S w c).2 w k' c' = S w k' c' := by
  unfold s_givesWay
  split
  · exact z_up_ne _ _ (by omega)
  · split <;> exact z_up_ne _ _ (by omega)
theorem fall_ne (S : zS) (w c : Nat) {k' c' : Nat} (hk : k' < 10) (q : c' ≠ c) : s_fallIn S w c w k' c' = S w k' c' := by
  have h0 : s_fallIn0 S w c w k' c' = S w k' c' := by
    unfold s_fallIn0
    rw [z_up_ne _ _ (by omega), z_up_ne _ _ (by omega), earth_ne S w c 2 (Or.inl q)]
  unfold s_fallIn
  split
  · split
    · rw [z_up_ne _ _ (by omega), z_up_ne _ _ (by omega), h0]
    · rw [z_up_ne _ _ (by omega), h0]
  · exact h0
theorem fall0_c (S : zS) (w c : Nat) : s_fallIn0 S w c w 0 c = 2 ∧ s_fallIn0 S w c w 1 c = S w 1 c ∧ s_fallIn0 S w c w 2 c = 0 ∧ s_fallIn0 S w c w 3 c = 0 ∧ s_fallIn0 S w c w 4 c = 0 ∧ s_fallIn0 S w c w 5 c = 0 ∧ s_fallIn0 S w c w 6 c = 0 ∧ s_fallIn0 S w c w 7 c = 0 ∧ s_fallIn0 S w c w 8 c = 1 := by
  have e : ∀ k, k < 8 → s_fallIn0 S w c w k c = s_makeEarth S w c 2 w k c := fun k hk => by
    unfold s_fallIn0
    rw [z_up_ne _ _ (by omega), z_up_ne _ _ (by omega)]
  have e8 : s_fallIn0 S w c w 8 c = 1 := by
    unfold s_fallIn0
    rw [z_up_ne _ _ (by omega), z_up_at]
  rw [e 0 (by decide), e 1 (by decide), e 2 (by decide), e 3 (by decide), e 4 (by decide), e 5 (by decide), e 6 (by decide), e 7 (by decide), e8]
  simp [s_makeEarth, s_empty, up_c]
theorem fall_c (S : zS) (w c : Nat) : s_fallIn S w c w 0 c = 2 ∧ s_fallIn S w c w 1 c = (if 0 < S w 1 c then z_max0 (S w 1 c - 8) else S w 1 c) ∧ s_fallIn S w c w 2 c = 0 ∧ s_fallIn S w c w 3 c = 0 ∧ s_fallIn S w c w 4 c = 0 ∧ s_fallIn S w c w 5 c = 0 ∧ s_fallIn S w c w 6 c = 0 ∧ s_fallIn S w c w 7 c = 0 ∧ s_fallIn S w c w 8 c = 1 := by
  obtain ⟨b0, b1, b2, b3, b4, b5, b6, b7, b8⟩ := fall0_c S w c
  have ee : s_makeEarth S w c 2 w 1 c = S w 1 c := earth_ne S w c 2 (Or.inr (Or.inl rfl))
  unfold s_fallIn
  rw [ee]
  split
  · split
    · rename_i q1 q2
      have e : ∀ k, k ≠ 1 → k ≠ 11 → z_up (z_up (s_fallIn0 S w c) w 1 c (z_max0 (S w 1 c - 8))) w 11 0 (s_makeEarth S w c 2 w 11 0 + 1) w k c = s_fallIn0 S w c w k c := fun k h1 h2 => by
        rw [z_up_ne _ _ (by omega), z_up_ne _ _ (by omega)]
      rw [e 0 (by decide) (by decide), e 2 (by decide) (by decide), e 3 (by decide) (by decide), e 4 (by decide) (by decide), e 5 (by decide) (by decide), e 6 (by decide) (by decide), e 7 (by decide) (by decide), e 8 (by decide) (by decide), z_up_ne _ _ (by omega), z_up_at]
      exact ⟨b0, rfl, b2, b3, b4, b5, b6, b7, b8⟩
    · rename_i q1 q2
      have e : ∀ k, k ≠ 1 → z_up (s_fallIn0 S w c) w 1 c (z_max0 (S w 1 c - 8)) w k c = s_fallIn0 S w c w k c := fun k h1 => by
        rw [z_up_ne _ _ (by omega)]
      rw [e 0 (by decide), e 2 (by decide), e 3 (by decide), e 4 (by decide), e 5 (by decide), e 6 (by decide), e 7 (by decide), e 8 (by decide), z_up_at]
      exact ⟨b0, rfl, b2, b3, b4, b5, b6, b7, b8⟩
  · exact ⟨b0, b1, b2, b3, b4, b5, b6, b7, b8⟩
theorem G_fall (h : zG W S w) (c : Nat) : zG W (s_fallIn S w c) w := by
  obtain ⟨a1, a2, a3, a4, a5, a6⟩ := h c
  refine h.chg c (fun k c' hk hq => fall_ne S w c (by omega) hq) ?_
  obtain ⟨b0, b1, b2, b3, b4, b5, b6, b7, b8⟩ := fall_c S w c
  rw [b0, b1, b2, b3, b4, b5, b6, b7]
  refine ⟨inr_nI (k := 2) (by decide) (by decide), ?_, in_0 (by decide) (by decide), in_0 (by decide) (by decide), in_0 (by decide) (by decide), Or.inr ⟨rfl, rfl, rfl, rfl, rfl⟩⟩
  split
  · rename_i q; exact wr_fall a2 q
  · exact a2
theorem age_in {x h : Int32} (hh : inr h 10) (q : ¬ 4 * h < x) : x ≤ 36 := by
  obtain ⟨a, ha, rfl⟩ := hh.ex
  have e := (by decide : ∀ a, a < 10 → 4 * nI a ≤ 36) a ha
  exact Int32.le_trans (Int32.not_lt.1 q) e
theorem G_gives (h : zG W S w) {c : Nat} (q : S w 2 c = 1) (g : (s_givesWay S w c).1 = 0) : zG W (s_givesWay S w c).2 w ∧ inr ((s_givesWay S w c).2 w 7 c) 4 := by
  obtain ⟨a1, a2, a3, a4, a5, a6⟩ := h c
  unfold s_givesWay at g ⊢
  by_cases c7 : 0 < S w 7 c
  · rw [if_pos c7] at g ⊢
    obtain ⟨b, hb, e⟩ := a5.ex
    have hb7 : inr (S w 7 c - 1) 4 := by
      rw [e] at c7 ⊢
      have hb0 : 0 < b := (nI_ltI (a := 0) (by decide) (by omega)).1 c7
      rw [(by decide : ∀ b, b < 5 → 0 < b → nI b - 1 = nI (b - 1)) b hb hb0]
      exact inr_nI (by omega) (by decide)
    refine ⟨h.u7 q (in_w hb7 (by decide)), ?_⟩
    show inr (z_up S w 7 c (S w 7 c - 1) w 7 c) 4
    rw [z_up_at]; exact hb7
  · rw [if_neg c7] at g ⊢
    have e7 : inr (S w 7 c) 4 := by
      obtain ⟨b, hb, e⟩ := a5.ex
      rw [e] at c7 ⊢
      rcases Nat.eq_zero_or_pos b with q0 | q0
      · rw [q0]; exact inr_nI (by decide) (by decide)
      · exact absurd ((nI_ltI (a := 0) (by decide) (by omega)).2 q0) c7
    by_cases c3 : S w 3 c < s_need S w c
    · rw [if_pos c3] at g ⊢
      have g1 : ¬ 4 * S w 0 c < S w 4 c + 1 := fun q1 => by
        have g' : (if 4 * S w 0 c < S w 4 c + 1 then (1 : Int32) else 0) = 0 := g
        rw [if_pos q1] at g'; exact absurd g' (by decide)
      refine ⟨h.u4 q (age_in a1 g1), ?_⟩
      show inr (z_up S w 4 c (S w 4 c + 1) w 7 c) 4
      rw [z_up_ne _ _ (by omega)]; exact e7
    · rw [if_neg c3] at g ⊢
      refine ⟨h.u4 q (by decide), ?_⟩
      show inr (z_up S w 4 c 0 w 7 c) 4
      rw [z_up_ne _ _ (by omega)]; exact e7
/-- what one cell's settling leaves: the cell keeps to its numbers, a tunnel stands or has fallen in, fire has 3 hours at most -/
theorem G_settle1 (h : zG W S w) (c : Nat) : zG W (s_settle1 S w c) w ∧ inr (s_settle1 S w c w 7 c) 4 ∧ (S w 2 c = 1 → s_settle1 S w c w 2 c = 1 ∨ s_settle1 S w c w 8 c ≠ 0) ∧ ∀ k c', k < 10 → c' ≠ c → s_settle1 S w c w k c' = S w k c' := by
  have h8 : zG W (z_up S w 8 c 0) w := h.oth 8 c 0 (by decide)
  have e8 : ∀ k c', k < 8 → z_up S w 8 c 0 w k c' = S w k c' := fun k c' hk => z_up_ne _ _ (by omega)
  have n8 : ∀ k c', c' ≠ c → z_up S w 8 c 0 w k c' = S w k c' := fun k c' hq => z_up_ne _ _ (by omega)
  unfold s_settle1
  split
  · rename_i t0
    have t2 := tun_0 t0
    refine ⟨h8, ?_, fun q => absurd (by rw [e8 2 c (by decide)]; exact q) t2, fun k c' hk hq => n8 k c' hq⟩
    rw [(h8.non t2).2.2.2.2]; exact in_0 (by decide) (by decide)
  · rename_i t1
    have t2 := tun_1 t1
    split
    · rename_i g
      obtain ⟨g1, g2⟩ := G_gives h8 t2 g
      refine ⟨g1, g2, fun _ => Or.inl ?_, fun k c' hk hq => ?_⟩
      · rw [gives_ne _ w c (by omega)]; exact t2
      · rw [gives_ne _ w c (Or.inl hq)]; exact n8 k c' hq
    · have hg : zG W (s_fallIn (s_givesWay (z_up S w 8 c 0) w c).2 w c) w := by
        refine h8.chg c (fun k c' hk hq => by rw [fall_ne _ w c (by omega) hq, gives_ne _ w c (Or.inl hq)]) ?_
        obtain ⟨b0, b1, b2, b3, b4, b5, b6, b7, b8⟩ := fall_c (s_givesWay (z_up S w 8 c 0) w c).2 w c
        rw [b0, b1, b2, b3, b4, b5, b6, b7, gives_ne _ w c (by omega)]
        obtain ⟨a1, a2, a3, a4, a5, a6⟩ := h8 c
        refine ⟨inr_nI (k := 2) (by decide) (by decide), ?_, in_0 (by decide) (by decide), in_0 (by decide) (by decide), in_0 (by decide) (by decide), Or.inr ⟨rfl, rfl, rfl, rfl, rfl⟩⟩
        split
        · rename_i q; exact wr_fall a2 q
        · exact a2
      obtain ⟨b0, b1, b2, b3, b4, b5, b6, b7, b8⟩ := fall_c (s_givesWay (z_up S w 8 c 0) w c).2 w c
      refine ⟨hg, by rw [b7]; exact in_0 (by decide) (by decide), fun _ => Or.inr (by rw [b8]; decide), fun k c' hk hq => ?_⟩
      rw [fall_ne _ w c hk hq, gives_ne _ w c (Or.inl hq)]; exact n8 k c' hq
theorem G_settle (h : zG W S w) : ∀ i, zG W (s_settle S w i) w ∧ (∀ c, c < i → inr (s_settle S w i w 7 c) 4) ∧ (∀ c, c < i → S w 2 c = 1 → s_settle S w i w 2 c = 1 ∨ s_settle S w i w 8 c ≠ 0) ∧ ∀ c, i ≤ c → s_settle S w i w 2 c = S w 2 c
  | 0 => ⟨h, fun c hc => absurd hc (Nat.not_lt_zero c), fun c hc => absurd hc (Nat.not_lt_zero c), fun _ _ => rfl⟩
  | i + 1 => by
    obtain ⟨i1, i2, i3, i4⟩ := G_settle h i
    obtain ⟨j1, j2, j3, j4⟩ := G_settle1 i1 i
    show zG W (s_settle1 (s_settle S w i) w i) w ∧ (∀ c, c < i + 1 → inr (s_settle1 (s_settle S w i) w i w 7 c) 4) ∧ (∀ c, c < i + 1 → S w 2 c = 1 → s_settle1 (s_settle S w i) w i w 2 c = 1 ∨ s_settle1 (s_settle S w i) w i w 8 c ≠ 0) ∧ ∀ c, i + 1 ≤ c → s_settle1 (s_settle S w i) w i w 2 c = S w 2 c
    refine ⟨j1, fun c hc => ?_, fun c hc q => ?_, fun c hc => ?_⟩
    · by_cases e : c = i
      · rw [e]; exact j2
      · rw [j4 7 c (by decide) e]; exact i2 c (by omega)
    · by_cases e : c = i
      · rw [e] at q ⊢; exact j3 (by rw [i4 i (Nat.le_refl i)]; exact q)
      · rw [j4 2 c (by decide) e, j4 8 c (by decide) e]; exact i3 c (by omega) q
    · rw [j4 2 c (by decide) (by omega)]; exact i4 c (by omega)
theorem bury_at (S : zS) (w : Nat) : ∀ t, (∀ k i, k ≠ 16 → s_bury S w t w k i = S w k i) ∧ ∀ t', s_bury S w t w 16 t' = if t' < t ∧ S w 8 (cl (S w 15 t')) ≠ 0 then 0 else S w 16 t'
  | 0 => ⟨fun _ _ _ => rfl, fun t' => by rw [if_neg (by omega)]; rfl⟩
  | t + 1 => by
    obtain ⟨i1, i2⟩ := bury_at S w t
    have e : s_bury S w (t + 1) = s_bury1 (s_bury S w t) w t := rfl
    rw [e]
    unfold s_bury1
    rw [i1 15 t (by decide), i1 8 _ (by decide)]
    by_cases q : S w 8 (cl (S w 15 t)) = 0
    · rw [if_pos q]
      refine ⟨i1, fun t' => ?_⟩
      rw [i2]
      by_cases c : t' < t ∧ S w 8 (cl (S w 15 t')) ≠ 0
      · rw [if_pos c, if_pos ⟨by omega, c.2⟩]
      · rw [if_neg c, if_neg (fun c2 => by
          by_cases e : t' = t
          · rw [e] at c2; exact c2.2 q
          · exact c ⟨by omega, c2.2⟩)]
    · rw [if_neg q]
      refine ⟨fun k i hk => by rw [z_up_ne _ _ (by omega)]; exact i1 k i hk, fun t' => ?_⟩
      by_cases e : t' = t
      · rw [e, z_up_at, if_pos ⟨by omega, q⟩]
      · rw [z_up_ne _ _ (by omega), i2]
        by_cases c : t' < t ∧ S w 8 (cl (S w 15 t')) ≠ 0
        · rw [if_pos c, if_pos ⟨by omega, c.2⟩]
        · rw [if_neg c, if_neg (fun c2 => c ⟨by omega, c2.2⟩)]
/-- an hour keeps all that is to be kept -/
theorem K_hour (h : zK W H S w n) (hok : z_ok S w n) : zK W H (s_hour S w n) w n ∧ ∀ c, c < 144 → inr (s_hour S w n w 7 c) 4 := by
  have hn := hok.2.1
  have h1 : zK W H (s_h1 S w n) w n := K_act h hok n (Nat.le_refl n)
  have h2 : zK W H (s_h2 S w n) w n := K_hurt (K_loss h1 hn n) n
  have h3 : zK W H (s_h3 S w n) w n := K_hear h2 n
  have h4 : zK W H (s_h4 S w n) w n := K_smoke h3
  obtain ⟨g1, g2, g3, g4⟩ := G_settle h4.1 144
  have e5 : ∀ k i, 12 ≤ k → s_h5 S w n w k i = s_h4 S w n w k i := fun k i hk => gk_settle gk.rf 144 w k i (Or.inr hk)
  obtain ⟨b1, b2⟩ := bury_at (s_h5 S w n) w n
  have ok4 := ok_h4 hok
  have e6 : ∀ k i, k ≠ 16 → s_h6 S w n w k i = s_h5 S w n w k i := b1
  have e7 : ∀ k i, k ≠ 13 → s_hour S w n w k i = s_h6 S w n w k i := fun k i hk => z_up_ne _ _ (by omega)
  refine ⟨⟨?_, ?_, ?_⟩, fun c hc => ?_⟩
  · refine zG.same (S := s_h5 S w n) g1 fun k c hk => ?_
    rw [e7 k c (by omega), e6 k c (by omega)]
  · intro t
    rw [e7 16 t (by decide), e7 20 t (by decide), e7 21 t (by decide), e7 22 t (by decide), e6 20 t (by decide), e6 21 t (by decide), e6 22 t (by decide), e5 20 t (by decide), e5 21 t (by decide), e5 22 t (by decide)]
    refine ⟨?_, (h4.2.1 t).2⟩
    show z_hr (H t) (s_bury (s_h5 S w n) w n w 16 t)
    rw [b2, e5 16 t (by decide)]
    split
    · obtain ⟨x1, x2, x3⟩ := (h4.2.1 t).1
      exact ⟨x1, in_0 (by decide) (by decide), by rw [show cl 0 = 0 by decide]; omega⟩
    · exact (h4.2.1 t).1
  · intro t ht hp
    rw [e7 16 t (by decide)] at hp
    rw [e7 15 t (by decide), e7 2 _ (by decide), e6 15 t (by decide), e6 2 _ (by decide), e5 15 t (by decide)]
    have hp' : 0 < s_bury (s_h5 S w n) w n w 16 t := hp
    rw [b2] at hp'
    by_cases c : t < n ∧ s_h5 S w n w 8 (cl (s_h5 S w n w 15 t)) ≠ 0
    · rw [if_pos c] at hp'; exact absurd hp' (by decide)
    · rw [if_neg c, e5 16 t (by decide)] at hp'
      rw [e5 15 t (by decide)] at c
      have hs := h4.2.2 t ht hp'
      rcases g3 (cl (s_h4 S w n w 15 t)) (ok4.2.2 t (by omega)).1.2 hs with q | q
      · exact q
      · exact absurd ⟨ht, q⟩ c
  · rw [e7 7 c (by decide), e6 7 c (by decide)]; exact g2 c hc
theorem K_hours (h : zK W H S w n) (hok : z_ok S w n) : ∀ i, zK W H (s_hours S w n i) w n
  | 0 => h
  | i + 1 => (K_hour (K_hours h hok i) (ok_hours hok i)).1
theorem K_hours7 (h : zK W H S w n) (hok : z_ok S w n) {i : Nat} (hi : 0 < i) : ∀ c, c < 144 → inr (s_hours S w n i w 7 c) 4 := by
  obtain ⟨j, rfl⟩ : ∃ j, i = j + 1 := ⟨i - 1, by omega⟩
  exact (K_hour (K_hours h hok j) (ok_hours hok j)).2
/-- the numbers before are the numbers now -/
theorem zK.now (h : zK W H S w n) : zK (S w 1) (S w 16) S w n := by
  refine ⟨fun c => ?_, fun t => ?_, h.2.2⟩
  · obtain ⟨a1, a2, a3⟩ := h.1 c
    refine ⟨a1, ?_, a3⟩
    rcases a2 with q | q
    · exact Or.inl ⟨q.2, q.2⟩
    · exact Or.inr ⟨q.2.1, q.2.1, Nat.le_refl _⟩
  · obtain ⟨a1, a2⟩ := h.2.1 t
    exact ⟨⟨a1.2.1, a1.2.1, Nat.le_refl _⟩, a2⟩
theorem zK.bo (h : zK W H S w n) : z_bo S w := fun t _ => (h.2.1 t).2.2
end ZP2
