section ZMR
variable {p : Program} {l : Launch} {e : Env} {s : State} {m : MethodId} {below : List Frame} {meth : Method} {c : Code} {G : va_G} {K : Nat × Nat × (Nat → Int32)} {cI cZ cT cB : ClassId} {o ho : Nat} {ad : Nat → Nat} {k9 q9 : Nat} {ws : va_W}
theorem nat_lt {m : Nat} (hm : m ≤ 1000) {z : Int32} (h1 : ¬ z < 0) (h2 : z < nI m) : ∃ j : Nat, j < m ∧ z = nI j := by
  obtain ⟨j, hj, e⟩ := nI_of2 (M := nI m) (n := m) (nI_toInt (by omega)) h1 (Int32.le_of_lt h2)
  refine ⟨j, ?_, e⟩
  rw [e] at h2
  exact (nI_ltI (a := j) (b := m) (by omega) (by omega)).1 h2
theorem nat_le {m : Nat} (hm : m ≤ 1000) {z : Int32} (h1 : ¬ z < 1) (h2 : ¬ nI m < z) : ∃ j : Nat, (1 ≤ j ∧ j ≤ m) ∧ z = nI j := by
  obtain ⟨j, hj, e⟩ := nI_of2 (M := nI m) (n := m) (nI_toInt (by omega)) (fun g => h1 (Int32.lt_trans g (by decide))) (Int32.not_lt.1 h2)
  refine ⟨j, ⟨?_, hj⟩, e⟩
  rcases Nat.eq_zero_or_pos j with q | q
  · subst q; rw [e] at h1; exact absurd (by decide) h1
  · exact q
theorem lk_feed (hl9 : l.stackTraces = false) (X : j_X p s m #[Value.ref K.1] meth c code 9 RL wsL_law ret G (j_ty cI cZ cT cB)) (hZ : j_Z K (va_A ([] : va_W) s.heap.size) s s.heap) (hL : K.2.1 = 6) : j_V p l e room_1 s m #[Value.ref K.1] below meth c (lw_Z below #[Value.ref K.1] s) G 9 (va_A ([] : va_W) s.heap.size) 200 20000 (([(ho, .inl (cB, 1, .inr (.inl (fun _ => 0))))] ++ z_w cI cZ cT o z_S0) ++ m_w cI cZ ad m_Z0) 148 [(4, .int (nI 0)), (3, .ref ho), (2, .ref (ad 0)), (1, .ref o), (0, .ref K.1)] [] := by
  exact lc_feed_n X hZ hL (nI 20) (w_feed_n l G K cI cZ cT cB o ho z_S0 (fun _ => 0) _ _ _ _ _ (nI 20) (fun r u h => h.1) (c_X5_feed l G cI cZ cT o z_S0 0 (K.2.2 1) (K.2.2 2) (K.2.2 3) (K.2.2 4) (K.2.2 5) (by decide) rfl)) (m_feed (l := l) (G := G) (K := K) (cI := cI) (cZ := cZ) (cT := cT) (cB := cB) ad m_Z0 mfr_Z0 (K.2.2 1) (K.2.2 2) (K.2.2 3) (K.2.2 4) (K.2.2 5))
theorem lk_trim (hl9 : l.stackTraces = false) (X : j_X p s m #[Value.ref K.1] meth c code 9 RL wsL_law ret G (j_ty cI cZ cT cB)) (hZ : j_Z K (va_A ([] : va_W) s.heap.size) s s.heap) (hL : K.2.1 = 6) : j_V p l e room_1 s m #[Value.ref K.1] below meth c (lw_Z below #[Value.ref K.1] s) G 9 (va_A ([] : va_W) s.heap.size) 200 20000 (([(ho, .inl (cB, 1, .inr (.inl (fun _ => 0))))] ++ z_w cI cZ cT o z_S0) ++ m_w cI cZ ad m_Z0) 252 [(4, .int (nI 0)), (3, .ref ho), (2, .ref (ad 0)), (1, .ref o), (0, .ref K.1)] [] := by
  rcases Classical.em (K.2.2 1 = 0) with hq | hq
  · have hm := m_trim (l := l) (G := G) (K := K) (cI := cI) (cZ := cZ) (cT := cT) (cB := cB) ad m_Z0 mfr_Z0 (K.2.2 1)
    rw [if_pos hq] at hm
    exact lc_trim_n X hZ hL (nI 0) (by rw [hq]; exact w_trim_n l G K cI cZ cT cB o ho z_S0 (fun _ => 0) _ (nI 0) (fun r u h => h.1) (c_X5_trim l G cI cZ cT o z_S0 0 0 (by decide) (by decide) rfl)) hm
  · have hm := m_trim (l := l) (G := G) (K := K) (cI := cI) (cZ := cZ) (cT := cT) (cB := cB) ad m_Z0 mfr_Z0 (K.2.2 1)
    rw [if_neg hq] at hm
    exact lc_trim_t X hZ hL 1 (by decide) (by decide) (nI 0) (w_trim_IAE l G K cI cZ cT cB o ho z_S0 (fun _ => 0) _ (t_X5_trim l hl9 G cI cZ cT o z_S0 _ rfl hq)) (hm)
theorem lk_map (hl9 : l.stackTraces = false) (X : j_X p s m #[Value.ref K.1] meth c code 9 RL wsL_law ret G (j_ty cI cZ cT cB)) (hZ : j_Z K (va_A ([] : va_W) s.heap.size) s s.heap) (hL : K.2.1 = 6) : j_V p l e room_1 s m #[Value.ref K.1] below meth c (lw_Z below #[Value.ref K.1] s) G 9 (va_A ([] : va_W) s.heap.size) 200 20000 (([(ho, .inl (cB, 1, .inr (.inl (fun _ => 0))))] ++ z_w cI cZ cT o z_S0) ++ m_w cI cZ ad m_Z0) 308 [(4, .int (nI 0)), (3, .ref ho), (2, .ref (ad 0)), (1, .ref o), (0, .ref K.1)] [] := by
  exact lc_map X hZ hL
theorem lk_openAt (hl9 : l.stackTraces = false) (X : j_X p s m #[Value.ref K.1] meth c code 9 RL wsL_law ret G (j_ty cI cZ cT cB)) (hZ : j_Z K (va_A ([] : va_W) s.heap.size) s s.heap) (hL : K.2.1 = 6) : j_V p l e room_1 s m #[Value.ref K.1] below meth c (lw_Z below #[Value.ref K.1] s) G 9 (va_A ([] : va_W) s.heap.size) 200 20000 (([(ho, .inl (cB, 1, .inr (.inl (fun _ => 0))))] ++ z_w cI cZ cT o z_S0) ++ m_w cI cZ ad m_Z0) 321 [(4, .int (nI 0)), (3, .ref ho), (2, .ref (ad 0)), (1, .ref o), (0, .ref K.1)] [] := by
  rcases Classical.em (pin (K.2.2 1) (K.2.2 2)) with hp | hp
  · obtain ⟨a, b, ha, hb, ex, ey⟩ := pin_nat hp
    exact lc_openAt_n X hZ hL (nI 3) (by rw [ex, ey]; exact w_openAt_n l G K cI cZ cT cB o ho z_S0 (fun _ => 0) _ _ (nI 3) (fun r u h => h.1.trans (V_open _)) (c_X5_openAt l G cI cZ cT o z_S0 a b ha hb (V_rock _) (V_tun _))) (by rw [ex, ey]; exact m_openAt1 (l := l) (G := G) (K := K) (cI := cI) (cZ := cZ) (cT := cT) (cB := cB) ad m_Z0 mfr_Z0 a b ha hb)
  · exact lc_openAt_t X hZ hL 1 (by decide) (by decide) (nI 0) (w_openAt_IOB l G K cI cZ cT cB o ho z_S0 (fun _ => 0) _ _ (t_X5_openAt l hl9 G cI cZ cT o z_S0 _ _ hp)) (m_openAt0 (l := l) (G := G) (K := K) (cI := cI) (cZ := cZ) (cT := cT) (cB := cB) ad m_Z0 mfr_Z0 _ _ hp)
theorem lk_cell (hl9 : l.stackTraces = false) (X : j_X p s m #[Value.ref K.1] meth c code 9 RL wsL_law ret G (j_ty cI cZ cT cB)) (hZ : j_Z K (va_A ([] : va_W) s.heap.size) s s.heap) (hL : K.2.1 = 6) : j_V p l e room_1 s m #[Value.ref K.1] below meth c (lw_Z below #[Value.ref K.1] s) G 9 (va_A ([] : va_W) s.heap.size) 200 20000 (([(ho, .inl (cB, 1, .inr (.inl (fun _ => 0))))] ++ z_w cI cZ cT o z_S0) ++ m_w cI cZ ad m_Z0) 389 [(4, .int (nI 0)), (3, .ref ho), (2, .ref (ad 0)), (1, .ref o), (0, .ref K.1)] [] := by
  rcases Classical.em (pin (K.2.2 1) (K.2.2 2) ∧ ¬ K.2.2 3 < 0 ∧ K.2.2 3 < 8) with hq | hq
  · obtain ⟨hp, h1, h2⟩ := hq
    obtain ⟨a, b, ha, hb, ex, ey⟩ := pin_nat hp
    obtain ⟨k, hk, ez⟩ := nat_lt (m := 8) (by decide) h1 h2
    exact lc_cell_n X hZ hL (fz (8 * (12 * b + a) + k)) (by rw [ex, ey, ez]; exact w_cell_n l G K cI cZ cT cB o ho z_S0 (fun _ => 0) _ _ _ (fz (8 * (12 * b + a) + k)) (fun r u h => h.1.trans (V_cell _ _ hk)) (c_X5_cell l G cI cZ cT o z_S0 a b k ha hb hk)) (by rw [ex, ey, ez]; exact m_cell1 (l := l) (G := G) (K := K) (cI := cI) (cZ := cZ) (cT := cT) (cB := cB) ad m_Z0 mfr_Z0 a b ha hb k hk)
  · exact lc_cell_t X hZ hL 1 (by decide) (by decide) (nI 0) (w_cell_IOB l G K cI cZ cT cB o ho z_S0 (fun _ => 0) _ _ _ (t_X5_cell l hl9 G cI cZ cT o z_S0 _ _ _ hq)) (m_cell0 (l := l) (G := G) (K := K) (cI := cI) (cZ := cZ) (cT := cT) (cB := cB) ad m_Z0 mfr_Z0 _ _ _ hq)
theorem lk_come (hl9 : l.stackTraces = false) (X : j_X p s m #[Value.ref K.1] meth c code 9 RL wsL_law ret G (j_ty cI cZ cT cB)) (hZ : j_Z K (va_A ([] : va_W) s.heap.size) s s.heap) (hL : K.2.1 = 6) : j_V p l e room_1 s m #[Value.ref K.1] below meth c (lw_Z below #[Value.ref K.1] s) G 9 (va_A ([] : va_W) s.heap.size) 200 20000 (([(ho, .inl (cB, 1, .inr (.inl (fun _ => 0))))] ++ z_w cI cZ cT o z_S0) ++ m_w cI cZ ad m_Z0) 469 [(4, .int (nI 0)), (3, .ref ho), (2, .ref (ad 0)), (1, .ref o), (0, .ref K.1)] [] := by
  rcases Classical.em (pin (K.2.2 2) (K.2.2 3)) with hp | hp
  · rcases Classical.em (¬ K.2.2 1 < 0 ∧ ¬ 1 < K.2.2 1 ∧ ¬ K.2.2 4 < 1 ∧ ¬ 9 < K.2.2 4 ∧ ¬ K.2.2 5 < 1 ∧ ¬ 5 < K.2.2 5) with hg | hg
    · obtain ⟨a, b, ha, hb, ex, ey⟩ := pin_nat hp
      exact lc_come_t X hZ hL 3 (by decide) (by decide) (nI 0) (by rw [ex, ey]; exact w_come_ISE l G K cI cZ cT cB o ho z_S0 (fun _ => 0) _ _ _ _ _ (t_X5_come3 l hl9 G cI cZ cT o z_S0 a b _ _ _ ha hb hg rfl (S0_k (by decide) 2 _ (by decide)))) (by rw [ex, ey]; exact m_come3 (l := l) (G := G) (K := K) (cI := cI) (cZ := cZ) (cT := cT) (cB := cB) ad m_Z0 mfr_Z0 a b ha hb _ _ _ hg)
    · exact lc_come_t X hZ hL 2 (by decide) (by decide) (nI 0) (w_come_IAE l G K cI cZ cT cB o ho z_S0 (fun _ => 0) _ _ _ _ _ (t_X5_come2 l hl9 G cI cZ cT o z_S0 _ _ _ _ _ hp hg)) (m_come2 (l := l) (G := G) (K := K) (cI := cI) (cZ := cZ) (cT := cT) (cB := cB) ad m_Z0 mfr_Z0 _ _ _ _ _ hp hg)
  · exact lc_come_t X hZ hL 1 (by decide) (by decide) (nI 0) (w_come_IOB l G K cI cZ cT cB o ho z_S0 (fun _ => 0) _ _ _ _ _ (t_X5_come1 l hl9 G cI cZ cT o z_S0 _ _ _ _ _ hp)) (m_come1 (l := l) (G := G) (K := K) (cI := cI) (cZ := cZ) (cT := cT) (cB := cB) ad m_Z0 mfr_Z0 _ _ _ _ _ hp)
theorem lk_order (hl9 : l.stackTraces = false) (X : j_X p s m #[Value.ref K.1] meth c code 9 RL wsL_law ret G (j_ty cI cZ cT cB)) (hZ : j_Z K (va_A ([] : va_W) s.heap.size) s s.heap) (hL : K.2.1 = 6) : j_V p l e room_1 s m #[Value.ref K.1] below meth c (lw_Z below #[Value.ref K.1] s) G 9 (va_A ([] : va_W) s.heap.size) 200 20000 (([(ho, .inl (cB, 1, .inr (.inl (fun _ => 0))))] ++ z_w cI cZ cT o z_S0) ++ m_w cI cZ ad m_Z0) 573 [(4, .int (nI 0)), (3, .ref ho), (2, .ref (ad 0)), (1, .ref o), (0, .ref K.1)] [] := by
  exact lc_order_t X hZ hL 1 (by decide) (by decide) (nI 0) (w_order_IOB l G K cI cZ cT cB o ho z_S0 (fun _ => 0) _ _ _ _ (t_X5_order l hl9 G cI cZ cT o z_S0 _ _ _ _ rfl)) (m_order (l := l) (G := G) (K := K) (cI := cI) (cZ := cZ) (cT := cT) (cB := cB) ad m_Z0 mfr_Z0 _ _ _ _)
theorem lk_clear (hl9 : l.stackTraces = false) (X : j_X p s m #[Value.ref K.1] meth c code 9 RL wsL_law ret G (j_ty cI cZ cT cB)) (hZ : j_Z K (va_A ([] : va_W) s.heap.size) s s.heap) (hL : K.2.1 = 6) : j_V p l e room_1 s m #[Value.ref K.1] below meth c (lw_Z below #[Value.ref K.1] s) G 9 (va_A ([] : va_W) s.heap.size) 200 20000 (([(ho, .inl (cB, 1, .inr (.inl (fun _ => 0))))] ++ z_w cI cZ cT o z_S0) ++ m_w cI cZ ad m_Z0) 665 [(4, .int (nI 0)), (3, .ref ho), (2, .ref (ad 0)), (1, .ref o), (0, .ref K.1)] [] := by
  exact lc_clear_t X hZ hL 1 (by decide) (by decide) (nI 0) (w_clear_IOB l G K cI cZ cT cB o ho z_S0 (fun _ => 0) _ (t_X5_clear l hl9 G cI cZ cT o z_S0 _ rfl)) (m_clear (l := l) (G := G) (K := K) (cI := cI) (cZ := cZ) (cT := cT) (cB := cB) ad m_Z0 mfr_Z0 _)
theorem lk_team (hl9 : l.stackTraces = false) (X : j_X p s m #[Value.ref K.1] meth c code 9 RL wsL_law ret G (j_ty cI cZ cT cB)) (hZ : j_Z K (va_A ([] : va_W) s.heap.size) s s.heap) (hL : K.2.1 = 6) : j_V p l e room_1 s m #[Value.ref K.1] below meth c (lw_Z below #[Value.ref K.1] s) G 9 (va_A ([] : va_W) s.heap.size) 200 20000 (([(ho, .inl (cB, 1, .inr (.inl (fun _ => 0))))] ++ z_w cI cZ cT o z_S0) ++ m_w cI cZ ad m_Z0) 721 [(4, .int (nI 0)), (3, .ref ho), (2, .ref (ad 0)), (1, .ref o), (0, .ref K.1)] [] := by
  exact lc_team_t X hZ hL 1 (by decide) (by decide) (nI 0) (w_team_IOB l G K cI cZ cT cB o ho z_S0 (fun _ => 0) _ _ (t_X5_team l hl9 G cI cZ cT o z_S0 _ _ rfl)) (m_team (l := l) (G := G) (K := K) (cI := cI) (cZ := cZ) (cT := cT) (cB := cB) ad m_Z0 mfr_Z0 _ _)
theorem lk_heard (hl9 : l.stackTraces = false) (X : j_X p s m #[Value.ref K.1] meth c code 9 RL wsL_law ret G (j_ty cI cZ cT cB)) (hZ : j_Z K (va_A ([] : va_W) s.heap.size) s s.heap) (hL : K.2.1 = 6) : j_V p l e room_1 s m #[Value.ref K.1] below meth c (lw_Z below #[Value.ref K.1] s) G 9 (va_A ([] : va_W) s.heap.size) 200 20000 (([(ho, .inl (cB, 1, .inr (.inl (fun _ => 0))))] ++ z_w cI cZ cT o z_S0) ++ m_w cI cZ ad m_Z0) 789 [(4, .int (nI 0)), (3, .ref ho), (2, .ref (ad 0)), (1, .ref o), (0, .ref K.1)] [] := by
  exact lc_heard_t X hZ hL 1 (by decide) (by decide) (nI 0) (w_heard_IOB l G K cI cZ cT cB o ho z_S0 (fun _ => 0) _ _ (t_X5_heard l hl9 G cI cZ cT o z_S0 _ _ rfl)) (m_heard (l := l) (G := G) (K := K) (cI := cI) (cZ := cZ) (cT := cT) (cB := cB) ad m_Z0 mfr_Z0 _ _)
theorem lk_pass (hl9 : l.stackTraces = false) (X : j_X p s m #[Value.ref K.1] meth c code 9 RL wsL_law ret G (j_ty cI cZ cT cB)) (hZ : j_Z K (va_A ([] : va_W) s.heap.size) s s.heap) (hL : K.2.1 = 6) : j_V p l e room_1 s m #[Value.ref K.1] below meth c (lw_Z below #[Value.ref K.1] s) G 9 (va_A ([] : va_W) s.heap.size) 200 20000 (([(ho, .inl (cB, 1, .inr (.inl (fun _ => 0))))] ++ z_w cI cZ cT o z_S0) ++ m_w cI cZ ad m_Z0) 857 [(4, .int (nI 0)), (3, .ref ho), (2, .ref (ad 0)), (1, .ref o), (0, .ref K.1)] [] := by
  rcases Classical.em (¬ K.2.2 1 < 1 ∧ ¬ 200 < K.2.2 1) with hq | hq
  · have hm := m_pass (l := l) (G := G) (K := K) (cI := cI) (cZ := cZ) (cT := cT) (cB := cB) ad m_Z0 mfr_Z0 (K.2.2 1)
    rw [if_pos hq] at hm
    obtain ⟨n, hn, ex⟩ := nat_le (m := 200) (by decide) hq.1 hq.2
    exact lc_pass_n X hZ hL (nI 0) (by rw [ex]; exact w_pass_n l G K cI cZ cT cB o ho z_S0 (fun _ => 0) _ (nI 0) (fun r u h => h.1.trans (V_pass n)) (c_X5_pass l G cI cZ cT o z_S0 0 n (ok_S0 (by decide)) hn.1 hn.2)) hm
  · have hm := m_pass (l := l) (G := G) (K := K) (cI := cI) (cZ := cZ) (cT := cT) (cB := cB) ad m_Z0 mfr_Z0 (K.2.2 1)
    rw [if_neg hq] at hm
    exact lc_pass_t X hZ hL 1 (by decide) (by decide) (nI 0) (w_pass_IAE l G K cI cZ cT cB o ho z_S0 (fun _ => 0) _ (t_X5_pass l hl9 G cI cZ cT o z_S0 _ hq)) (hm)
theorem lk_count (hl9 : l.stackTraces = false) (X : j_X p s m #[Value.ref K.1] meth c code 9 RL wsL_law ret G (j_ty cI cZ cT cB)) (hZ : j_Z K (va_A ([] : va_W) s.heap.size) s s.heap) (hL : K.2.1 = 6) : j_V p l e room_1 s m #[Value.ref K.1] below meth c (lw_Z below #[Value.ref K.1] s) G 9 (va_A ([] : va_W) s.heap.size) 200 20000 (([(ho, .inl (cB, 1, .inr (.inl (fun _ => 0))))] ++ z_w cI cZ cT o z_S0) ++ m_w cI cZ ad m_Z0) 913 [(4, .int (nI 0)), (3, .ref ho), (2, .ref (ad 0)), (1, .ref o), (0, .ref K.1)] [] := by
  rcases Classical.em (¬ K.2.2 1 < 0 ∧ K.2.2 1 < 12) with hq | hq
  · have hm := m_count (l := l) (G := G) (K := K) (cI := cI) (cZ := cZ) (cT := cT) (cB := cB) ad m_Z0 mfr_Z0 (K.2.2 1)
    rw [if_pos hq] at hm
    obtain ⟨k, hk, ex⟩ := nat_lt (m := 12) (by decide) hq.1 hq.2
    exact lc_count_n X hZ hL 0 (by rw [ex]; exact w_count_n l G K cI cZ cT cB o ho z_S0 (fun _ => 0) _ 0 (fun r u h => h.1.trans (V_count k hk)) (c_X5_count l G cI cZ cT o z_S0 0 k (ok_S0 (by decide)) hk)) hm
  · have hm := m_count (l := l) (G := G) (K := K) (cI := cI) (cZ := cZ) (cT := cT) (cB := cB) ad m_Z0 mfr_Z0 (K.2.2 1)
    rw [if_neg hq] at hm
    exact lc_count_t X hZ hL 1 (by decide) (by decide) 0 (w_count_IOB l G K cI cZ cT cB o ho z_S0 (fun _ => 0) _ (t_X5_count l hl9 G cI cZ cT o z_S0 _ hq)) (hm)
theorem lk_way (hl9 : l.stackTraces = false) (X : j_X p s m #[Value.ref K.1] meth c code 9 RL wsL_law ret G (j_ty cI cZ cT cB)) (hZ : j_Z K (va_A ([] : va_W) s.heap.size) s s.heap) (hL : K.2.1 = 6) : j_V p l e room_1 s m #[Value.ref K.1] below meth c (lw_Z below #[Value.ref K.1] s) G 9 (va_A ([] : va_W) s.heap.size) 200 20000 (([(ho, .inl (cB, 1, .inr (.inl (fun _ => 0))))] ++ z_w cI cZ cT o z_S0) ++ m_w cI cZ ad m_Z0) 969 [(4, .int (nI 0)), (3, .ref ho), (2, .ref (ad 0)), (1, .ref o), (0, .ref K.1)] [] := by
  rcases Classical.em (pin (K.2.2 1) (K.2.2 2) ∧ pin (K.2.2 3) (K.2.2 4)) with hq | hq
  · obtain ⟨hp, hv⟩ := hq
    obtain ⟨a, b, ha, hb, ex, ey⟩ := pin_nat hp
    obtain ⟨v, z, hv1, hz1, ev, ez⟩ := pin_nat hv
    exact lc_way_n X hZ hL (-1) (by rw [ex, ey, ev, ez]; exact w_way_n l G K cI cZ cT cB o ho z_S0 (fun _ => 0) _ _ _ _ (-1) (fun r u h => h.1) (c_X5_way l G cI cZ cT o z_S0 a b v z ha hb hv1 hz1 (S0_k (by decide) 2 _ (by decide)))) (by rw [ex, ey, ev, ez]; exact m_way1 (l := l) (G := G) (K := K) (cI := cI) (cZ := cZ) (cT := cT) (cB := cB) ad m_Z0 mfr_Z0 a b ha hb v z hv1 hz1)
  · exact lc_way_t X hZ hL 1 (by decide) (by decide) (nI 0) (w_way_IOB l G K cI cZ cT cB o ho z_S0 (fun _ => 0) _ _ _ _ (t_X5_way l hl9 G cI cZ cT o z_S0 _ _ _ _ hq)) (m_way0 (l := l) (G := G) (K := K) (cI := cI) (cZ := cZ) (cT := cT) (cB := cB) ad m_Z0 mfr_Z0 _ _ _ _ hq)
theorem lk_reach (hl9 : l.stackTraces = false) (X : j_X p s m #[Value.ref K.1] meth c code 9 RL wsL_law ret G (j_ty cI cZ cT cB)) (hZ : j_Z K (va_A ([] : va_W) s.heap.size) s s.heap) (hL : K.2.1 = 6) : j_V p l e room_1 s m #[Value.ref K.1] below meth c (lw_Z below #[Value.ref K.1] s) G 9 (va_A ([] : va_W) s.heap.size) 200 20000 (([(ho, .inl (cB, 1, .inr (.inl (fun _ => 0))))] ++ z_w cI cZ cT o z_S0) ++ m_w cI cZ ad m_Z0) 1061 [(4, .int (nI 0)), (3, .ref ho), (2, .ref (ad 0)), (1, .ref o), (0, .ref K.1)] [] := by
  exact lc_reach_t X hZ hL 1 (by decide) (by decide) (nI 0) (w_reach_IOB l G K cI cZ cT cB o ho z_S0 (fun _ => 0) _ _ _ (t_X5_reach l hl9 G cI cZ cT o z_S0 _ _ _ rfl)) (m_reach (l := l) (G := G) (K := K) (cI := cI) (cZ := cZ) (cT := cT) (cB := cB) ad m_Z0 mfr_Z0 _ _ _)
theorem lk_target (hl9 : l.stackTraces = false) (X : j_X p s m #[Value.ref K.1] meth c code 9 RL wsL_law ret G (j_ty cI cZ cT cB)) (hZ : j_Z K (va_A ([] : va_W) s.heap.size) s s.heap) (hL : K.2.1 = 6) : j_V p l e room_1 s m #[Value.ref K.1] below meth c (lw_Z below #[Value.ref K.1] s) G 9 (va_A ([] : va_W) s.heap.size) 200 20000 (([(ho, .inl (cB, 1, .inr (.inl (fun _ => 0))))] ++ z_w cI cZ cT o z_S0) ++ m_w cI cZ ad m_Z0) 1141 [(4, .int (nI 0)), (3, .ref ho), (2, .ref (ad 0)), (1, .ref o), (0, .ref K.1)] [] := by
  exact lc_target_t X hZ hL 1 (by decide) (by decide) (nI 0) (w_target_IOB l G K cI cZ cT cB o ho z_S0 (fun _ => 0) _ (t_X5_target l hl9 G cI cZ cT o z_S0 _ rfl)) (m_target (l := l) (G := G) (K := K) (cI := cI) (cZ := cZ) (cT := cT) (cB := cB) ad m_Z0 mfr_Z0 _)
theorem lk_foresee (hl9 : l.stackTraces = false) (X : j_X p s m #[Value.ref K.1] meth c code 9 RL wsL_law ret G (j_ty cI cZ cT cB)) (hZ : j_Z K (va_A ([] : va_W) s.heap.size) s s.heap) (hL : K.2.1 = 6) : j_V p l e room_1 s m #[Value.ref K.1] below meth c (lw_Z below #[Value.ref K.1] s) G 9 (va_A ([] : va_W) s.heap.size) 200 20000 (([(ho, .inl (cB, 1, .inr (.inl (fun _ => 0))))] ++ z_w cI cZ cT o z_S0) ++ m_w cI cZ ad m_Z0) 1197 [(4, .int (nI 0)), (3, .ref ho), (2, .ref (ad 0)), (1, .ref o), (0, .ref K.1)] [] := by
  rcases Classical.em (¬ K.2.2 1 < 1 ∧ ¬ 150 < K.2.2 1) with hq | hq
  · rcases Classical.em (¬ K.2.2 2 < 0 ∧ K.2.2 2 < 4) with hk | hk
    · obtain ⟨n, hn, ex⟩ := nat_le (m := 150) (by decide) hq.1 hq.2
      obtain ⟨k, hk9, ey⟩ := nat_lt (m := 4) (by decide) hk.1 hk.2
      exact lc_foresee_n X hZ hL (nI 0) (by rw [ex, ey]; exact w_foresee_n l G K cI cZ cT cB o ho z_S0 (fun _ => 0) _ _ (nI 0) (fun r u h => h.1.trans (V_foresee n k hk9)) (c_X5_foresee l G cI cZ cT o z_S0 0 n k (ok_S0 (by decide)) (ok_S0 (w := 1) (by decide)).rg (K_S0 (w := 0) (by decide)).bo hn.1 hn.2 hk9)) (by rw [ex, ey]; exact m_foresee3 (l := l) (G := G) (K := K) (cI := cI) (cZ := cZ) (cT := cT) (cB := cB) ad m_Z0 mfr_Z0 n k hn.1 hn.2 hk9)
    · exact lc_foresee_t X hZ hL 2 (by decide) (by decide) (nI 0) (w_foresee_IOB l G K cI cZ cT cB o ho z_S0 (fun _ => 0) _ _ (t_X5_foresee2 l hl9 G cI cZ cT o z_S0 _ _ hq hk)) (m_foresee2 (l := l) (G := G) (K := K) (cI := cI) (cZ := cZ) (cT := cT) (cB := cB) ad m_Z0 mfr_Z0 _ _ hq hk)
  · exact lc_foresee_t X hZ hL 1 (by decide) (by decide) (nI 0) (w_foresee_IAE l G K cI cZ cT cB o ho z_S0 (fun _ => 0) _ _ (t_X5_foresee1 l hl9 G cI cZ cT o z_S0 _ _ hq)) (m_foresee1 (l := l) (G := G) (K := K) (cI := cI) (cZ := cZ) (cT := cT) (cB := cB) ad m_Z0 mfr_Z0 _ _ hq)
theorem lk_falls (hl9 : l.stackTraces = false) (X : j_X p s m #[Value.ref K.1] meth c code 9 RL wsL_law ret G (j_ty cI cZ cT cB)) (hZ : j_Z K (va_A ([] : va_W) s.heap.size) s s.heap) (hL : K.2.1 = 6) : j_V p l e room_1 s m #[Value.ref K.1] below meth c (lw_Z below #[Value.ref K.1] s) G 9 (va_A ([] : va_W) s.heap.size) 200 20000 (([(ho, .inl (cB, 1, .inr (.inl (fun _ => 0))))] ++ z_w cI cZ cT o z_S0) ++ m_w cI cZ ad m_Z0) 1265 [(4, .int (nI 0)), (3, .ref ho), (2, .ref (ad 0)), (1, .ref o), (0, .ref K.1)] [] := by
  rcases Classical.em (pin (K.2.2 1) (K.2.2 2)) with hp | hp
  · obtain ⟨a, b, ha, hb, ex, ey⟩ := pin_nat hp
    exact lc_falls_n X hZ hL (-1) (by rw [ex, ey]; exact w_falls_n l G K cI cZ cT cB o ho z_S0 (fun _ => 0) _ _ (-1) (fun r u h => h) (c_X5_fallsQ l G cI cZ cT o z_S0 0 a b (ok_S0 (by decide)) (ok_S0 (w := 1) (by decide)).rg (K_S0 (w := 0) (by decide)).bo ha hb (V_falls _))) (by rw [ex, ey]; exact m_falls1 (l := l) (G := G) (K := K) (cI := cI) (cZ := cZ) (cT := cT) (cB := cB) ad m_Z0 mfr_Z0 a b ha hb)
  · exact lc_falls_t X hZ hL 1 (by decide) (by decide) (nI 0) (w_falls_IOB l G K cI cZ cT cB o ho z_S0 (fun _ => 0) _ _ (t_X5_falls l hl9 G cI cZ cT o z_S0 _ _ hp)) (m_falls0 (l := l) (G := G) (K := K) (cI := cI) (cZ := cZ) (cT := cT) (cB := cB) ad m_Z0 mfr_Z0 _ _ hp)
theorem lk_lasts (hl9 : l.stackTraces = false) (X : j_X p s m #[Value.ref K.1] meth c code 9 RL wsL_law ret G (j_ty cI cZ cT cB)) (hZ : j_Z K (va_A ([] : va_W) s.heap.size) s s.heap) (hL : K.2.1 = 6) : j_V p l e room_1 s m #[Value.ref K.1] below meth c (lw_Z below #[Value.ref K.1] s) G 9 (va_A ([] : va_W) s.heap.size) 200 20000 (([(ho, .inl (cB, 1, .inr (.inl (fun _ => 0))))] ++ z_w cI cZ cT o z_S0) ++ m_w cI cZ ad m_Z0) 1333 [(4, .int (nI 0)), (3, .ref ho), (2, .ref (ad 0)), (1, .ref o), (0, .ref K.1)] [] := by
  exact lc_lasts_t X hZ hL 1 (by decide) (by decide) (nI 0) (w_lasts_IOB l G K cI cZ cT cB o ho z_S0 (fun _ => 0) _ (t_X5_lasts l hl9 G cI cZ cT o z_S0 _ rfl)) (m_lasts (l := l) (G := G) (K := K) (cI := cI) (cZ := cZ) (cT := cT) (cB := cB) ad m_Z0 mfr_Z0 _)
theorem lk_advise (hl9 : l.stackTraces = false) (X : j_X p s m #[Value.ref K.1] meth c code 9 RL wsL_law ret G (j_ty cI cZ cT cB)) (hZ : j_Z K (va_A ([] : va_W) s.heap.size) s s.heap) (hL : K.2.1 = 6) : j_V p l e room_1 s m #[Value.ref K.1] below meth c (lw_Z below #[Value.ref K.1] s) G 9 (va_A ([] : va_W) s.heap.size) 200 20000 (([(ho, .inl (cB, 1, .inr (.inl (fun _ => 0))))] ++ z_w cI cZ cT o z_S0) ++ m_w cI cZ ad m_Z0) 1389 [(4, .int (nI 0)), (3, .ref ho), (2, .ref (ad 0)), (1, .ref o), (0, .ref K.1)] [] := by
  exact lc_advise_t X hZ hL 1 (by decide) (by decide) (nI 0) (w_advise_IOB l G K cI cZ cT cB o ho z_S0 (fun _ => 0) _ _ (t_X5_advise l hl9 G cI cZ cT o z_S0 _ _ rfl)) (m_advise (l := l) (G := G) (K := K) (cI := cI) (cZ := cZ) (cT := cT) (cB := cB) ad m_Z0 mfr_Z0 _ _)
theorem lk_draw (hl9 : l.stackTraces = false) (X : j_X p s m #[Value.ref K.1] meth c code 9 RL wsL_law ret G (j_ty cI cZ cT cB)) (hZ : j_Z K (va_A ([] : va_W) s.heap.size) s s.heap) (hL : K.2.1 = 6) : j_V p l e room_1 s m #[Value.ref K.1] below meth c (lw_Z below #[Value.ref K.1] s) G 9 (va_A ([] : va_W) s.heap.size) 200 20000 (([(ho, .inl (cB, 1, .inr (.inl (fun _ => 0))))] ++ z_w cI cZ cT o z_S0) ++ m_w cI cZ ad m_Z0) 1457 [(4, .int (nI 0)), (3, .ref ho), (2, .ref (ad 0)), (1, .ref o), (0, .ref K.1)] [] := by
  exact lc_draw X hZ hL
theorem lk_byteAt (hl9 : l.stackTraces = false) (X : j_X p s m #[Value.ref K.1] meth c code 9 RL wsL_law ret G (j_ty cI cZ cT cB)) (hZ : j_Z K (va_A ([] : va_W) s.heap.size) s s.heap) (hL : K.2.1 = 6) : j_V p l e room_1 s m #[Value.ref K.1] below meth c (lw_Z below #[Value.ref K.1] s) G 9 (va_A ([] : va_W) s.heap.size) 200 20000 (([(ho, .inl (cB, 1, .inr (.inl (fun _ => 0))))] ++ z_w cI cZ cT o z_S0) ++ m_w cI cZ ad m_Z0) 1470 [(4, .int (nI 0)), (3, .ref ho), (2, .ref (ad 0)), (1, .ref o), (0, .ref K.1)] [] := by
  exact lc_byteAt_t X hZ hL 1 (by decide) (by decide) (nI 0) (w_byteAt_IOB l G K cI cZ cT cB o ho z_S0 (fun _ => 0) _ (t_X5_byteAt l hl9 G cI cZ cT o z_S0 _ rfl)) (m_byteAt (l := l) (G := G) (K := K) (cI := cI) (cZ := cZ) (cT := cT) (cB := cB) ad m_Z0 mfr_Z0 _)
theorem lk_share (hl9 : l.stackTraces = false) (X : j_X p s m #[Value.ref K.1] meth c code 9 RL wsL_law ret G (j_ty cI cZ cT cB)) (hZ : j_Z K (va_A ([] : va_W) s.heap.size) s s.heap) (hL : K.2.1 = 6) : j_V p l e room_1 s m #[Value.ref K.1] below meth c (lw_Z below #[Value.ref K.1] s) G 9 (va_A ([] : va_W) s.heap.size) 200 20000 (([(ho, .inl (cB, 1, .inr (.inl (fun _ => 0))))] ++ z_w cI cZ cT o z_S0) ++ m_w cI cZ ad m_Z0) 1526 [(4, .int (nI 0)), (3, .ref ho), (2, .ref (ad 0)), (1, .ref o), (0, .ref K.1)] [] := by
  exact lc_share X hZ hL
theorem lk_digest (hl9 : l.stackTraces = false) (X : j_X p s m #[Value.ref K.1] meth c code 9 RL wsL_law ret G (j_ty cI cZ cT cB)) (hZ : j_Z K (va_A ([] : va_W) s.heap.size) s s.heap) (hL : K.2.1 = 6) : j_V p l e room_1 s m #[Value.ref K.1] below meth c (lw_Z below #[Value.ref K.1] s) G 9 (va_A ([] : va_W) s.heap.size) 200 20000 (([(ho, .inl (cB, 1, .inr (.inl (fun _ => 0))))] ++ z_w cI cZ cT o z_S0) ++ m_w cI cZ ad m_Z0) 1567 [(4, .int (nI 0)), (3, .ref ho), (2, .ref (ad 0)), (1, .ref o), (0, .ref K.1)] [] := by
  exact lc_digest X hZ hL
set_option maxRecDepth 100000 in
set_option maxHeartbeats 4000000 in
theorem law_go (hl9 : l.stackTraces = false) (X : j_X p s m #[Value.ref K.1] meth c code 9 RL wsL_law ret G (j_ty cI cZ cT cB)) (hZ : j_Z K (va_A ([] : va_W) s.heap.size) s s.heap) (hL : K.2.1 = 6) : j_V p l e room_1 s m #[Value.ref K.1] below meth c (lw_Z below #[Value.ref K.1] s) G 9 (va_A ([] : va_W) s.heap.size) 200 20000 (([(ho, .inl (cB, 1, .inr (.inl (fun _ => 0))))] ++ z_w cI cZ cT o z_S0) ++ m_w cI cZ ad m_Z0) 33 [(4, .int (nI 0)), (3, .ref ho), (2, .ref (ad 0)), (1, .ref o), (0, .ref K.1)] [] := by
  refine j_aload_n X 4 dL_law_33 rfl rfl ?_
  refine j_iload X 0 dL_law_34 rfl ?_
  refine j_sld X hZ.1.1 hZ.1.2.1 hZ.1.2.2 (by rw [hL]; exact vp_in_nI (n := 0) (N := 6) (by decide) (by decide)) dL_law_36 ?_
  refine j_bipush (v := 31) X (by decide) dL_law_37 ?_
  refine j_iand X dL_law_39 ?_
  obtain ⟨q, hq, e9⟩ := and31 (K.2.2 (nI 0).toNatClampNeg)
  refine j_top (y := nI q) e9 ?_
  rcases (show q = 0 ∨ q = 1 ∨ q = 2 ∨ q = 3 ∨ q = 4 ∨ q = 5 ∨ q = 6 ∨ q = 7 ∨ q = 8 ∨ q = 9 ∨ q = 10 ∨ q = 11 ∨ q = 12 ∨ q = 13 ∨ q = 14 ∨ q = 15 ∨ q = 16 ∨ q = 17 ∨ q = 18 ∨ q = 19 ∨ q = 20 ∨ q = 21 ∨ q = 22 ∨ 23 ≤ q by omega) with rfl | rfl | rfl | rfl | rfl | rfl | rfl | rfl | rfl | rfl | rfl | rfl | rfl | rfl | rfl | rfl | rfl | rfl | rfl | rfl | rfl | rfl | rfl | h9
  · exact j_tsw X (tgt := 148) dL_law_40 (by decide) (by decide) rfl (by decide) (lk_feed hl9 X hZ hL)
  · exact j_tsw X (tgt := 252) dL_law_40 (by decide) (by decide) rfl (by decide) (lk_trim hl9 X hZ hL)
  · exact j_tsw X (tgt := 308) dL_law_40 (by decide) (by decide) rfl (by decide) (lk_map hl9 X hZ hL)
  · exact j_tsw X (tgt := 321) dL_law_40 (by decide) (by decide) rfl (by decide) (lk_openAt hl9 X hZ hL)
  · exact j_tsw X (tgt := 389) dL_law_40 (by decide) (by decide) rfl (by decide) (lk_cell hl9 X hZ hL)
  · exact j_tsw X (tgt := 469) dL_law_40 (by decide) (by decide) rfl (by decide) (lk_come hl9 X hZ hL)
  · exact j_tsw X (tgt := 573) dL_law_40 (by decide) (by decide) rfl (by decide) (lk_order hl9 X hZ hL)
  · exact j_tsw X (tgt := 665) dL_law_40 (by decide) (by decide) rfl (by decide) (lk_clear hl9 X hZ hL)
  · exact j_tsw X (tgt := 721) dL_law_40 (by decide) (by decide) rfl (by decide) (lk_team hl9 X hZ hL)
  · exact j_tsw X (tgt := 789) dL_law_40 (by decide) (by decide) rfl (by decide) (lk_heard hl9 X hZ hL)
  · exact j_tsw X (tgt := 857) dL_law_40 (by decide) (by decide) rfl (by decide) (lk_pass hl9 X hZ hL)
  · exact j_tsw X (tgt := 913) dL_law_40 (by decide) (by decide) rfl (by decide) (lk_count hl9 X hZ hL)
  · exact j_tsw X (tgt := 969) dL_law_40 (by decide) (by decide) rfl (by decide) (lk_way hl9 X hZ hL)
  · exact j_tsw X (tgt := 1061) dL_law_40 (by decide) (by decide) rfl (by decide) (lk_reach hl9 X hZ hL)
  · exact j_tsw X (tgt := 1141) dL_law_40 (by decide) (by decide) rfl (by decide) (lk_target hl9 X hZ hL)
  · exact j_tsw X (tgt := 1197) dL_law_40 (by decide) (by decide) rfl (by decide) (lk_foresee hl9 X hZ hL)
  · exact j_tsw X (tgt := 1265) dL_law_40 (by decide) (by decide) rfl (by decide) (lk_falls hl9 X hZ hL)
  · exact j_tsw X (tgt := 1333) dL_law_40 (by decide) (by decide) rfl (by decide) (lk_lasts hl9 X hZ hL)
  · exact j_tsw X (tgt := 1389) dL_law_40 (by decide) (by decide) rfl (by decide) (lk_advise hl9 X hZ hL)
  · exact j_tsw X (tgt := 1457) dL_law_40 (by decide) (by decide) rfl (by decide) (lk_draw hl9 X hZ hL)
  · exact j_tsw X (tgt := 1470) dL_law_40 (by decide) (by decide) rfl (by decide) (lk_byteAt hl9 X hZ hL)
  · exact j_tsw X (tgt := 1526) dL_law_40 (by decide) (by decide) rfl (by decide) (lk_share hl9 X hZ hL)
  · exact j_tsw X (tgt := 1567) dL_law_40 (by decide) (by decide) rfl (by decide) (lk_digest hl9 X hZ hL)
  · refine j_tswO X (tgt := 1581) dL_law_40 (Or.inr (by rw [nI_toInt (by omega)]; omega)) (by decide) ?_
    refine j_lo [0, 4] (lo' := [(4, .int (nI 0)), (0, .ref K.1)]) rfl ?_
    exact law_fin X hZ hL (Nat.le_of_ble_eq_true rfl) (Nat.le_of_ble_eq_true rfl)
theorem la_1 : ∀ w ∈ u_ws RX5 TX5 6, w ∈ wsL_law := by decide +kernel
theorem la_2 : Cond.classLink RL 8 RX5 ∈ wsL_law := by decide +kernel
theorem la_3 : Cond.instantiable RX5 6 ∈ wsL_law := by decide +kernel
theorem la_4 : Cond.initialized RX5 ∈ wsL_law := by decide +kernel
theorem la_5 : Cond.methodLink RL 77 yX5_init ∈ wsL_law := by decide +kernel
theorem la_6 : Cond.instanceMethod yX5_init ∈ wsL_law := by decide +kernel
theorem la_7 : yX5_init.cls ≠ "java/lang/invoke/MethodHandle" ∧ yX5_init.cls ≠ "java/lang/invoke/VarHandle" ∧ (parseMethodDescriptor yX5_init.desc).map (fun d => d.parameters.length) = some 0 := by decide +kernel
theorem lb_1 : ∀ w ∈ u_ws RX7 TX7 14, w ∈ wsL_law := by decide +kernel
theorem lb_2 : Cond.classLink RL 78 RX7 ∈ wsL_law := by decide +kernel
theorem lb_3 : Cond.instantiable RX7 14 ∈ wsL_law := by decide +kernel
theorem lb_4 : Cond.initialized RX7 ∈ wsL_law := by decide +kernel
theorem lb_5 : Cond.methodLink RL 80 yX7_init ∈ wsL_law := by decide +kernel
theorem lb_6 : Cond.instanceMethod yX7_init ∈ wsL_law := by decide +kernel
theorem lb_7 : yX7_init.cls ≠ "java/lang/invoke/MethodHandle" ∧ yX7_init.cls ≠ "java/lang/invoke/VarHandle" ∧ (parseMethodDescriptor yX7_init.desc).map (fun d => d.parameters.length) = some 0 := by decide +kernel
theorem lb_8 : Cond.arrayClass .long ∈ wsL_law := by decide +kernel
set_option maxRecDepth 100000 in
set_option maxHeartbeats 4000000 in
theorem law_all (hl9 : l.stackTraces = false) (X : j_X p s m #[Value.ref K.1] meth c code 9 RL wsL_law ret G (j_ty cI cZ cT cB)) (hZ : j_Z K (va_A ([] : va_W) s.heap.size) s s.heap) (hL6 : K.2.1 ≤ 6) : j_V p l e room_1 s m #[Value.ref K.1] below meth c (lw_Z below #[Value.ref K.1] s) G 9 (va_A ([] : va_W) s.heap.size) 0 0 ([] : va_W) 0 [(0, .ref K.1)] [] := by
  have hA := hA_law (s := s)
  refine j_new X hA (ci := 5) (C := RX5) (T := TX5) (N := 6) (fs := [.null, .null, .int 0, .null, .null, .null]) la_1 tyX5_ok la_2 la_3 la_4 rfl (fun j hj => by rcases (show j = 0 ∨ j = 1 ∨ j = 2 ∨ j = 3 ∨ j = 4 ∨ j = 5 by omega) with rfl | rfl | rfl | rfl | rfl | rfl <;> rfl) (Nat.le_of_ble_eq_true rfl) (Nat.le_of_ble_eq_true rfl) dL_law_0 (fun o => ?_)
  refine j_dup X rfl dL_law_3 ?_
  refine j_callZN X hA hA2_law hZ (rest := [.ref o]) la_5 gL_law_X5_init la_4 la_6 rfl la_7 ⟨Nat.le_of_ble_eq_true rfl, Nat.le_of_ble_eq_true rfl⟩ (Nat.le_of_ble_eq_true rfl) ⟨by show 1 + 96 ≤ 600002; omega, by show 0 + 6 + 4408 ≤ 7302232; omega⟩ dL_law_4 ?_
  refine j_astore_n (lo' := [(1, .ref o), (0, .ref K.1)]) X dL_law_7 rfl (by decide) rfl ?_
  refine j_new X hA (ci := 7) (C := RX7) (T := TX7) (N := 14) (fs := [.int 0, .null, .int 0, .null, .int 0, .int 0, .null, .null, .null, .null, .null, .null, .null, .null]) lb_1 tyX7_ok lb_2 lb_3 lb_4 rfl (fun j hj => by rcases (show j = 0 ∨ j = 1 ∨ j = 2 ∨ j = 3 ∨ j = 4 ∨ j = 5 ∨ j = 6 ∨ j = 7 ∨ j = 8 ∨ j = 9 ∨ j = 10 ∨ j = 11 ∨ j = 12 ∨ j = 13 by omega) with rfl | rfl | rfl | rfl | rfl | rfl | rfl | rfl | rfl | rfl | rfl | rfl | rfl | rfl <;> rfl) (Nat.le_of_ble_eq_true rfl) (Nat.le_of_ble_eq_true rfl) dL_law_8 (fun a => ?_)
  refine j_dup X rfl dL_law_11 ?_
  refine p_callIU X hA hZ (rest := [.ref a]) (b := a) [(a, .inr (7, [.int 0, .null, .int 0, .null, .int 0, .int 0, .null, .null, .null, .null, .null, .null, .null, .null]))] (z_w cI cZ cT o z_S0) (fun ad => z_w cI cZ cT o z_S0 ++ m_w cI cZ ad m_Z0) List.perm_append_comm (fun _ => List.Perm.refl _) [] (m_init0 a) 0 rfl lb_5 gL_law_X7_init lb_4 lb_6 rfl rfl ⟨rfl, rfl⟩ lb_7 ⟨Nat.le_of_ble_eq_true rfl, Nat.le_of_ble_eq_true rfl⟩ rfl (Nat.le_of_ble_eq_true rfl) ⟨by show 1 + 96 + 1 + 16 ≤ 600002; omega, by show 0 + 6 + 4408 + 14 + 3862 ≤ 7302232; omega⟩ dL_law_12 (fun ad had => ?_)
  subst had
  refine j_astore_n (lo' := [(2, .ref (ad 0)), (1, .ref o), (0, .ref K.1)]) X dL_law_15 rfl (by decide) rfl ?_
  refine j_iconst (v := 1) X (by decide) dL_law_16 ?_
  refine j_newL X hA 3 rfl lb_8 1 (by decide) (by decide) (by decide) (Nat.le_of_ble_eq_true rfl) (Nat.le_of_ble_eq_true rfl) dL_law_17 (fun ho => ?_)
  refine j_perm (lwq_2 (z_w cI cZ cT o z_S0) (m_w cI cZ ad m_Z0) (ho, .inl (cB, 1, .inr (.inl (fun _ => 0))))) ?_
  refine j_wid (k1 := 200) (q1 := 20000) (Nat.le_of_ble_eq_true rfl) (Nat.le_of_ble_eq_true rfl) ?_
  refine j_astore_n (lo' := [(3, .ref ho), (2, .ref (ad 0)), (1, .ref o), (0, .ref K.1)]) X dL_law_19 rfl (by decide) rfl ?_
  refine j_iconst (v := nI 0) X (by decide) dL_law_20 ?_
  refine j_istore (lo' := [(4, .int (nI 0)), (3, .ref ho), (2, .ref (ad 0)), (1, .ref o), (0, .ref K.1)]) X dL_law_21 (by decide) rfl ?_
  refine j_iload X 0 dL_law_23 rfl ?_
  refine j_aload_n X 4 dL_law_25 rfl rfl ?_
  refine j_slen X hZ.1.1 hZ.1.2.1 hZ.1.2.2 dL_law_26 ?_
  refine j_bipush (v := 6) X (by decide) dL_law_27 ?_
  refine j_isub X dL_law_29 ?_
  rcases Classical.em (K.2.1 = 6) with hL | hL
  · exact j_icmp_gt X (tgt := 1587) dL_law_30 (by decide) (fun c9 => absurd c9 (by rw [hL]; decide)) (fun _ => law_go hl9 X hZ hL)
  · refine j_icmp_gt X (tgt := 1587) dL_law_30 (by decide) (fun _ => law_end X hZ (Nat.le_of_ble_eq_true rfl) (Nat.le_of_ble_eq_true rfl)) (fun c9 => absurd ?_ c9)
    rcases (show K.2.1 = 0 ∨ K.2.1 = 1 ∨ K.2.1 = 2 ∨ K.2.1 = 3 ∨ K.2.1 = 4 ∨ K.2.1 = 5 by omega) with h | h | h | h | h | h <;> rw [h] <;> decide
end ZMR
