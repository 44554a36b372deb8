section ZQ1
theorem tcp_at (T : zS) (t k j : Nat) : s_tcp T t 1 k j = (if (14 ≤ k ∧ k ≤ 26) ∧ j = t then T 0 k j else T 1 k j) := by
  by_cases h : (14 ≤ k ∧ k ≤ 26) ∧ j = t
  · rw [if_pos h]
    obtain ⟨h1, rfl⟩ := h
    rcases (show k = 14 ∨ k = 15 ∨ k = 16 ∨ k = 17 ∨ k = 18 ∨ k = 19 ∨ k = 20 ∨ k = 21 ∨ k = 22 ∨ k = 23 ∨ k = 24 ∨ k = 25 ∨ k = 26 by omega) with rfl | rfl | rfl | rfl | rfl | rfl | rfl | rfl | rfl | rfl | rfl | rfl | rfl <;> simp [s_tcp, z_up]
  · rw [if_neg h]
    unfold s_tcp
    rw [z_up_ne _ _ (by omega), z_up_ne _ _ (by omega), z_up_ne _ _ (by omega), z_up_ne _ _ (by omega), z_up_ne _ _ (by omega), z_up_ne _ _ (by omega), z_up_ne _ _ (by omega), z_up_ne _ _ (by omega), z_up_ne _ _ (by omega), z_up_ne _ _ (by omega), z_up_ne _ _ (by omega), z_up_ne _ _ (by omega), z_up_ne _ _ (by omega)]
theorem tcopy_at (T : zS) (t k j : Nat) : s_tcopy T t 1 k j = (if ((14 ≤ k ∧ k ≤ 26) ∧ j = t) ∨ (27 + 3 * t ≤ k ∧ k < 27 + 3 * t + 3) then T 0 k j else T 1 k j) := by
  have e0 : ∀ k j, s_tcp T t 0 k j = T 0 k j := fun k j => k0_tcp k0.rf t 0 k j (by decide)
  unfold s_tcopy
  by_cases h2 : k = 27 + 3 * t + 2
  · subst h2
    rw [z_cp_at, z_cp_ne _ (by omega), z_cp_ne _ (by omega), e0, if_pos (by omega)]
  · rw [z_cp_ne _ (by omega)]
    by_cases h1 : k = 27 + 3 * t + 1
    · subst h1
      rw [z_cp_at, z_cp_ne _ (by omega), e0, if_pos (by omega)]
    · rw [z_cp_ne _ (by omega)]
      by_cases h0 : k = 27 + 3 * t + 0
      · subst h0
        rw [z_cp_at, e0, if_pos (by omega)]
      · rw [z_cp_ne _ (by omega), tcp_at]
        by_cases h : (14 ≤ k ∧ k ≤ 26) ∧ j = t
        · rw [if_pos h, if_pos (Or.inl h)]
        · rw [if_neg h, if_neg (by omega)]
theorem tcopyN_at (T : zS) (k j : Nat) : ∀ n, s_tcopyN T n 1 k j = (if ((14 ≤ k ∧ k ≤ 26) ∧ j < n) ∨ (27 ≤ k ∧ (k - 27) / 3 < n) then T 0 k j else T 1 k j)
  | 0 => by rw [if_neg (by omega)]; rfl
  | n + 1 => by
    show s_tcopy (s_tcopyN T n) n 1 k j = _
    rw [tcopy_at, tcopyN_at T k j n, k0_tcopyN k0.rf n 0 k j (by decide)]
    by_cases h : ((14 ≤ k ∧ k ≤ 26) ∧ j = n) ∨ (27 + 3 * n ≤ k ∧ k < 27 + 3 * n + 3)
    · rw [if_pos h, if_pos (by omega)]
    · rw [if_neg h]
      by_cases h2 : ((14 ≤ k ∧ k ≤ 26) ∧ j < n) ∨ (27 ≤ k ∧ (k - 27) / 3 < n)
      · rw [if_pos h2, if_pos (by omega)]
      · rw [if_neg h2, if_neg (by omega)]
theorem gcp_at (S : zS) (k j : Nat) : s_gcp S 1 k j = (if k < 8 then S 0 k j else S 1 k j) := by
  by_cases h : k < 8
  · rw [if_pos h]
    rcases (show k = 0 ∨ k = 1 ∨ k = 2 ∨ k = 3 ∨ k = 4 ∨ k = 5 ∨ k = 6 ∨ k = 7 by omega) with rfl | rfl | rfl | rfl | rfl | rfl | rfl | rfl <;> simp [s_gcp, z_cpA, z_put]
  · rw [if_neg h]
    unfold s_gcp
    rw [z_cp_ne _ (by omega), z_cp_ne _ (by omega), z_cp_ne _ (by omega), z_cp_ne _ (by omega), z_cp_ne _ (by omega), z_cp_ne _ (by omega), z_cp_ne _ (by omega), z_cp_ne _ (by omega)]
theorem scp_at (S : zS) (n k j : Nat) : s_scp S n 1 k j = (if k = 13 ∧ j = 0 then S 0 13 0 else if k = 12 ∧ j = 0 then nI n else if k = 11 ∧ j = 0 then S 0 11 0 else if k = 10 ∧ j = 0 then S 0 10 0 else if k < 8 then S 0 k j else S 1 k j) := by
  have e0 : ∀ k j, s_gcp S 0 k j = S 0 k j := fun k j => k0_gcp k0.rf 0 k j (by decide)
  have e1 : ∀ k j, s_gcopy S 0 k j = S 0 k j := fun k j => k0_gcopy k0.rf 0 k j (by decide)
  unfold s_scp
  by_cases h13 : k = 13 ∧ j = 0
  · rw [if_pos h13]; obtain ⟨rfl, rfl⟩ := h13; rw [z_up_at, e1]
  rw [if_neg h13, z_up_ne _ _ (by omega)]
  by_cases h12 : k = 12 ∧ j = 0
  · rw [if_pos h12]; obtain ⟨rfl, rfl⟩ := h12; rw [z_up_at]
  rw [if_neg h12, z_up_ne _ _ (by omega)]
  unfold s_gcopy
  by_cases h11 : k = 11 ∧ j = 0
  · rw [if_pos h11]; obtain ⟨rfl, rfl⟩ := h11; rw [z_up_at, e0]
  rw [if_neg h11, z_up_ne _ _ (by omega)]
  by_cases h10 : k = 10 ∧ j = 0
  · rw [if_pos h10]; obtain ⟨rfl, rfl⟩ := h10; rw [z_up_at, e0]
  rw [if_neg h10, z_up_ne _ _ (by omega), gcp_at]
/-- what the siege ahead holds behind copyFrom: siege 0, as far as that is used -/
theorem scopy_at (S : zS) (n k j : Nat) : s_scopy S n 1 k j = (if ((14 ≤ k ∧ k ≤ 26) ∧ j < n) ∨ (27 ≤ k ∧ (k - 27) / 3 < n) then S 0 k j else s_scp S n 1 k j) := by
  unfold s_scopy
  rw [tcopyN_at, k0_scp k0.rf n 0 k j (by decide)]
def z_rg (S : zS) (w : Nat) : Prop := ∀ t, t < 8 → inr (S w 15 t) 144 ∧ inr (S w 26 t) 13 ∧ ∀ i, i < 12 → inr (S w (27 + 3 * t + 0) i) 7 ∧ inr (S w (27 + 3 * t + 1) i) 4
theorem ok_scopy {S : zS} {n : Nat} (h0 : z_ok S 0 n) (h1 : z_rg S 1) : z_ok (s_scopy S n) 1 n := by
  have hn := h0.2.1
  have e : ∀ k j, 14 ≤ k → s_scopy S n 1 k j = (if ((14 ≤ k ∧ k ≤ 26) ∧ j < n) ∨ (27 ≤ k ∧ (k - 27) / 3 < n) then S 0 k j else S 1 k j) := fun k j hk => by
    have e1 : s_scp S n 1 k j = S 1 k j := by rw [scp_at, if_neg (by omega), if_neg (by omega), if_neg (by omega), if_neg (by omega), if_neg (by omega)]
    rw [scopy_at, e1]
  refine ⟨?_, hn, fun t ht => ?_⟩
  · rw [scopy_at, if_neg (by omega), scp_at]; simp
  · obtain ⟨a1, a2, a3⟩ := h0.2.2 t ht
    obtain ⟨b1, b2, b3⟩ := h1 t ht
    refine ⟨?_, ?_, fun i hi => ⟨?_, ?_⟩⟩
    · rw [e 15 t (by omega)]; split <;> assumption
    · rw [e 26 t (by omega)]; split <;> assumption
    · rw [e _ i (by omega)]; split
      · exact (a3 i hi).1
      · exact (b3 i hi).1
    · rw [e _ i (by omega)]; split
      · exact (a3 i hi).2
      · exact (b3 i hi).2
theorem z_ok.rg {S : zS} {w n : Nat} (h : z_ok S w n) : z_rg S w := h.2.2
end ZQ1
