section ZL5
variable {p : Program} {l : Launch} {e : Env} {s : State} {m : MethodId} {below : List Frame} {meth : Method} {c : Code} {G : va_G} {K : Nat × Nat × (Nat → Int32)} {cI cZ cT cB : ClassId} {o n kc qc : Nat} {S : zS}
abbrev q_ar (a : Nat) (cI : ClassId) (n : Nat) (f : Nat → Int32) : Nat × va_E := (a, .inl (cI, n, .inl f))
theorem cmp_self (x : Int64) : lg_cmp x x = 0 := by
  unfold lg_cmp
  rw [if_neg (Int64.lt_irrefl), if_pos rfl]
theorem bo_J (h : zJ S n) : z_bo S 0 := fun t _ => ⟨(h.2.2.1.2.1 t).2.2.1, (h.2.2.1.2.1 t).2.2.2⟩
theorem ne_of_lt0 {x : Int32} (h : 0 < x) : x ≠ 0 := fun q => absurd (q ▸ h) (Int32.lt_irrefl)
theorem rockl_0 {S : zS} {a : Nat} (h : 0 < S 0 0 a) : s_isRock S 0 a = 0 := if_neg (ne_of_lt0 h)
theorem tunl_0 {S : zS} {a : Nat} (h : S 0 2 a = 0) : s_isTunnel S 0 a = 0 := if_neg (by rw [h]; decide)
theorem upd_upto {f : Nat → Int32} {j : Nat} {x : Int32} {P : Nat → Int32} (h : ∀ u, u < j → f u = P u) (hx : x = P j) : ∀ u, u < j + 1 → upd f j x u = P u := fun u hu => by
  by_cases q : u = j
  · subst q; rw [show upd f u x u = x from if_pos rfl]; exact hx
  · rw [show upd f j x u = f u from if_neg q]; exact h u (by omega)
theorem c_X5_digS (l : Launch) (G : va_G) (cI cZ cT : ClassId) (o : Nat) (S0 S : zS) (n : Nat) (hJ : zJ S n) (hQ : zQ S0 S) : zL l G cI cZ cT o yX5_digest wsX5_digest { frames := 3, cells := 0, slots := 0, locals := 65 } [.ref (o + 0)] S (fun r u => r = s_digest S0 n 0 ∧ u = S) := by
  have h := c_X5_digest l G cI cZ cT o S n 0 hJ.1 (by decide) hJ.2.2.2
  rw [digest_same hQ n 0] at h
  exact h
theorem hA_law : ∀ q, s.heap.size ≤ q → va_A ([] : va_W) s.heap.size q := fun _ h => Or.inr h
theorem hA2_law : ∀ q, va_A ([] : va_W) s.heap.size q → s.heap.size ≤ q := fun q h => h.elim (fun ⟨k, e, h⟩ => by cases h) id
theorem ar_perm (more zw : va_W) (q : Nat × va_E) : ((more ++ zw) ++ [q]).Perm ((more ++ [q]) ++ zw) := by
  rw [List.append_assoc, List.append_assoc]
  exact List.Perm.append_left more List.perm_append_comm
set_option maxRecDepth 100000 in
set_option maxHeartbeats 4000000 in
theorem law_1 (X : j_X p s m #[Value.ref K.1] meth c code 22 RL wsL_law ret G (j_ty cI cZ cT cB)) (hZ : j_Z K (va_A ([] : va_W) s.heap.size) s s.heap) (hL : K.2.1 < 2 ^ 31) (hkc : kc ≤ 2000) (hqc : qc ≤ 500000) {i : Nat} (hi : i < 16) (hJ : zJ S n) (kk : ∀ (x : Int32) (a : Nat) (S1 : zS), a < 144 → zJ S1 n → j_V p l e room_1 s m #[Value.ref K.1] below meth c (lw_Z below #[Value.ref K.1] s) G 22 (va_A ([] : va_W) s.heap.size) kc qc (z_w cI cZ cT o S1) 103 [(6, .int (nI 0)), (5, .int (nI a)), (4, .int x), (3, .int (nI i)), (2, .int (nI n)), (1, .ref o), (0, .ref K.1)] []) : j_V p l e room_1 s m #[Value.ref K.1] below meth c (lw_Z below #[Value.ref K.1] s) G 22 (va_A ([] : va_W) s.heap.size) kc qc (z_w cI cZ cT o S) 19 [(3, .int (nI i)), (2, .int (nI n)), (1, .ref o), (0, .ref K.1)] [] := by
  have hA := hA_law (s := s)
  refine j_aload_n X 3 dL_law_19 rfl rfl ?_
  refine j_iload_n X 0 dL_law_20 rfl rfl ?_
  refine q_cell X hA hZ (rest := []) i (by omega) hL gL_law_L_cell ⟨Nat.le_of_ble_eq_true rfl, Nat.le_of_ble_eq_true rfl⟩ (Nat.le_of_ble_eq_true rfl) ⟨by show kc ≤ 600086; omega, by show qc ≤ 7301442; omega⟩ dL_law_21 (fun r0 => ?_)
  refine j_iconst (v := nI 2) X (by decide) dL_law_24 ?_
  refine j_ishrA X dL_law_25 (fun x25 => ?_)
  refine j_istore (lo' := [(4, .int x25), (3, .int (nI i)), (2, .int (nI n)), (1, .ref o), (0, .ref K.1)]) X dL_law_26 (by decide) rfl ?_
  refine j_iload X 0 dL_law_28 rfl ?_
  refine j_iconst (v := nI 3) X (by decide) dL_law_30 ?_
  refine j_ishrA X dL_law_31 (fun x31 => ?_)
  refine j_sipush (v := nI 144) X (by decide) dL_law_32 ?_
  refine q_below X hA hZ (rest := []) x31 144 (by decide) (by decide) gL_law_L_below ⟨Nat.le_of_ble_eq_true rfl, Nat.le_of_ble_eq_true rfl⟩ (Nat.le_of_ble_eq_true rfl) ⟨by show kc ≤ 600086; omega, by show qc ≤ 7301442; omega⟩ dL_law_35 (fun a ha => ?_)
  refine j_istore (lo' := [(5, .int (nI a)), (4, .int x25), (3, .int (nI i)), (2, .int (nI n)), (1, .ref o), (0, .ref K.1)]) X dL_law_38 (by decide) rfl ?_
  refine j_iload X 1 dL_law_40 rfl ?_
  refine j_iconst (v := nI 5) X (by decide) dL_law_42 ?_
  refine q_below X hA hZ (rest := []) x25 5 (by decide) (by decide) gL_law_L_below ⟨Nat.le_of_ble_eq_true rfl, Nat.le_of_ble_eq_true rfl⟩ (Nat.le_of_ble_eq_true rfl) ⟨by show kc ≤ 600086; omega, by show qc ≤ 7301442; omega⟩ dL_law_43 (fun k5 hk5 => ?_)
  refine j_nif_ne X k5 rfl (by omega) (tgt := 100) dL_law_46 (by decide) (fun h1 => ?_) (fun h1 => ?_)
  · refine j_iconst (v := nI 0) X (by decide) dL_law_100 ?_
    refine j_istore (lo' := [(6, .int (nI 0)), (5, .int (nI a)), (4, .int x25), (3, .int (nI i)), (2, .int (nI n)), (1, .ref o), (0, .ref K.1)]) X dL_law_101 (by decide) rfl ?_
    exact kk x25 a S ha (hJ)
  · refine j_aload_n X 4 dL_law_49 rfl rfl ?_
    refine j_iload X 0 dL_law_50 rfl ?_
    refine j_bipush (v := nI 12) X (by decide) dL_law_52 ?_
    refine j_irem X (by decide) dL_law_54 ?_
    refine j_top (y := nI (a % 12)) (pk_rem (a := a) (d := 12) (by omega) (by decide) (by decide)) ?_
    refine j_iload X 0 dL_law_55 rfl ?_
    refine j_bipush (v := nI 12) X (by decide) dL_law_57 ?_
    refine j_idiv X (by decide) dL_law_59 ?_
    refine j_top (y := nI (a / 12)) (pk_div (a := a) (d := 12) (by omega) (by decide) (by decide)) ?_
    refine j_iconst (v := nI 0) X (by decide) dL_law_60 ?_
    refine j_callZIf X hA hZ (rest := []) ([]) (S := S) [.int (nI (a % 12)), .int (nI (a / 12)), .int (nI 0)] (c_X5_cellA l G cI cZ cT o S a 0 ha (by decide)) 3 rfl gL_law_X5_cell rfl ⟨rfl, rfl⟩ hz_X5_cell ⟨Nat.le_of_ble_eq_true rfl, Nat.le_of_ble_eq_true rfl⟩ rfl (Nat.le_of_ble_eq_true rfl) ⟨by show kc ≤ 600086; omega, by show qc ≤ 7301442; omega⟩ dL_law_61 ?_
    refine j_if_le X (tgt := 100) dL_law_64 (by decide) (fun h2 => ?_) (fun h2 => ?_)
    · refine j_iconst (v := nI 0) X (by decide) dL_law_100 ?_
      refine j_istore (lo' := [(6, .int (nI 0)), (5, .int (nI a)), (4, .int x25), (3, .int (nI i)), (2, .int (nI n)), (1, .ref o), (0, .ref K.1)]) X dL_law_101 (by decide) rfl ?_
      exact kk x25 a S ha (hJ)
    · refine j_aload_n X 4 dL_law_67 rfl rfl ?_
      refine j_iload X 0 dL_law_68 rfl ?_
      refine j_bipush (v := nI 12) X (by decide) dL_law_70 ?_
      refine j_irem X (by decide) dL_law_72 ?_
      refine j_top (y := nI (a % 12)) (pk_rem (a := a) (d := 12) (by omega) (by decide) (by decide)) ?_
      refine j_iload X 0 dL_law_73 rfl ?_
      refine j_bipush (v := nI 12) X (by decide) dL_law_75 ?_
      refine j_idiv X (by decide) dL_law_77 ?_
      refine j_top (y := nI (a / 12)) (pk_div (a := a) (d := 12) (by omega) (by decide) (by decide)) ?_
      refine j_iconst (v := nI 2) X (by decide) dL_law_78 ?_
      refine j_callZIf X hA hZ (rest := []) ([]) (S := S) [.int (nI (a % 12)), .int (nI (a / 12)), .int (nI 2)] (c_X5_cellA l G cI cZ cT o S a 2 ha (by decide)) 3 rfl gL_law_X5_cell rfl ⟨rfl, rfl⟩ hz_X5_cell ⟨Nat.le_of_ble_eq_true rfl, Nat.le_of_ble_eq_true rfl⟩ rfl (Nat.le_of_ble_eq_true rfl) ⟨by show kc ≤ 600086; omega, by show qc ≤ 7301442; omega⟩ dL_law_79 ?_
      refine j_if_ne X (tgt := 100) dL_law_82 (by decide) (fun h3 => ?_) (fun h3 => ?_)
      · refine j_iconst (v := nI 0) X (by decide) dL_law_100 ?_
        refine j_istore (lo' := [(6, .int (nI 0)), (5, .int (nI a)), (4, .int x25), (3, .int (nI i)), (2, .int (nI n)), (1, .ref o), (0, .ref K.1)]) X dL_law_101 (by decide) rfl ?_
        exact kk x25 a S ha (hJ)
      · refine j_aload_n X 4 dL_law_85 rfl rfl ?_
        refine j_iload X 0 dL_law_86 rfl ?_
        refine j_bipush (v := nI 12) X (by decide) dL_law_88 ?_
        refine j_irem X (by decide) dL_law_90 ?_
        refine j_top (y := nI (a % 12)) (pk_rem (a := a) (d := 12) (by omega) (by decide) (by decide)) ?_
        refine j_iload X 0 dL_law_91 rfl ?_
        refine j_bipush (v := nI 12) X (by decide) dL_law_93 ?_
        refine j_idiv X (by decide) dL_law_95 ?_
        refine j_top (y := nI (a / 12)) (pk_div (a := a) (d := 12) (by omega) (by decide) (by decide)) ?_
        refine j_callZIf X hA hZ (rest := []) ([]) (S := S) [.int (nI (a % 12)), .int (nI (a / 12))] (c_X5_openA l G cI cZ cT o S a ha (rockl_0 h2) (tunl_0 h3)) 2 rfl gL_law_X5_openAt rfl ⟨rfl, rfl⟩ hz_X5_openAt ⟨Nat.le_of_ble_eq_true rfl, Nat.le_of_ble_eq_true rfl⟩ rfl (Nat.le_of_ble_eq_true rfl) ⟨by show kc ≤ 600086; omega, by show qc ≤ 7301442; omega⟩ dL_law_96 ?_
        refine j_pop X rfl dL_law_99 ?_
        refine j_iconst (v := nI 0) X (by decide) dL_law_100 ?_
        refine j_istore (lo' := [(6, .int (nI 0)), (5, .int (nI a)), (4, .int x25), (3, .int (nI i)), (2, .int (nI n)), (1, .ref o), (0, .ref K.1)]) X dL_law_101 (by decide) rfl ?_
        exact kk x25 a (s_openTunnel S 0 a) ha (J_open hJ (ne_of_lt0 h2))
set_option maxRecDepth 100000 in
set_option maxHeartbeats 4000000 in
theorem law_2 (X : j_X p s m #[Value.ref K.1] meth c code 22 RL wsL_law ret G (j_ty cI cZ cT cB)) (hZ : j_Z K (va_A ([] : va_W) s.heap.size) s s.heap) (hL : K.2.1 < 2 ^ 31) (hkc : kc ≤ 2000) (hqc : qc ≤ 500000) {i a : Nat} {x : Int32} (kk : ∀ S1 : zS, zJ S1 n → j_V p l e room_1 s m #[Value.ref K.1] below meth c (lw_Z below #[Value.ref K.1] s) G 22 (va_A ([] : va_W) s.heap.size) kc qc (z_w cI cZ cT o S1) 176 [(5, .int (nI a)), (4, .int x), (3, .int (nI i)), (2, .int (nI n)), (1, .ref o), (0, .ref K.1)] []) : ∀ (d t : Nat), t + d = n → ∀ S : zS, zJ S n → j_V p l e room_1 s m #[Value.ref K.1] below meth c (lw_Z below #[Value.ref K.1] s) G 22 (va_A ([] : va_W) s.heap.size) kc qc (z_w cI cZ cT o S) 103 [(6, .int (nI t)), (5, .int (nI a)), (4, .int x), (3, .int (nI i)), (2, .int (nI n)), (1, .ref o), (0, .ref K.1)] [] := by
  have hA := hA_law (s := s)
  intro d
  induction d with
  | zero =>
    intro t ht S hJ
    have hn8 := hJ.1.2.1
    refine j_iload X 0 dL_law_103 rfl ?_
    refine j_iload_n X 4 dL_law_105 rfl rfl ?_
    refine j_ncmp_ge X t n rfl rfl (by omega) (by omega) (tgt := 176) dL_law_106 (by decide) (fun h1 => ?_) (fun h1 => ?_)
    · refine j_lo [1, 2, 3, 4, 5, 6] (lo' := [(5, .int (nI a)), (4, .int x), (3, .int (nI i)), (2, .int (nI n)), (1, .ref o), (0, .ref K.1)]) rfl ?_
      exact kk S hJ
    · exact absurd h1 (by omega)
  | succ d ih =>
    intro t ht S hJ
    have hn8 := hJ.1.2.1
    refine j_iload X 0 dL_law_103 rfl ?_
    refine j_iload_n X 4 dL_law_105 rfl rfl ?_
    refine j_ncmp_ge X t n rfl rfl (by omega) (by omega) (tgt := 176) dL_law_106 (by decide) (fun h1 => ?_) (fun h1 => ?_)
    · exact absurd h1 (by omega)
    · have ht8 : t < n := by omega
      refine j_aload_n X 5 dL_law_109 rfl rfl ?_
      refine j_iload X 0 dL_law_110 rfl ?_
      refine j_iconst (v := nI 3) X (by decide) dL_law_112 ?_
      refine j_callZIf X hA hZ (rest := []) ([]) (S := S) [.int (nI t), .int (nI 3)] (c_X5_team l G cI cZ cT o S n t 3 hJ.1 ht8 (by decide)) 2 rfl gL_law_X5_team rfl ⟨rfl, rfl⟩ hz_X5_team ⟨Nat.le_of_ble_eq_true rfl, Nat.le_of_ble_eq_true rfl⟩ rfl (Nat.le_of_ble_eq_true rfl) ⟨by show kc ≤ 600086; omega, by show qc ≤ 7301442; omega⟩ dL_law_113 ?_
      refine j_if_le X (tgt := 170) dL_law_116 (by decide) (fun h2 => ?_) (fun h2 => ?_)
      · refine j_iinc (v := nI (t + 1)) (lo' := [(6, .int (nI (t + 1))), (5, .int (nI a)), (4, .int x), (3, .int (nI i)), (2, .int (nI n)), (1, .ref o), (0, .ref K.1)]) X 0 dL_law_170 rfl ((congrArg (nI t + ·) (show Int32.ofInt 1 = nI 1 by decide)).trans (nI_add t 1)) (by decide) rfl ?_
        refine j_goto X (tgt := 103) dL_law_173 (by decide) ?_
        refine j_lo [0, 1, 2, 3, 4, 5, 6] (lo' := [(6, .int (nI (t + 1))), (5, .int (nI a)), (4, .int x), (3, .int (nI i)), (2, .int (nI n)), (1, .ref o), (0, .ref K.1)]) rfl ?_
        exact ih (t + 1) (by omega) S (hJ)
      · refine j_aload_n X 5 dL_law_119 rfl rfl ?_
        refine j_iload X 0 dL_law_120 rfl ?_
        refine j_iconst (v := nI 5) X (by decide) dL_law_122 ?_
        refine j_callZIf X hA hZ (rest := []) ([]) (S := S) [.int (nI t), .int (nI 5)] (c_X5_team l G cI cZ cT o S n t 5 hJ.1 ht8 (by decide)) 2 rfl gL_law_X5_team rfl ⟨rfl, rfl⟩ hz_X5_team ⟨Nat.le_of_ble_eq_true rfl, Nat.le_of_ble_eq_true rfl⟩ rfl (Nat.le_of_ble_eq_true rfl) ⟨by show kc ≤ 600086; omega, by show qc ≤ 7301442; omega⟩ dL_law_123 ?_
        refine j_bipush (v := nI 12) X (by decide) dL_law_126 ?_
        refine j_icmp_ge X (tgt := 170) dL_law_128 (by decide) (fun h3 => ?_) (fun h3 => ?_)
        · refine j_iinc (v := nI (t + 1)) (lo' := [(6, .int (nI (t + 1))), (5, .int (nI a)), (4, .int x), (3, .int (nI i)), (2, .int (nI n)), (1, .ref o), (0, .ref K.1)]) X 0 dL_law_170 rfl ((congrArg (nI t + ·) (show Int32.ofInt 1 = nI 1 by decide)).trans (nI_add t 1)) (by decide) rfl ?_
          refine j_goto X (tgt := 103) dL_law_173 (by decide) ?_
          refine j_lo [0, 1, 2, 3, 4, 5, 6] (lo' := [(6, .int (nI (t + 1))), (5, .int (nI a)), (4, .int x), (3, .int (nI i)), (2, .int (nI n)), (1, .ref o), (0, .ref K.1)]) rfl ?_
          exact ih (t + 1) (by omega) S (hJ)
        · have hg : 0 < S 0 16 t := h2
          have h4 : S 0 26 t < nI 12 := h3
          obtain ⟨mm, hmm, em⟩ := (hJ.1.2.2 t (by omega)).2.1.ex
          have hm12 : mm < 12 := (nI_ltI (by omega) (by decide)).1 (em ▸ h4)
          refine j_aload_n X 5 dL_law_131 rfl rfl ?_
          refine j_iload X 0 dL_law_132 rfl ?_
          refine j_iload X 2 dL_law_134 rfl ?_
          refine j_iload X 0 dL_law_136 rfl ?_
          refine j_ishrA X dL_law_138 (fun x138 => ?_)
          refine j_bipush (v := nI 7) X (by decide) dL_law_139 ?_
          refine q_below X hA hZ (rest := [.int (nI t), .ref o]) x138 7 (by decide) (by decide) gL_law_L_below ⟨Nat.le_of_ble_eq_true rfl, Nat.le_of_ble_eq_true rfl⟩ (Nat.le_of_ble_eq_true rfl) ⟨by show kc ≤ 600086; omega, by show qc ≤ 7301442; omega⟩ dL_law_141 (fun kd hkd => ?_)
          refine j_iload X 2 dL_law_144 rfl ?_
          refine j_iload X 0 dL_law_146 rfl ?_
          refine j_iconst (v := nI 3) X (by decide) dL_law_148 ?_
          refine j_iadd X dL_law_149 ?_
          refine j_top (y := nI (t + 3)) (nI_add t 3) ?_
          refine j_ishrA X dL_law_150 (fun x150 => ?_)
          refine j_iconst (v := nI 4) X (by decide) dL_law_151 ?_
          refine q_below X hA hZ (rest := [.int (nI kd), .int (nI t), .ref o]) x150 4 (by decide) (by decide) gL_law_L_below ⟨Nat.le_of_ble_eq_true rfl, Nat.le_of_ble_eq_true rfl⟩ (Nat.le_of_ble_eq_true rfl) ⟨by show kc ≤ 600086; omega, by show qc ≤ 7301442; omega⟩ dL_law_152 (fun dr hdr => ?_)
          refine j_iconst (v := nI 1) X (by decide) dL_law_155 ?_
          refine j_iload X 2 dL_law_156 rfl ?_
          refine j_iconst (v := nI 5) X (by decide) dL_law_158 ?_
          refine j_ishrA X dL_law_159 (fun x159 => ?_)
          refine j_bipush (v := nI 6) X (by decide) dL_law_160 ?_
          refine q_below X hA hZ (rest := [.int (nI 1), .int (nI dr), .int (nI kd), .int (nI t), .ref o]) x159 6 (by decide) (by decide) gL_law_L_below ⟨Nat.le_of_ble_eq_true rfl, Nat.le_of_ble_eq_true rfl⟩ (Nat.le_of_ble_eq_true rfl) ⟨by show kc ≤ 600086; omega, by show qc ≤ 7301442; omega⟩ dL_law_162 (fun tm htm => ?_)
          refine j_iadd X dL_law_165 ?_
          refine j_top (y := nI (1 + tm)) (nI_add 1 tm) ?_
          refine j_callZIf X hA hZ (rest := []) ([]) (S := S) [.int (nI t), .int (nI kd), .int (nI dr), .int (nI (1 + tm))] (c_X5_order l G cI cZ cT o S n t kd dr (1 + tm) mm hJ.1 ht8 hkd hdr (by omega) (by omega) hm12 em (gonl_0 hg)) 4 rfl gL_law_X5_order rfl ⟨rfl, rfl⟩ hz_X5_order ⟨Nat.le_of_ble_eq_true rfl, Nat.le_of_ble_eq_true rfl⟩ rfl (Nat.le_of_ble_eq_true rfl) ⟨by show kc ≤ 600086; omega, by show qc ≤ 7301442; omega⟩ dL_law_166 ?_
          refine j_pop X rfl dL_law_169 ?_
          refine j_iinc (v := nI (t + 1)) (lo' := [(6, .int (nI (t + 1))), (5, .int (nI a)), (4, .int x), (3, .int (nI i)), (2, .int (nI n)), (1, .ref o), (0, .ref K.1)]) X 0 dL_law_170 rfl ((congrArg (nI t + ·) (show Int32.ofInt 1 = nI 1 by decide)).trans (nI_add t 1)) (by decide) rfl ?_
          refine j_goto X (tgt := 103) dL_law_173 (by decide) ?_
          refine j_lo [0, 1, 2, 3, 4, 5, 6] (lo' := [(6, .int (nI (t + 1))), (5, .int (nI a)), (4, .int x), (3, .int (nI i)), (2, .int (nI n)), (1, .ref o), (0, .ref K.1)]) rfl ?_
          exact ih (t + 1) (by omega) ((s_addOrder S 0 t mm (nI kd) (nI dr) (nI (1 + tm)))) (J_order hJ _ hm12 hkd hdr)
theorem law_arr : Cond.arrayClass .int ∈ wsL_law := by decide +kernel
set_option maxRecDepth 100000 in
set_option maxHeartbeats 4000000 in
theorem law_3 (X : j_X p s m #[Value.ref K.1] meth c code 22 RL wsL_law ret G (j_ty cI cZ cT cB)) (hZ : j_Z K (va_A ([] : va_W) s.heap.size) s s.heap) (hL : K.2.1 < 2 ^ 31) (hkc : kc ≤ 2000) (hqc : qc ≤ 500000) {i a : Nat} {x : Int32} (ha : a < 144) (hJ : zJ S n) (kk : ∀ (h sn : Nat) (f : Nat → Int32) (S1 : zS), 1 ≤ h → h ≤ 150 → zJ S1 n → zQ S S1 → (∀ u, u < 4 → f u = s_comes S n h u) → j_V p l e room_1 s m #[Value.ref K.1] below meth c (lw_Z below #[Value.ref K.1] s) G 22 (va_A ([] : va_W) s.heap.size) (kc + 1) (qc + 4) ([q_ar sn cI 4 f] ++ z_w cI cZ cT o S1) 228 [(9, .ref sn), (8, .int (nI h)), (6, .long (s_digest S n 0)), (5, .int (nI a)), (4, .int x), (3, .int (nI i)), (2, .int (nI n)), (1, .ref o), (0, .ref K.1)] []) : j_V p l e room_1 s m #[Value.ref K.1] below meth c (lw_Z below #[Value.ref K.1] s) G 22 (va_A ([] : va_W) s.heap.size) kc qc (z_w cI cZ cT o S) 176 [(5, .int (nI a)), (4, .int x), (3, .int (nI i)), (2, .int (nI n)), (1, .ref o), (0, .ref K.1)] [] := by
  have hA := hA_law (s := s)
  refine j_aload_n X 4 dL_law_176 rfl rfl ?_
  refine j_callZLf X hA hZ (rest := []) ([]) (S := S) [] (c_X5_digS l G cI cZ cT o S S n hJ zQ.rf) 0 rfl gL_law_X5_digest rfl ⟨rfl, rfl⟩ hz_X5_digest ⟨Nat.le_of_ble_eq_true rfl, Nat.le_of_ble_eq_true rfl⟩ rfl (Nat.le_of_ble_eq_true rfl) ⟨by show kc ≤ 600086; omega, by show qc ≤ 7301442; omega⟩ dL_law_177 ?_
  refine j_lstore (lo' := [(6, .long (s_digest S n 0)), (5, .int (nI a)), (4, .int x), (3, .int (nI i)), (2, .int (nI n)), (1, .ref o), (0, .ref K.1)]) X dL_law_180 (by decide) rfl ?_
  refine j_iconst (v := nI 1) X (by decide) dL_law_182 ?_
  refine j_iload X 2 dL_law_183 rfl ?_
  refine j_iconst (v := nI 4) X (by decide) dL_law_185 ?_
  refine j_ishrA X dL_law_186 (fun x186 => ?_)
  refine j_bipush (v := nI 6) X (by decide) dL_law_187 ?_
  refine q_below X hA hZ (rest := [.int (nI 1)]) x186 6 (by decide) (by decide) gL_law_L_below ⟨Nat.le_of_ble_eq_true rfl, Nat.le_of_ble_eq_true rfl⟩ (Nat.le_of_ble_eq_true rfl) ⟨by show kc ≤ 600086; omega, by show qc ≤ 7301442; omega⟩ dL_law_189 (fun h6 hh6 => ?_)
  refine j_iadd X dL_law_192 ?_
  refine j_top (y := nI (1 + h6)) (nI_add 1 h6) ?_
  refine j_istore (lo' := [(8, .int (nI (1 + h6))), (6, .long (s_digest S n 0)), (5, .int (nI a)), (4, .int x), (3, .int (nI i)), (2, .int (nI n)), (1, .ref o), (0, .ref K.1)]) X dL_law_193 (by decide) rfl ?_
  refine j_iconst (v := nI 4) X (by decide) dL_law_195 ?_
  refine j_newI X hA 0 rfl law_arr 4 (by decide) (by decide) (by decide) (by show kc + 1 ≤ 600086; omega) (by show qc + 4 ≤ 7301442; omega) dL_law_196 (fun sn => ?_)
  refine j_perm (ws' := ([q_ar sn cI 4 (fun _ => 0)] ++ z_w cI cZ cT o S)) (ar_perm ([] : va_W) _ _) ?_
  refine j_astore (lo' := [(9, .ref sn), (8, .int (nI (1 + h6))), (6, .long (s_digest S n 0)), (5, .int (nI a)), (4, .int x), (3, .int (nI i)), (2, .int (nI n)), (1, .ref o), (0, .ref K.1)]) X dL_law_198 (by decide) rfl ?_
  refine j_iconst (v := nI 0) X (by decide) dL_law_200 ?_
  refine j_istore (lo' := [(10, .int (nI 0)), (9, .ref sn), (8, .int (nI (1 + h6))), (6, .long (s_digest S n 0)), (5, .int (nI a)), (4, .int x), (3, .int (nI i)), (2, .int (nI n)), (1, .ref o), (0, .ref K.1)]) X dL_law_201 (by decide) rfl ?_
  have L203 : ∀ (d j : Nat), j + d = 4 → ∀ (f : Nat → Int32) (S1 : zS), zJ S1 n → zQ S S1 → (∀ u, u < j → f u = s_comes S n (1 + h6) u) → j_V p l e room_1 s m #[Value.ref K.1] below meth c (lw_Z below #[Value.ref K.1] s) G 22 (va_A ([] : va_W) s.heap.size) (kc + 1) (qc + 4) ([q_ar sn cI 4 f] ++ z_w cI cZ cT o S1) 203 [(10, .int (nI j)), (9, .ref sn), (8, .int (nI (1 + h6))), (6, .long (s_digest S n 0)), (5, .int (nI a)), (4, .int x), (3, .int (nI i)), (2, .int (nI n)), (1, .ref o), (0, .ref K.1)] [] := by
    intro d
    induction d with
    | zero =>
      intro j hj f S1 hJ1 hQ hf
      refine j_iload X 0 dL_law_203 rfl ?_
      refine j_iconst (v := nI 4) X (by decide) dL_law_205 ?_
      refine j_ncmp_ge X j 4 rfl rfl (by omega) (by omega) (tgt := 228) dL_law_206 (by decide) (fun h1 => ?_) (fun h1 => ?_)
      · have e4 : j = 4 := by omega
        subst e4
        refine j_lo [1, 2, 3, 4, 5, 6, 7, 8, 9] (lo' := [(9, .ref sn), (8, .int (nI (1 + h6))), (6, .long (s_digest S n 0)), (5, .int (nI a)), (4, .int x), (3, .int (nI i)), (2, .int (nI n)), (1, .ref o), (0, .ref K.1)]) rfl ?_
        exact kk (1 + h6) sn f S1 (by omega) (by omega) hJ1 hQ hf
      · exact absurd h1 (by omega)
    | succ d ih =>
      intro j hj f S1 hJ1 hQ hf
      refine j_iload X 0 dL_law_203 rfl ?_
      refine j_iconst (v := nI 4) X (by decide) dL_law_205 ?_
      refine j_ncmp_ge X j 4 rfl rfl (by omega) (by omega) (tgt := 228) dL_law_206 (by decide) (fun h1 => ?_) (fun h1 => ?_)
      · exact absurd h1 (by omega)
      · refine j_aload X 1 dL_law_209 rfl ?_
        refine j_iload X 0 dL_law_211 rfl ?_
        refine j_aload_n X 8 dL_law_213 rfl rfl ?_
        refine j_iload X 2 dL_law_214 rfl ?_
        refine j_iload X 0 dL_law_216 rfl ?_
        refine j_callZIf X hA hZ (rest := [.int (nI j), .ref sn]) ([q_ar sn cI 4 f]) (S := S1) [.int (nI (1 + h6)), .int (nI j)] (c_X5_foresee l G cI cZ cT o S1 n (1 + h6) j hJ1.1 hJ1.2.1 (bo_J hJ1) (by omega) (by omega) (by omega)) 2 rfl gL_law_X5_foresee rfl ⟨rfl, rfl⟩ hz_X5_foresee ⟨Nat.le_of_ble_eq_true rfl, Nat.le_of_ble_eq_true rfl⟩ rfl (Nat.le_of_ble_eq_true rfl) ⟨by show kc + 1 ≤ 600086; omega, by show qc + 4 ≤ 7301442; omega⟩ dL_law_218 ?_
        refine j_iast X 0 0 rfl rfl j rfl (by omega) (by decide) dL_law_221 ?_
        refine j_weq (ws' := ([q_ar sn cI 4 (upd f j (s_foresee S1 n (1 + h6) j))] ++ z_w cI cZ cT o ((s_ahead S1 n (1 + h6))))) rfl ?_
        refine j_iinc (v := nI (j + 1)) (lo' := [(10, .int (nI (j + 1))), (9, .ref sn), (8, .int (nI (1 + h6))), (6, .long (s_digest S n 0)), (5, .int (nI a)), (4, .int x), (3, .int (nI i)), (2, .int (nI n)), (1, .ref o), (0, .ref K.1)]) X 0 dL_law_222 rfl ((congrArg (nI j + ·) (show Int32.ofInt 1 = nI 1 by decide)).trans (nI_add j 1)) (by decide) rfl ?_
        refine j_goto X (tgt := 203) dL_law_225 (by decide) ?_
        refine j_lo [0, 1, 2, 3, 4, 5, 6, 7, 8, 9] (lo' := [(10, .int (nI (j + 1))), (9, .ref sn), (8, .int (nI (1 + h6))), (6, .long (s_digest S n 0)), (5, .int (nI a)), (4, .int x), (3, .int (nI i)), (2, .int (nI n)), (1, .ref o), (0, .ref K.1)]) rfl ?_
        exact ih (j + 1) (by omega) _ (s_ahead S1 n (1 + h6)) (J_ahead hJ1 _) (hQ.tr (q_ahead S1 n (1 + h6))) (upd_upto (P := s_comes S n (1 + h6)) hf ((foresee_comes S1 hJ1.1 (1 + h6) j).trans (comes_same hQ.1 hJ.1 (1 + h6) j)))
  refine j_lo [0, 1, 2, 3, 4, 5, 6, 7, 8, 9] (lo' := [(10, .int (nI 0)), (9, .ref sn), (8, .int (nI (1 + h6))), (6, .long (s_digest S n 0)), (5, .int (nI a)), (4, .int x), (3, .int (nI i)), (2, .int (nI n)), (1, .ref o), (0, .ref K.1)]) rfl ?_
  exact L203 4 0 (by omega) (fun _ => 0) S hJ zQ.rf (fun u hu => absurd hu (Nat.not_lt_zero u))
set_option maxRecDepth 100000 in
set_option maxHeartbeats 4000000 in
theorem law_4 (X : j_X p s m #[Value.ref K.1] meth c code 22 RL wsL_law ret G (j_ty cI cZ cT cB)) (hZ : j_Z K (va_A ([] : va_W) s.heap.size) s s.heap) (hL : K.2.1 < 2 ^ 31) (hkc : kc ≤ 2000) (hqc : qc ≤ 500000) {i a h sn : Nat} {x : Int32} {f : Nat → Int32} {S1 : zS} (ha : a < 144) (hJ1 : zJ S1 n) (hQ : zQ S S1) (kk : ∀ (S2 : zS), zJ S2 n → zQ S S2 → j_V p l e room_1 s m #[Value.ref K.1] below meth c (lw_Z below #[Value.ref K.1] s) G 22 (va_A ([] : va_W) s.heap.size) kc qc ([q_ar sn cI 4 f] ++ z_w cI cZ cT o S2) 265 [(9, .ref sn), (8, .int (nI h)), (3, .int (nI i)), (2, .int (nI n)), (1, .ref o), (0, .ref K.1)] []) : j_V p l e room_1 s m #[Value.ref K.1] below meth c (lw_Z below #[Value.ref K.1] s) G 22 (va_A ([] : va_W) s.heap.size) kc qc ([q_ar sn cI 4 f] ++ z_w cI cZ cT o S1) 228 [(9, .ref sn), (8, .int (nI h)), (6, .long (s_digest S n 0)), (5, .int (nI a)), (4, .int x), (3, .int (nI i)), (2, .int (nI n)), (1, .ref o), (0, .ref K.1)] [] := by
  have hA := hA_law (s := s)
  have hn8 := hJ1.1.2.1
  have B253 : ∀ S2 : zS, zJ S2 n → zQ S S2 → j_V p l e room_1 s m #[Value.ref K.1] below meth c (lw_Z below #[Value.ref K.1] s) G 22 (va_A ([] : va_W) s.heap.size) kc qc ([q_ar sn cI 4 f] ++ z_w cI cZ cT o S2) 253 [(9, .ref sn), (8, .int (nI h)), (6, .long (s_digest S n 0)), (5, .int (nI a)), (4, .int x), (3, .int (nI i)), (2, .int (nI n)), (1, .ref o), (0, .ref K.1)] [] := by
    intro S2 hJ2 hQ2
    refine j_aload_n X 7 dL_law_253 rfl rfl ?_
    refine j_callZLf X hA hZ (rest := []) ([q_ar sn cI 4 f]) (S := S2) [] (c_X5_digS l G cI cZ cT o S S2 n hJ2 hQ2) 0 rfl gL_law_X5_digest rfl ⟨rfl, rfl⟩ hz_X5_digest ⟨Nat.le_of_ble_eq_true rfl, Nat.le_of_ble_eq_true rfl⟩ rfl (Nat.le_of_ble_eq_true rfl) ⟨by show kc ≤ 600086; omega, by show qc ≤ 7301442; omega⟩ dL_law_254 ?_
    refine j_lload X 2 dL_law_257 rfl ?_
    refine j_lcmp X dL_law_259 ?_
    refine j_top (y := nI 0) (cmp_self _) ?_
    refine j_nif_eq X 0 rfl (by omega) (tgt := 265) dL_law_260 (by decide) (fun h1 => ?_) (fun h1 => ?_)
    · refine j_lo [0, 1, 5, 6, 7, 8] (lo' := [(9, .ref sn), (8, .int (nI h)), (3, .int (nI i)), (2, .int (nI n)), (1, .ref o), (0, .ref K.1)]) rfl ?_
      exact kk S2 hJ2 hQ2
    · exact absurd rfl h1
  refine j_aload_n X 7 dL_law_228 rfl rfl ?_
  refine j_iload X 3 dL_law_229 rfl ?_
  refine j_bipush (v := nI 12) X (by decide) dL_law_231 ?_
  refine j_irem X (by decide) dL_law_233 ?_
  refine j_top (y := nI (a % 12)) (pk_rem (a := a) (d := 12) (by omega) (by decide) (by decide)) ?_
  refine j_iload X 3 dL_law_234 rfl ?_
  refine j_bipush (v := nI 12) X (by decide) dL_law_236 ?_
  refine j_idiv X (by decide) dL_law_238 ?_
  refine j_top (y := nI (a / 12)) (pk_div (a := a) (d := 12) (by omega) (by decide) (by decide)) ?_
  refine j_callZI X hA hZ (rest := []) ([q_ar sn cI 4 f]) (S := S1) [.int (nI (a % 12)), .int (nI (a / 12))] (c_X5_falls l G cI cZ cT o S1 n (a % 12) (a / 12) hJ1.1 hJ1.2.1 (bo_J hJ1) (by omega) (by omega)) 2 rfl gL_law_X5_falls rfl ⟨rfl, rfl⟩ hz_X5_falls ⟨Nat.le_of_ble_eq_true rfl, Nat.le_of_ble_eq_true rfl⟩ rfl (Nat.le_of_ble_eq_true rfl) ⟨by show kc ≤ 600086; omega, by show qc ≤ 7301442; omega⟩ dL_law_239 (fun r9 S9 hS9 => ?_)
  obtain ⟨i9, rfl⟩ := hS9
  have hJ3 := J_ahead hJ1 i9
  have hQ3 := hQ.tr (q_ahead S1 n i9)
  refine j_pop X rfl dL_law_242 ?_
  refine j_iload_n X 6 dL_law_243 rfl rfl ?_
  refine j_nif_le X n rfl (by omega) (tgt := 253) dL_law_244 (by decide) (fun h1 => ?_) (fun h1 => ?_)
  · exact B253 (s_hours (s_scopy S1 n) 1 n i9) hJ3 hQ3
  · refine j_aload_n X 7 dL_law_247 rfl rfl ?_
    refine j_iconst (v := nI 0) X (by decide) dL_law_248 ?_
    refine j_callZIf X hA hZ (rest := []) ([q_ar sn cI 4 f]) (S := (s_hours (s_scopy S1 n) 1 n i9)) [.int (nI 0)] (c_X5_target l G cI cZ cT o (s_hours (s_scopy S1 n) 1 n i9) n 0 hJ3.1 h1 ) 1 rfl gL_law_X5_target rfl ⟨rfl, rfl⟩ hz_X5_target ⟨Nat.le_of_ble_eq_true rfl, Nat.le_of_ble_eq_true rfl⟩ rfl (Nat.le_of_ble_eq_true rfl) ⟨by show kc ≤ 600086; omega, by show qc ≤ 7301442; omega⟩ dL_law_249 ?_
    refine j_pop X rfl dL_law_252 ?_
    exact B253 (s_targ (s_hours (s_scopy S1 n) 1 n i9) 0) (J_targ hJ3 0) (hQ3.tr (q_targ (s_hours (s_scopy S1 n) 1 n i9) 0))
set_option maxRecDepth 100000 in
set_option maxHeartbeats 4000000 in
theorem law_5 (X : j_X p s m #[Value.ref K.1] meth c code 22 RL wsL_law ret G (j_ty cI cZ cT cB)) (hZ : j_Z K (va_A ([] : va_W) s.heap.size) s s.heap) (hL : K.2.1 < 2 ^ 31) (hkc : kc ≤ 2000) (hqc : qc ≤ 500000) {i h sn : Nat} {f : Nat → Int32} (hJ : zJ S n) (kk : ∀ (wl : Nat) (g : Nat → Int32), (∀ u, u < 144 → g u = S 0 1 u) → j_V p l e room_1 s m #[Value.ref K.1] below meth c (lw_Z below #[Value.ref K.1] s) G 22 (va_A ([] : va_W) s.heap.size) (kc + 1) (qc + 144) ([q_ar sn cI 4 f, q_ar wl cI 144 g] ++ z_w cI cZ cT o S) 309 [(10, .ref wl), (9, .ref sn), (8, .int (nI h)), (3, .int (nI i)), (2, .int (nI n)), (1, .ref o), (0, .ref K.1)] []) : j_V p l e room_1 s m #[Value.ref K.1] below meth c (lw_Z below #[Value.ref K.1] s) G 22 (va_A ([] : va_W) s.heap.size) kc qc ([q_ar sn cI 4 f] ++ z_w cI cZ cT o S) 265 [(9, .ref sn), (8, .int (nI h)), (3, .int (nI i)), (2, .int (nI n)), (1, .ref o), (0, .ref K.1)] [] := by
  have hA := hA_law (s := s)
  refine j_sipush (v := nI 144) X (by decide) dL_law_265 ?_
  refine j_newI X hA 0 rfl law_arr 144 (by decide) (by decide) (by decide) (by show kc + 1 ≤ 600086; omega) (by show qc + 144 ≤ 7301442; omega) dL_law_268 (fun wl => ?_)
  refine j_perm (ws' := ([q_ar sn cI 4 f, q_ar wl cI 144 (fun _ => 0)] ++ z_w cI cZ cT o S)) (ar_perm [q_ar sn cI 4 f] _ _) ?_
  refine j_astore (lo' := [(10, .ref wl), (9, .ref sn), (8, .int (nI h)), (3, .int (nI i)), (2, .int (nI n)), (1, .ref o), (0, .ref K.1)]) X dL_law_270 (by decide) rfl ?_
  refine j_iconst (v := nI 0) X (by decide) dL_law_272 ?_
  refine j_istore (lo' := [(11, .int (nI 0)), (10, .ref wl), (9, .ref sn), (8, .int (nI h)), (3, .int (nI i)), (2, .int (nI n)), (1, .ref o), (0, .ref K.1)]) X dL_law_273 (by decide) rfl ?_
  have L275 : ∀ (d j : Nat), j + d = 144 → ∀ (g : Nat → Int32), (∀ u, u < j → g u = S 0 1 u) → j_V p l e room_1 s m #[Value.ref K.1] below meth c (lw_Z below #[Value.ref K.1] s) G 22 (va_A ([] : va_W) s.heap.size) (kc + 1) (qc + 144) ([q_ar sn cI 4 f, q_ar wl cI 144 g] ++ z_w cI cZ cT o S) 275 [(11, .int (nI j)), (10, .ref wl), (9, .ref sn), (8, .int (nI h)), (3, .int (nI i)), (2, .int (nI n)), (1, .ref o), (0, .ref K.1)] [] := by
    intro d
    induction d with
    | zero =>
      intro j hj g hg
      refine j_iload X 0 dL_law_275 rfl ?_
      refine j_sipush (v := nI 144) X (by decide) dL_law_277 ?_
      refine j_ncmp_ge X j 144 rfl rfl (by omega) (by omega) (tgt := 309) dL_law_280 (by decide) (fun h1 => ?_) (fun h1 => ?_)
      · have e4 : j = 144 := by omega
        subst e4
        refine j_lo [1, 2, 3, 4, 5, 6, 7] (lo' := [(10, .ref wl), (9, .ref sn), (8, .int (nI h)), (3, .int (nI i)), (2, .int (nI n)), (1, .ref o), (0, .ref K.1)]) rfl ?_
        exact kk wl g hg
      · exact absurd h1 (by omega)
    | succ d ih =>
      intro j hj g hg
      refine j_iload X 0 dL_law_275 rfl ?_
      refine j_sipush (v := nI 144) X (by decide) dL_law_277 ?_
      refine j_ncmp_ge X j 144 rfl rfl (by omega) (by omega) (tgt := 309) dL_law_280 (by decide) (fun h1 => ?_) (fun h1 => ?_)
      · exact absurd h1 (by omega)
      · refine j_aload X 1 dL_law_283 rfl ?_
        refine j_iload X 0 dL_law_285 rfl ?_
        refine j_aload_n X 6 dL_law_287 rfl rfl ?_
        refine j_iload X 0 dL_law_288 rfl ?_
        refine j_bipush (v := nI 12) X (by decide) dL_law_290 ?_
        refine j_irem X (by decide) dL_law_292 ?_
        refine j_top (y := nI (j % 12)) (pk_rem (a := j) (d := 12) (by omega) (by decide) (by decide)) ?_
        refine j_iload X 0 dL_law_293 rfl ?_
        refine j_bipush (v := nI 12) X (by decide) dL_law_295 ?_
        refine j_idiv X (by decide) dL_law_297 ?_
        refine j_top (y := nI (j / 12)) (pk_div (a := j) (d := 12) (by omega) (by decide) (by decide)) ?_
        refine j_iconst (v := nI 1) X (by decide) dL_law_298 ?_
        refine j_callZIf X hA hZ (rest := [.int (nI j), .ref wl]) ([q_ar sn cI 4 f, q_ar wl cI 144 g]) (S := S) [.int (nI (j % 12)), .int (nI (j / 12)), .int (nI 1)] (c_X5_cellA l G cI cZ cT o S j 1 (by omega) (by decide)) 3 rfl gL_law_X5_cell rfl ⟨rfl, rfl⟩ hz_X5_cell ⟨Nat.le_of_ble_eq_true rfl, Nat.le_of_ble_eq_true rfl⟩ rfl (Nat.le_of_ble_eq_true rfl) ⟨by show kc + 1 ≤ 600086; omega, by show qc + 144 ≤ 7301442; omega⟩ dL_law_299 ?_
        refine j_iast X 1 0 rfl rfl j rfl (by omega) (by decide) dL_law_302 ?_
        refine j_weq (ws' := ([q_ar sn cI 4 f, q_ar wl cI 144 (upd g j (S 0 1 j))] ++ z_w cI cZ cT o S)) rfl ?_
        refine j_iinc (v := nI (j + 1)) (lo' := [(11, .int (nI (j + 1))), (10, .ref wl), (9, .ref sn), (8, .int (nI h)), (3, .int (nI i)), (2, .int (nI n)), (1, .ref o), (0, .ref K.1)]) X 0 dL_law_303 rfl ((congrArg (nI j + ·) (show Int32.ofInt 1 = nI 1 by decide)).trans (nI_add j 1)) (by decide) rfl ?_
        refine j_goto X (tgt := 275) dL_law_306 (by decide) ?_
        refine j_lo [0, 1, 2, 3, 4, 5, 6, 7] (lo' := [(11, .int (nI (j + 1))), (10, .ref wl), (9, .ref sn), (8, .int (nI h)), (3, .int (nI i)), (2, .int (nI n)), (1, .ref o), (0, .ref K.1)]) rfl ?_
        exact ih (j + 1) (by omega) _ (upd_upto (P := fun u => S 0 1 u) hg rfl)
  refine j_lo [0, 1, 2, 3, 4, 5, 6, 7] (lo' := [(11, .int (nI 0)), (10, .ref wl), (9, .ref sn), (8, .int (nI h)), (3, .int (nI i)), (2, .int (nI n)), (1, .ref o), (0, .ref K.1)]) rfl ?_
  exact L275 144 0 (by omega) (fun _ => 0) (fun u hu => absurd hu (Nat.not_lt_zero u))
set_option maxRecDepth 100000 in
set_option maxHeartbeats 4000000 in
theorem law_6 (X : j_X p s m #[Value.ref K.1] meth c code 22 RL wsL_law ret G (j_ty cI cZ cT cB)) (hZ : j_Z K (va_A ([] : va_W) s.heap.size) s s.heap) (hL : K.2.1 < 2 ^ 31) (hkc : kc ≤ 2000) (hqc : qc ≤ 500000) {i h sn wl : Nat} {f g : Nat → Int32} (hJ : zJ S n) (kk : ∀ (hl : Nat) (v : Nat → Int32), (∀ u, u < n → v u = S 0 16 u) → j_V p l e room_1 s m #[Value.ref K.1] below meth c (lw_Z below #[Value.ref K.1] s) G 22 (va_A ([] : va_W) s.heap.size) (kc + 1) (qc + 8) ([q_ar sn cI 4 f, q_ar wl cI 144 g, q_ar hl cI 8 v] ++ z_w cI cZ cT o S) 342 [(11, .ref hl), (10, .ref wl), (9, .ref sn), (8, .int (nI h)), (3, .int (nI i)), (2, .int (nI n)), (1, .ref o), (0, .ref K.1)] []) : j_V p l e room_1 s m #[Value.ref K.1] below meth c (lw_Z below #[Value.ref K.1] s) G 22 (va_A ([] : va_W) s.heap.size) kc qc ([q_ar sn cI 4 f, q_ar wl cI 144 g] ++ z_w cI cZ cT o S) 309 [(10, .ref wl), (9, .ref sn), (8, .int (nI h)), (3, .int (nI i)), (2, .int (nI n)), (1, .ref o), (0, .ref K.1)] [] := by
  have hA := hA_law (s := s)
  have hn8 := hJ.1.2.1
  refine j_bipush (v := nI 8) X (by decide) dL_law_309 ?_
  refine j_newI X hA 0 rfl law_arr 8 (by decide) (by decide) (by decide) (by show kc + 1 ≤ 600086; omega) (by show qc + 8 ≤ 7301442; omega) dL_law_311 (fun hl => ?_)
  refine j_perm (ws' := ([q_ar sn cI 4 f, q_ar wl cI 144 g, q_ar hl cI 8 (fun _ => 0)] ++ z_w cI cZ cT o S)) (ar_perm [q_ar sn cI 4 f, q_ar wl cI 144 g] _ _) ?_
  refine j_astore (lo' := [(11, .ref hl), (10, .ref wl), (9, .ref sn), (8, .int (nI h)), (3, .int (nI i)), (2, .int (nI n)), (1, .ref o), (0, .ref K.1)]) X dL_law_313 (by decide) rfl ?_
  refine j_iconst (v := nI 0) X (by decide) dL_law_315 ?_
  refine j_istore (lo' := [(12, .int (nI 0)), (11, .ref hl), (10, .ref wl), (9, .ref sn), (8, .int (nI h)), (3, .int (nI i)), (2, .int (nI n)), (1, .ref o), (0, .ref K.1)]) X dL_law_316 (by decide) rfl ?_
  have L318 : ∀ (d j : Nat), j + d = n → ∀ (v : Nat → Int32), (∀ u, u < j → v u = S 0 16 u) → j_V p l e room_1 s m #[Value.ref K.1] below meth c (lw_Z below #[Value.ref K.1] s) G 22 (va_A ([] : va_W) s.heap.size) (kc + 1) (qc + 8) ([q_ar sn cI 4 f, q_ar wl cI 144 g, q_ar hl cI 8 v] ++ z_w cI cZ cT o S) 318 [(12, .int (nI j)), (11, .ref hl), (10, .ref wl), (9, .ref sn), (8, .int (nI h)), (3, .int (nI i)), (2, .int (nI n)), (1, .ref o), (0, .ref K.1)] [] := by
    intro d
    induction d with
    | zero =>
      intro j hj v hv
      refine j_iload X 0 dL_law_318 rfl ?_
      refine j_iload_n X 6 dL_law_320 rfl rfl ?_
      refine j_ncmp_ge X j n rfl rfl (by omega) (by omega) (tgt := 342) dL_law_321 (by decide) (fun h1 => ?_) (fun h1 => ?_)
      · refine j_lo [1, 2, 3, 4, 5, 6, 7, 8] (lo' := [(11, .ref hl), (10, .ref wl), (9, .ref sn), (8, .int (nI h)), (3, .int (nI i)), (2, .int (nI n)), (1, .ref o), (0, .ref K.1)]) rfl ?_
        exact kk hl v (fun u hu => hv u (by omega))
      · exact absurd h1 (by omega)
    | succ d ih =>
      intro j hj v hv
      refine j_iload X 0 dL_law_318 rfl ?_
      refine j_iload_n X 6 dL_law_320 rfl rfl ?_
      refine j_ncmp_ge X j n rfl rfl (by omega) (by omega) (tgt := 342) dL_law_321 (by decide) (fun h1 => ?_) (fun h1 => ?_)
      · exact absurd h1 (by omega)
      · refine j_aload X 1 dL_law_324 rfl ?_
        refine j_iload X 0 dL_law_326 rfl ?_
        refine j_aload_n X 7 dL_law_328 rfl rfl ?_
        refine j_iload X 0 dL_law_329 rfl ?_
        refine j_iconst (v := nI 3) X (by decide) dL_law_331 ?_
        refine j_callZIf X hA hZ (rest := [.int (nI j), .ref hl]) ([q_ar sn cI 4 f, q_ar wl cI 144 g, q_ar hl cI 8 v]) (S := S) [.int (nI j), .int (nI 3)] (c_X5_team l G cI cZ cT o S n j 3 hJ.1 (by omega) (by decide)) 2 rfl gL_law_X5_team rfl ⟨rfl, rfl⟩ hz_X5_team ⟨Nat.le_of_ble_eq_true rfl, Nat.le_of_ble_eq_true rfl⟩ rfl (Nat.le_of_ble_eq_true rfl) ⟨by show kc + 1 ≤ 600086; omega, by show qc + 8 ≤ 7301442; omega⟩ dL_law_332 ?_
        refine j_iast X 2 0 rfl rfl j rfl (by omega) (by decide) dL_law_335 ?_
        refine j_weq (ws' := ([q_ar sn cI 4 f, q_ar wl cI 144 g, q_ar hl cI 8 (upd v j (S 0 16 j))] ++ z_w cI cZ cT o S)) rfl ?_
        refine j_iinc (v := nI (j + 1)) (lo' := [(12, .int (nI (j + 1))), (11, .ref hl), (10, .ref wl), (9, .ref sn), (8, .int (nI h)), (3, .int (nI i)), (2, .int (nI n)), (1, .ref o), (0, .ref K.1)]) X 0 dL_law_336 rfl ((congrArg (nI j + ·) (show Int32.ofInt 1 = nI 1 by decide)).trans (nI_add j 1)) (by decide) rfl ?_
        refine j_goto X (tgt := 318) dL_law_339 (by decide) ?_
        refine j_lo [0, 1, 2, 3, 4, 5, 6, 7, 8] (lo' := [(12, .int (nI (j + 1))), (11, .ref hl), (10, .ref wl), (9, .ref sn), (8, .int (nI h)), (3, .int (nI i)), (2, .int (nI n)), (1, .ref o), (0, .ref K.1)]) rfl ?_
        exact ih (j + 1) (by omega) _ (upd_upto (P := fun u => S 0 16 u) hv rfl)
  refine j_lo [0, 1, 2, 3, 4, 5, 6, 7, 8] (lo' := [(12, .int (nI 0)), (11, .ref hl), (10, .ref wl), (9, .ref sn), (8, .int (nI h)), (3, .int (nI i)), (2, .int (nI n)), (1, .ref o), (0, .ref K.1)]) rfl ?_
  exact L318 n 0 (by omega) (fun _ => 0) (fun u hu => absurd hu (Nat.not_lt_zero u))
set_option maxRecDepth 100000 in
set_option maxHeartbeats 4000000 in
theorem law_7 (X : j_X p s m #[Value.ref K.1] meth c code 22 RL wsL_law ret G (j_ty cI cZ cT cB)) (hZ : j_Z K (va_A ([] : va_W) s.heap.size) s s.heap) (hL : K.2.1 < 2 ^ 31) (hkc : kc ≤ 2000) (hqc : qc ≤ 500000) {i h sn wl hl : Nat} {f g v : Nat → Int32} (hJ : zJ S n) (h1 : 1 ≤ h) (h2 : h ≤ 150) (hf : ∀ u, u < 4 → f u = s_comes S n h u) (kk : j_V p l e room_1 s m #[Value.ref K.1] below meth c (lw_Z below #[Value.ref K.1] s) G 22 (va_A ([] : va_W) s.heap.size) kc qc ([q_ar sn cI 4 f, q_ar wl cI 144 g, q_ar hl cI 8 v] ++ z_w cI cZ cT o ((s_hours S 0 n h))) 405 [(11, .ref hl), (10, .ref wl), (9, .ref sn), (3, .int (nI i)), (2, .int (nI n)), (1, .ref o), (0, .ref K.1)] []) : j_V p l e room_1 s m #[Value.ref K.1] below meth c (lw_Z below #[Value.ref K.1] s) G 22 (va_A ([] : va_W) s.heap.size) kc qc ([q_ar sn cI 4 f, q_ar wl cI 144 g, q_ar hl cI 8 v] ++ z_w cI cZ cT o S) 342 [(11, .ref hl), (10, .ref wl), (9, .ref sn), (8, .int (nI h)), (3, .int (nI i)), (2, .int (nI n)), (1, .ref o), (0, .ref K.1)] [] := by
  have hA := hA_law (s := s)
  have hJ3 := J_pass hJ h
  refine j_aload_n X 6 dL_law_342 rfl rfl ?_
  refine j_bipush (v := nI 8) X (by decide) dL_law_343 ?_
  refine j_callZIf X hA hZ (rest := []) ([q_ar sn cI 4 f, q_ar wl cI 144 g, q_ar hl cI 8 v]) (S := S) [.int (nI 8)] (c_X5_count l G cI cZ cT o S n 8 hJ.1 (by decide)) 1 rfl gL_law_X5_count rfl ⟨rfl, rfl⟩ hz_X5_count ⟨Nat.le_of_ble_eq_true rfl, Nat.le_of_ble_eq_true rfl⟩ rfl (Nat.le_of_ble_eq_true rfl) ⟨by show kc ≤ 600086; omega, by show qc ≤ 7301442; omega⟩ dL_law_345 ?_
  refine j_istore (lo' := [(12, .int (S 0 10 0)), (11, .ref hl), (10, .ref wl), (9, .ref sn), (8, .int (nI h)), (3, .int (nI i)), (2, .int (nI n)), (1, .ref o), (0, .ref K.1)]) X dL_law_348 (by decide) rfl ?_
  refine j_aload_n X 7 dL_law_350 rfl rfl ?_
  refine j_iload X 4 dL_law_351 rfl ?_
  refine j_callZIf X hA hZ (rest := []) ([q_ar sn cI 4 f, q_ar wl cI 144 g, q_ar hl cI 8 v]) (S := S) [.int (nI h)] (c_X5_pass l G cI cZ cT o S n h hJ.1 h1 (by omega)) 1 rfl gL_law_X5_pass rfl ⟨rfl, rfl⟩ hz_X5_pass ⟨Nat.le_of_ble_eq_true rfl, Nat.le_of_ble_eq_true rfl⟩ rfl (Nat.le_of_ble_eq_true rfl) ⟨by show kc ≤ 600086; omega, by show qc ≤ 7301442; omega⟩ dL_law_353 ?_
  refine j_aload X 3 dL_law_356 rfl ?_
  refine j_iconst (v := nI 0) X (by decide) dL_law_358 ?_
  refine j_iald X 0 0 (n := 4) (f := f) (cA := cI) rfl rfl 0 rfl (by decide) (by decide) dL_law_359 ?_
  refine j_icmp_ne X (tgt := 403) dL_law_360 (by decide) (fun q1 => ?_) (fun q1 => ?_)
  · exact absurd (hf 0 (by decide)).symm q1
  · refine j_aload_n X 7 dL_law_363 rfl rfl ?_
    refine j_iconst (v := nI 2) X (by decide) dL_law_364 ?_
    refine j_callZIf X hA hZ (rest := []) ([q_ar sn cI 4 f, q_ar wl cI 144 g, q_ar hl cI 8 v]) (S := (s_hours S 0 n h)) [.int (nI 2)] (c_X5_count l G cI cZ cT o (s_hours S 0 n h) n 2 hJ3.1 (by decide)) 1 rfl gL_law_X5_count rfl ⟨rfl, rfl⟩ hz_X5_count ⟨Nat.le_of_ble_eq_true rfl, Nat.le_of_ble_eq_true rfl⟩ rfl (Nat.le_of_ble_eq_true rfl) ⟨by show kc ≤ 600086; omega, by show qc ≤ 7301442; omega⟩ dL_law_365 ?_
    refine j_aload X 3 dL_law_368 rfl ?_
    refine j_iconst (v := nI 1) X (by decide) dL_law_370 ?_
    refine j_iald X 0 0 (n := 4) (f := f) (cA := cI) rfl rfl 1 rfl (by decide) (by decide) dL_law_371 ?_
    refine j_icmp_ne X (tgt := 403) dL_law_372 (by decide) (fun q2 => ?_) (fun q2 => ?_)
    · exact absurd (hf 1 (by decide)).symm q2
    · refine j_aload_n X 7 dL_law_375 rfl rfl ?_
      refine j_iconst (v := nI 3) X (by decide) dL_law_376 ?_
      refine j_callZIf X hA hZ (rest := []) ([q_ar sn cI 4 f, q_ar wl cI 144 g, q_ar hl cI 8 v]) (S := (s_hours S 0 n h)) [.int (nI 3)] (c_X5_count l G cI cZ cT o (s_hours S 0 n h) n 3 hJ3.1 (by decide)) 1 rfl gL_law_X5_count rfl ⟨rfl, rfl⟩ hz_X5_count ⟨Nat.le_of_ble_eq_true rfl, Nat.le_of_ble_eq_true rfl⟩ rfl (Nat.le_of_ble_eq_true rfl) ⟨by show kc ≤ 600086; omega, by show qc ≤ 7301442; omega⟩ dL_law_377 ?_
      refine j_aload X 3 dL_law_380 rfl ?_
      refine j_iconst (v := nI 2) X (by decide) dL_law_382 ?_
      refine j_iald X 0 0 (n := 4) (f := f) (cA := cI) rfl rfl 2 rfl (by decide) (by decide) dL_law_383 ?_
      refine j_icmp_ne X (tgt := 403) dL_law_384 (by decide) (fun q3 => ?_) (fun q3 => ?_)
      · exact absurd (hf 2 (by decide)).symm q3
      · refine j_aload_n X 7 dL_law_387 rfl rfl ?_
        refine j_bipush (v := nI 8) X (by decide) dL_law_388 ?_
        refine j_callZIf X hA hZ (rest := []) ([q_ar sn cI 4 f, q_ar wl cI 144 g, q_ar hl cI 8 v]) (S := (s_hours S 0 n h)) [.int (nI 8)] (c_X5_count l G cI cZ cT o (s_hours S 0 n h) n 8 hJ3.1 (by decide)) 1 rfl gL_law_X5_count rfl ⟨rfl, rfl⟩ hz_X5_count ⟨Nat.le_of_ble_eq_true rfl, Nat.le_of_ble_eq_true rfl⟩ rfl (Nat.le_of_ble_eq_true rfl) ⟨by show kc ≤ 600086; omega, by show qc ≤ 7301442; omega⟩ dL_law_390 ?_
        refine j_iload X 0 dL_law_393 rfl ?_
        refine j_isub X dL_law_395 ?_
        refine j_aload X 3 dL_law_396 rfl ?_
        refine j_iconst (v := nI 3) X (by decide) dL_law_398 ?_
        refine j_iald X 0 0 (n := 4) (f := f) (cA := cI) rfl rfl 3 rfl (by decide) (by decide) dL_law_399 ?_
        refine j_icmp_eq X (tgt := 405) dL_law_400 (by decide) (fun q4 => ?_) (fun q4 => ?_)
        · refine j_lo [1, 2, 3, 5, 6, 7, 8] (lo' := [(11, .ref hl), (10, .ref wl), (9, .ref sn), (3, .int (nI i)), (2, .int (nI n)), (1, .ref o), (0, .ref K.1)]) rfl ?_
          exact kk
        · exact absurd (hf 3 (by decide)).symm q4
set_option maxRecDepth 100000 in
set_option maxHeartbeats 4000000 in
theorem law_8 (X : j_X p s m #[Value.ref K.1] meth c code 22 RL wsL_law ret G (j_ty cI cZ cT cB)) (hZ : j_Z K (va_A ([] : va_W) s.heap.size) s s.heap) (hL : K.2.1 < 2 ^ 31) (hkc : kc ≤ 2000) (hqc : qc ≤ 500000) {i sn wl hl : Nat} {f g v : Nat → Int32} (hC : ∀ u, u < 144 → (¬ g u < S 0 1 u ∧ (S 0 1 u < 0 ↔ g u < 0)) ∧ (¬ S 0 0 u < 0 ∧ ¬ 9 < S 0 0 u) ∧ (S 0 2 u = 1 → S 0 0 u ≠ 0 ∧ S 0 6 u = 0 ∧ ¬ 36 < S 0 4 u) ∧ (¬ S 0 3 u < 0 ∧ ¬ 3 < S 0 3 u) ∧ (¬ S 0 5 u < 0 ∧ ¬ 9 < S 0 5 u) ∧ (¬ S 0 7 u < 0 ∧ ¬ 3 < S 0 7 u) ∧ (S 0 2 u ≠ 1 → S 0 3 u = 0 ∧ S 0 4 u = 0 ∧ S 0 5 u = 0 ∧ S 0 7 u = 0)) (kk : j_V p l e room_1 s m #[Value.ref K.1] below meth c (lw_Z below #[Value.ref K.1] s) G 22 (va_A ([] : va_W) s.heap.size) kc qc ([q_ar sn cI 4 f, q_ar wl cI 144 g, q_ar hl cI 8 v] ++ z_w cI cZ cT o S) 779 [(16, .int (z_sum (S 0 5) 144)), (15, .int (z_sum (fun c => if S 0 1 c = 0 then 1 else 0) 144)), (14, .int (z_sum (fun c => if 0 < S 0 1 c then 1 else 0) 144)), (13, .int (z_sum (S 0 2) 144)), (11, .ref hl), (10, .ref wl), (9, .ref sn), (3, .int (nI i)), (2, .int (nI n)), (1, .ref o), (0, .ref K.1)] []) : ∀ (d j : Nat), j + d = 144 → j_V p l e room_1 s m #[Value.ref K.1] below meth c (lw_Z below #[Value.ref K.1] s) G 22 (va_A ([] : va_W) s.heap.size) kc qc ([q_ar sn cI 4 f, q_ar wl cI 144 g, q_ar hl cI 8 v] ++ z_w cI cZ cT o S) 420 [(17, .int (nI j)), (16, .int (z_sum (S 0 5) j)), (15, .int (z_sum (fun c => if S 0 1 c = 0 then 1 else 0) j)), (14, .int (z_sum (fun c => if 0 < S 0 1 c then 1 else 0) j)), (13, .int (z_sum (S 0 2) j)), (11, .ref hl), (10, .ref wl), (9, .ref sn), (3, .int (nI i)), (2, .int (nI n)), (1, .ref o), (0, .ref K.1)] [] := by
  have hA := hA_law (s := s)
  intro d
  induction d with
  | zero =>
    intro j hj
    refine j_iload X 0 dL_law_420 rfl ?_
    refine j_sipush (v := nI 144) X (by decide) dL_law_422 ?_
    refine j_ncmp_ge X j 144 rfl rfl (by omega) (by omega) (tgt := 779) dL_law_425 (by decide) (fun q0 => ?_) (fun q0 => ?_)
    · have e4 : j = 144 := by omega
      subst e4
      refine j_lo [1, 2, 3, 4, 5, 6, 7, 8, 9, 10, 11] (lo' := [(16, .int (z_sum (S 0 5) 144)), (15, .int (z_sum (fun c => if S 0 1 c = 0 then 1 else 0) 144)), (14, .int (z_sum (fun c => if 0 < S 0 1 c then 1 else 0) 144)), (13, .int (z_sum (S 0 2) 144)), (11, .ref hl), (10, .ref wl), (9, .ref sn), (3, .int (nI i)), (2, .int (nI n)), (1, .ref o), (0, .ref K.1)]) rfl ?_
      exact kk
    · exact absurd q0 (by omega)
  | succ d ih =>
    intro j hj
    refine j_iload X 0 dL_law_420 rfl ?_
    refine j_sipush (v := nI 144) X (by decide) dL_law_422 ?_
    refine j_ncmp_ge X j 144 rfl rfl (by omega) (by omega) (tgt := 779) dL_law_425 (by decide) (fun q0 => ?_) (fun q0 => ?_)
    · exact absurd q0 (by omega)
    · have hj9 : j < 144 := by omega
      obtain ⟨⟨c1, c2⟩, ⟨c3, c4⟩, c5, ⟨c6, c7⟩, ⟨c8, c9⟩, ⟨d1, d2⟩, d3⟩ := hC j hj9
      refine j_iload X 0 dL_law_428 rfl ?_
      refine j_bipush (v := nI 12) X (by decide) dL_law_430 ?_
      refine j_irem X (by decide) dL_law_432 ?_
      refine j_top (y := nI (j % 12)) (pk_rem (a := j) (d := 12) (by omega) (by decide) (by decide)) ?_
      refine j_istore (lo' := [(18, .int (nI (j % 12))), (17, .int (nI j)), (16, .int (z_sum (S 0 5) j)), (15, .int (z_sum (fun c => if S 0 1 c = 0 then 1 else 0) j)), (14, .int (z_sum (fun c => if 0 < S 0 1 c then 1 else 0) j)), (13, .int (z_sum (S 0 2) j)), (11, .ref hl), (10, .ref wl), (9, .ref sn), (3, .int (nI i)), (2, .int (nI n)), (1, .ref o), (0, .ref K.1)]) X dL_law_433 (by decide) rfl ?_
      refine j_iload X 1 dL_law_435 rfl ?_
      refine j_bipush (v := nI 12) X (by decide) dL_law_437 ?_
      refine j_idiv X (by decide) dL_law_439 ?_
      refine j_top (y := nI (j / 12)) (pk_div (a := j) (d := 12) (by omega) (by decide) (by decide)) ?_
      refine j_istore (lo' := [(19, .int (nI (j / 12))), (18, .int (nI (j % 12))), (17, .int (nI j)), (16, .int (z_sum (S 0 5) j)), (15, .int (z_sum (fun c => if S 0 1 c = 0 then 1 else 0) j)), (14, .int (z_sum (fun c => if 0 < S 0 1 c then 1 else 0) j)), (13, .int (z_sum (S 0 2) j)), (11, .ref hl), (10, .ref wl), (9, .ref sn), (3, .int (nI i)), (2, .int (nI n)), (1, .ref o), (0, .ref K.1)]) X dL_law_440 (by decide) rfl ?_
      refine j_aload_n X 12 dL_law_442 rfl rfl ?_
      refine j_iload X 1 dL_law_443 rfl ?_
      refine j_iload X 0 dL_law_445 rfl ?_
      refine j_iconst (v := nI 2) X (by decide) dL_law_447 ?_
      refine j_callZIf X hA hZ (rest := []) ([q_ar sn cI 4 f, q_ar wl cI 144 g, q_ar hl cI 8 v]) (S := S) [.int (nI (j % 12)), .int (nI (j / 12)), .int (nI 2)] (c_X5_cellA l G cI cZ cT o S j 2 hj9 (by decide)) 3 rfl gL_law_X5_cell rfl ⟨rfl, rfl⟩ hz_X5_cell ⟨Nat.le_of_ble_eq_true rfl, Nat.le_of_ble_eq_true rfl⟩ rfl (Nat.le_of_ble_eq_true rfl) ⟨by show kc ≤ 600086; omega, by show qc ≤ 7301442; omega⟩ dL_law_448 ?_
      refine j_iconst (v := nI 1) X (by decide) dL_law_451 ?_
      have B460 : ∀ v0 : Int32, (v0 = 1 ∧ S 0 2 j = 1) ∨ (v0 = 0 ∧ S 0 2 j ≠ 1) → j_V p l e room_1 s m #[Value.ref K.1] below meth c (lw_Z below #[Value.ref K.1] s) G 22 (va_A ([] : va_W) s.heap.size) kc qc ([q_ar sn cI 4 f, q_ar wl cI 144 g, q_ar hl cI 8 v] ++ z_w cI cZ cT o S) 460 [(19, .int (nI (j / 12))), (18, .int (nI (j % 12))), (17, .int (nI j)), (16, .int (z_sum (S 0 5) j)), (15, .int (z_sum (fun c => if S 0 1 c = 0 then 1 else 0) j)), (14, .int (z_sum (fun c => if 0 < S 0 1 c then 1 else 0) j)), (13, .int (z_sum (S 0 2) j)), (11, .ref hl), (10, .ref wl), (9, .ref sn), (3, .int (nI i)), (2, .int (nI n)), (1, .ref o), (0, .ref K.1)] [.int v0] := by
        intro v0 hv
        refine j_istore (lo' := [(20, .int v0), (19, .int (nI (j / 12))), (18, .int (nI (j % 12))), (17, .int (nI j)), (16, .int (z_sum (S 0 5) j)), (15, .int (z_sum (fun c => if S 0 1 c = 0 then 1 else 0) j)), (14, .int (z_sum (fun c => if 0 < S 0 1 c then 1 else 0) j)), (13, .int (z_sum (S 0 2) j)), (11, .ref hl), (10, .ref wl), (9, .ref sn), (3, .int (nI i)), (2, .int (nI n)), (1, .ref o), (0, .ref K.1)]) X dL_law_460 (by decide) rfl ?_
        refine j_aload_n X 13 dL_law_462 rfl rfl ?_
        refine j_iload X 2 dL_law_463 rfl ?_
        refine j_iload X 1 dL_law_465 rfl ?_
        refine j_iconst (v := nI 1) X (by decide) dL_law_467 ?_
        refine j_callZIf X hA hZ (rest := []) ([q_ar sn cI 4 f, q_ar wl cI 144 g, q_ar hl cI 8 v]) (S := S) [.int (nI (j % 12)), .int (nI (j / 12)), .int (nI 1)] (c_X5_cellA l G cI cZ cT o S j 1 hj9 (by decide)) 3 rfl gL_law_X5_cell rfl ⟨rfl, rfl⟩ hz_X5_cell ⟨Nat.le_of_ble_eq_true rfl, Nat.le_of_ble_eq_true rfl⟩ rfl (Nat.le_of_ble_eq_true rfl) ⟨by show kc ≤ 600086; omega, by show qc ≤ 7301442; omega⟩ dL_law_468 ?_
        refine j_istore (lo' := [(21, .int (S 0 1 j)), (20, .int v0), (19, .int (nI (j / 12))), (18, .int (nI (j % 12))), (17, .int (nI j)), (16, .int (z_sum (S 0 5) j)), (15, .int (z_sum (fun c => if S 0 1 c = 0 then 1 else 0) j)), (14, .int (z_sum (fun c => if 0 < S 0 1 c then 1 else 0) j)), (13, .int (z_sum (S 0 2) j)), (11, .ref hl), (10, .ref wl), (9, .ref sn), (3, .int (nI i)), (2, .int (nI n)), (1, .ref o), (0, .ref K.1)]) X dL_law_471 (by decide) rfl ?_
        refine j_iload X 8 dL_law_473 rfl ?_
        refine j_aload_n X 14 dL_law_475 rfl rfl ?_
        refine j_iload X 3 dL_law_476 rfl ?_
        refine j_iload X 2 dL_law_478 rfl ?_
        refine j_iconst (v := nI 2) X (by decide) dL_law_480 ?_
        refine j_callZIf X hA hZ (rest := [.int (z_sum (S 0 2) j)]) ([q_ar sn cI 4 f, q_ar wl cI 144 g, q_ar hl cI 8 v]) (S := S) [.int (nI (j % 12)), .int (nI (j / 12)), .int (nI 2)] (c_X5_cellA l G cI cZ cT o S j 2 hj9 (by decide)) 3 rfl gL_law_X5_cell rfl ⟨rfl, rfl⟩ hz_X5_cell ⟨Nat.le_of_ble_eq_true rfl, Nat.le_of_ble_eq_true rfl⟩ rfl (Nat.le_of_ble_eq_true rfl) ⟨by show kc ≤ 600086; omega, by show qc ≤ 7301442; omega⟩ dL_law_481 ?_
        refine j_iadd X dL_law_484 ?_
        refine j_istore (lo' := [(13, .int ((z_sum (S 0 2) j) + (S 0 2 j))), (21, .int (S 0 1 j)), (20, .int v0), (19, .int (nI (j / 12))), (18, .int (nI (j % 12))), (17, .int (nI j)), (16, .int (z_sum (S 0 5) j)), (15, .int (z_sum (fun c => if S 0 1 c = 0 then 1 else 0) j)), (14, .int (z_sum (fun c => if 0 < S 0 1 c then 1 else 0) j)), (11, .ref hl), (10, .ref wl), (9, .ref sn), (3, .int (nI i)), (2, .int (nI n)), (1, .ref o), (0, .ref K.1)]) X dL_law_485 (by decide) rfl ?_
        refine j_iload X 8 dL_law_487 rfl ?_
        refine j_iload X 1 dL_law_489 rfl ?_
        have B499 : ∀ v9 : Int32, v9 = (if 0 < S 0 1 j then 1 else 0) → j_V p l e room_1 s m #[Value.ref K.1] below meth c (lw_Z below #[Value.ref K.1] s) G 22 (va_A ([] : va_W) s.heap.size) kc qc ([q_ar sn cI 4 f, q_ar wl cI 144 g, q_ar hl cI 8 v] ++ z_w cI cZ cT o S) 499 [(13, .int ((z_sum (S 0 2) j) + (S 0 2 j))), (21, .int (S 0 1 j)), (20, .int v0), (19, .int (nI (j / 12))), (18, .int (nI (j % 12))), (17, .int (nI j)), (16, .int (z_sum (S 0 5) j)), (15, .int (z_sum (fun c => if S 0 1 c = 0 then 1 else 0) j)), (14, .int (z_sum (fun c => if 0 < S 0 1 c then 1 else 0) j)), (11, .ref hl), (10, .ref wl), (9, .ref sn), (3, .int (nI i)), (2, .int (nI n)), (1, .ref o), (0, .ref K.1)] [.int v9, .int (z_sum (fun c => if 0 < S 0 1 c then 1 else 0) j)] := by
          intro v9 hv9
          refine j_iadd X dL_law_499 ?_
          refine j_istore (lo' := [(14, .int ((z_sum (fun c => if 0 < S 0 1 c then 1 else 0) j) + v9)), (13, .int ((z_sum (S 0 2) j) + (S 0 2 j))), (21, .int (S 0 1 j)), (20, .int v0), (19, .int (nI (j / 12))), (18, .int (nI (j % 12))), (17, .int (nI j)), (16, .int (z_sum (S 0 5) j)), (15, .int (z_sum (fun c => if S 0 1 c = 0 then 1 else 0) j)), (11, .ref hl), (10, .ref wl), (9, .ref sn), (3, .int (nI i)), (2, .int (nI n)), (1, .ref o), (0, .ref K.1)]) X dL_law_500 (by decide) rfl ?_
          refine j_iload X 8 dL_law_502 rfl ?_
          refine j_iload X 2 dL_law_504 rfl ?_
          have B514 : ∀ v5 : Int32, v5 = (if S 0 1 j = 0 then 1 else 0) → j_V p l e room_1 s m #[Value.ref K.1] below meth c (lw_Z below #[Value.ref K.1] s) G 22 (va_A ([] : va_W) s.heap.size) kc qc ([q_ar sn cI 4 f, q_ar wl cI 144 g, q_ar hl cI 8 v] ++ z_w cI cZ cT o S) 514 [(14, .int ((z_sum (fun c => if 0 < S 0 1 c then 1 else 0) j) + v9)), (13, .int ((z_sum (S 0 2) j) + (S 0 2 j))), (21, .int (S 0 1 j)), (20, .int v0), (19, .int (nI (j / 12))), (18, .int (nI (j % 12))), (17, .int (nI j)), (16, .int (z_sum (S 0 5) j)), (15, .int (z_sum (fun c => if S 0 1 c = 0 then 1 else 0) j)), (11, .ref hl), (10, .ref wl), (9, .ref sn), (3, .int (nI i)), (2, .int (nI n)), (1, .ref o), (0, .ref K.1)] [.int v5, .int (z_sum (fun c => if S 0 1 c = 0 then 1 else 0) j)] := by
            intro v5 hv5
            refine j_iadd X dL_law_514 ?_
            refine j_istore (lo' := [(15, .int ((z_sum (fun c => if S 0 1 c = 0 then 1 else 0) j) + v5)), (14, .int ((z_sum (fun c => if 0 < S 0 1 c then 1 else 0) j) + v9)), (13, .int ((z_sum (S 0 2) j) + (S 0 2 j))), (21, .int (S 0 1 j)), (20, .int v0), (19, .int (nI (j / 12))), (18, .int (nI (j % 12))), (17, .int (nI j)), (16, .int (z_sum (S 0 5) j)), (11, .ref hl), (10, .ref wl), (9, .ref sn), (3, .int (nI i)), (2, .int (nI n)), (1, .ref o), (0, .ref K.1)]) X dL_law_515 (by decide) rfl ?_
            refine j_iload X 8 dL_law_517 rfl ?_
            refine j_aload_n X 14 dL_law_519 rfl rfl ?_
            refine j_iload X 6 dL_law_520 rfl ?_
            refine j_iload X 5 dL_law_522 rfl ?_
            refine j_iconst (v := nI 5) X (by decide) dL_law_524 ?_
            refine j_callZIf X hA hZ (rest := [.int (z_sum (S 0 5) j)]) ([q_ar sn cI 4 f, q_ar wl cI 144 g, q_ar hl cI 8 v]) (S := S) [.int (nI (j % 12)), .int (nI (j / 12)), .int (nI 5)] (c_X5_cellA l G cI cZ cT o S j 5 hj9 (by decide)) 3 rfl gL_law_X5_cell rfl ⟨rfl, rfl⟩ hz_X5_cell ⟨Nat.le_of_ble_eq_true rfl, Nat.le_of_ble_eq_true rfl⟩ rfl (Nat.le_of_ble_eq_true rfl) ⟨by show kc ≤ 600086; omega, by show qc ≤ 7301442; omega⟩ dL_law_525 ?_
            refine j_iadd X dL_law_528 ?_
            refine j_istore (lo' := [(16, .int ((z_sum (S 0 5) j) + (S 0 5 j))), (15, .int ((z_sum (fun c => if S 0 1 c = 0 then 1 else 0) j) + v5)), (14, .int ((z_sum (fun c => if 0 < S 0 1 c then 1 else 0) j) + v9)), (13, .int ((z_sum (S 0 2) j) + (S 0 2 j))), (21, .int (S 0 1 j)), (20, .int v0), (19, .int (nI (j / 12))), (18, .int (nI (j % 12))), (17, .int (nI j)), (11, .ref hl), (10, .ref wl), (9, .ref sn), (3, .int (nI i)), (2, .int (nI n)), (1, .ref o), (0, .ref K.1)]) X dL_law_529 (by decide) rfl ?_
            refine j_iload X 4 dL_law_531 rfl ?_
            refine j_aload X 10 dL_law_533 rfl ?_
            refine j_iload X 8 dL_law_535 rfl ?_
            refine j_iald X 1 0 (n := 144) (f := g) (cA := cI) rfl rfl j rfl hj9 (by decide) dL_law_537 ?_
            refine j_icmp_gt X (tgt := 637) dL_law_538 (by decide) (fun q1 => ?_) (fun q1 => ?_)
            · exact absurd q1 c1
            · refine j_iload X 4 dL_law_541 rfl ?_
              have B551 : ∀ v6 : Int32, v6 = (if S 0 1 j < 0 then 1 else 0) → j_V p l e room_1 s m #[Value.ref K.1] below meth c (lw_Z below #[Value.ref K.1] s) G 22 (va_A ([] : va_W) s.heap.size) kc qc ([q_ar sn cI 4 f, q_ar wl cI 144 g, q_ar hl cI 8 v] ++ z_w cI cZ cT o S) 551 [(16, .int ((z_sum (S 0 5) j) + (S 0 5 j))), (15, .int ((z_sum (fun c => if S 0 1 c = 0 then 1 else 0) j) + v5)), (14, .int ((z_sum (fun c => if 0 < S 0 1 c then 1 else 0) j) + v9)), (13, .int ((z_sum (S 0 2) j) + (S 0 2 j))), (21, .int (S 0 1 j)), (20, .int v0), (19, .int (nI (j / 12))), (18, .int (nI (j % 12))), (17, .int (nI j)), (11, .ref hl), (10, .ref wl), (9, .ref sn), (3, .int (nI i)), (2, .int (nI n)), (1, .ref o), (0, .ref K.1)] [.int v6] := by
                intro v6 hv6
                refine j_aload X 10 dL_law_551 rfl ?_
                refine j_iload X 8 dL_law_553 rfl ?_
                refine j_iald X 1 0 (n := 144) (f := g) (cA := cI) rfl rfl j rfl hj9 (by decide) dL_law_555 ?_
                have B564 : ∀ v7 : Int32, v7 = (if g j < 0 then 1 else 0) → j_V p l e room_1 s m #[Value.ref K.1] below meth c (lw_Z below #[Value.ref K.1] s) G 22 (va_A ([] : va_W) s.heap.size) kc qc ([q_ar sn cI 4 f, q_ar wl cI 144 g, q_ar hl cI 8 v] ++ z_w cI cZ cT o S) 564 [(16, .int ((z_sum (S 0 5) j) + (S 0 5 j))), (15, .int ((z_sum (fun c => if S 0 1 c = 0 then 1 else 0) j) + v5)), (14, .int ((z_sum (fun c => if 0 < S 0 1 c then 1 else 0) j) + v9)), (13, .int ((z_sum (S 0 2) j) + (S 0 2 j))), (21, .int (S 0 1 j)), (20, .int v0), (19, .int (nI (j / 12))), (18, .int (nI (j % 12))), (17, .int (nI j)), (11, .ref hl), (10, .ref wl), (9, .ref sn), (3, .int (nI i)), (2, .int (nI n)), (1, .ref o), (0, .ref K.1)] [.int v7, .int v6] := by
                  intro v7 hv7
                  have e67 : v6 = v7 := by rw [hv6, hv7]; simp only [c2]
                  refine j_icmp_ne X (tgt := 637) dL_law_564 (by decide) (fun q2 => ?_) (fun q2 => ?_)
                  · exact absurd e67 q2
                  · refine j_aload_n X 14 dL_law_567 rfl rfl ?_
                    refine j_iload X 7 dL_law_568 rfl ?_
                    refine j_iload X 6 dL_law_570 rfl ?_
                    refine j_iconst (v := nI 0) X (by decide) dL_law_572 ?_
                    refine j_callZIf X hA hZ (rest := []) ([q_ar sn cI 4 f, q_ar wl cI 144 g, q_ar hl cI 8 v]) (S := S) [.int (nI (j % 12)), .int (nI (j / 12)), .int (nI 0)] (c_X5_cellA l G cI cZ cT o S j 0 hj9 (by decide)) 3 rfl gL_law_X5_cell rfl ⟨rfl, rfl⟩ hz_X5_cell ⟨Nat.le_of_ble_eq_true rfl, Nat.le_of_ble_eq_true rfl⟩ rfl (Nat.le_of_ble_eq_true rfl) ⟨by show kc ≤ 600086; omega, by show qc ≤ 7301442; omega⟩ dL_law_573 ?_
                    refine j_if_lt X (tgt := 637) dL_law_576 (by decide) (fun q3 => ?_) (fun q3 => ?_)
                    · exact absurd q3 c3
                    · refine j_aload_n X 14 dL_law_579 rfl rfl ?_
                      refine j_iload X 7 dL_law_580 rfl ?_
                      refine j_iload X 6 dL_law_582 rfl ?_
                      refine j_iconst (v := nI 0) X (by decide) dL_law_584 ?_
                      refine j_callZIf X hA hZ (rest := []) ([q_ar sn cI 4 f, q_ar wl cI 144 g, q_ar hl cI 8 v]) (S := S) [.int (nI (j % 12)), .int (nI (j / 12)), .int (nI 0)] (c_X5_cellA l G cI cZ cT o S j 0 hj9 (by decide)) 3 rfl gL_law_X5_cell rfl ⟨rfl, rfl⟩ hz_X5_cell ⟨Nat.le_of_ble_eq_true rfl, Nat.le_of_ble_eq_true rfl⟩ rfl (Nat.le_of_ble_eq_true rfl) ⟨by show kc ≤ 600086; omega, by show qc ≤ 7301442; omega⟩ dL_law_585 ?_
                      refine j_bipush (v := nI 9) X (by decide) dL_law_588 ?_
                      refine j_icmp_gt X (tgt := 637) dL_law_590 (by decide) (fun q4 => ?_) (fun q4 => ?_)
                      · exact absurd q4 c4
                      · have B639 : j_V p l e room_1 s m #[Value.ref K.1] below meth c (lw_Z below #[Value.ref K.1] s) G 22 (va_A ([] : va_W) s.heap.size) kc qc ([q_ar sn cI 4 f, q_ar wl cI 144 g, q_ar hl cI 8 v] ++ z_w cI cZ cT o S) 639 [(16, .int ((z_sum (S 0 5) j) + (S 0 5 j))), (15, .int ((z_sum (fun c => if S 0 1 c = 0 then 1 else 0) j) + v5)), (14, .int ((z_sum (fun c => if 0 < S 0 1 c then 1 else 0) j) + v9)), (13, .int ((z_sum (S 0 2) j) + (S 0 2 j))), (21, .int (S 0 1 j)), (20, .int v0), (19, .int (nI (j / 12))), (18, .int (nI (j % 12))), (17, .int (nI j)), (11, .ref hl), (10, .ref wl), (9, .ref sn), (3, .int (nI i)), (2, .int (nI n)), (1, .ref o), (0, .ref K.1)] [] := by
                          refine j_aload_n X 14 dL_law_639 rfl rfl ?_
                          refine j_iload X 7 dL_law_640 rfl ?_
                          refine j_iload X 6 dL_law_642 rfl ?_
                          refine j_iconst (v := nI 3) X (by decide) dL_law_644 ?_
                          refine j_callZIf X hA hZ (rest := []) ([q_ar sn cI 4 f, q_ar wl cI 144 g, q_ar hl cI 8 v]) (S := S) [.int (nI (j % 12)), .int (nI (j / 12)), .int (nI 3)] (c_X5_cellA l G cI cZ cT o S j 3 hj9 (by decide)) 3 rfl gL_law_X5_cell rfl ⟨rfl, rfl⟩ hz_X5_cell ⟨Nat.le_of_ble_eq_true rfl, Nat.le_of_ble_eq_true rfl⟩ rfl (Nat.le_of_ble_eq_true rfl) ⟨by show kc ≤ 600086; omega, by show qc ≤ 7301442; omega⟩ dL_law_645 ?_
                          refine j_if_lt X (tgt := 771) dL_law_648 (by decide) (fun r6 => ?_) (fun r6 => ?_)
                          · exact absurd r6 c6
                          · refine j_aload_n X 14 dL_law_651 rfl rfl ?_
                            refine j_iload X 7 dL_law_652 rfl ?_
                            refine j_iload X 6 dL_law_654 rfl ?_
                            refine j_iconst (v := nI 3) X (by decide) dL_law_656 ?_
                            refine j_callZIf X hA hZ (rest := []) ([q_ar sn cI 4 f, q_ar wl cI 144 g, q_ar hl cI 8 v]) (S := S) [.int (nI (j % 12)), .int (nI (j / 12)), .int (nI 3)] (c_X5_cellA l G cI cZ cT o S j 3 hj9 (by decide)) 3 rfl gL_law_X5_cell rfl ⟨rfl, rfl⟩ hz_X5_cell ⟨Nat.le_of_ble_eq_true rfl, Nat.le_of_ble_eq_true rfl⟩ rfl (Nat.le_of_ble_eq_true rfl) ⟨by show kc ≤ 600086; omega, by show qc ≤ 7301442; omega⟩ dL_law_657 ?_
                            refine j_iconst (v := nI 3) X (by decide) dL_law_660 ?_
                            refine j_icmp_gt X (tgt := 771) dL_law_661 (by decide) (fun r5 => ?_) (fun r5 => ?_)
                            · exact absurd r5 c7
                            · refine j_aload_n X 14 dL_law_664 rfl rfl ?_
                              refine j_iload X 7 dL_law_665 rfl ?_
                              refine j_iload X 6 dL_law_667 rfl ?_
                              refine j_iconst (v := nI 5) X (by decide) dL_law_669 ?_
                              refine j_callZIf X hA hZ (rest := []) ([q_ar sn cI 4 f, q_ar wl cI 144 g, q_ar hl cI 8 v]) (S := S) [.int (nI (j % 12)), .int (nI (j / 12)), .int (nI 5)] (c_X5_cellA l G cI cZ cT o S j 5 hj9 (by decide)) 3 rfl gL_law_X5_cell rfl ⟨rfl, rfl⟩ hz_X5_cell ⟨Nat.le_of_ble_eq_true rfl, Nat.le_of_ble_eq_true rfl⟩ rfl (Nat.le_of_ble_eq_true rfl) ⟨by show kc ≤ 600086; omega, by show qc ≤ 7301442; omega⟩ dL_law_670 ?_
                              refine j_if_lt X (tgt := 771) dL_law_673 (by decide) (fun r4 => ?_) (fun r4 => ?_)
                              · exact absurd r4 c8
                              · refine j_aload_n X 14 dL_law_676 rfl rfl ?_
                                refine j_iload X 7 dL_law_677 rfl ?_
                                refine j_iload X 6 dL_law_679 rfl ?_
                                refine j_iconst (v := nI 5) X (by decide) dL_law_681 ?_
                                refine j_callZIf X hA hZ (rest := []) ([q_ar sn cI 4 f, q_ar wl cI 144 g, q_ar hl cI 8 v]) (S := S) [.int (nI (j % 12)), .int (nI (j / 12)), .int (nI 5)] (c_X5_cellA l G cI cZ cT o S j 5 hj9 (by decide)) 3 rfl gL_law_X5_cell rfl ⟨rfl, rfl⟩ hz_X5_cell ⟨Nat.le_of_ble_eq_true rfl, Nat.le_of_ble_eq_true rfl⟩ rfl (Nat.le_of_ble_eq_true rfl) ⟨by show kc ≤ 600086; omega, by show qc ≤ 7301442; omega⟩ dL_law_682 ?_
                                refine j_bipush (v := nI 9) X (by decide) dL_law_685 ?_
                                refine j_icmp_gt X (tgt := 771) dL_law_687 (by decide) (fun r3 => ?_) (fun r3 => ?_)
                                · exact absurd r3 c9
                                · refine j_aload_n X 14 dL_law_690 rfl rfl ?_
                                  refine j_iload X 7 dL_law_691 rfl ?_
                                  refine j_iload X 6 dL_law_693 rfl ?_
                                  refine j_bipush (v := nI 7) X (by decide) dL_law_695 ?_
                                  refine j_callZIf X hA hZ (rest := []) ([q_ar sn cI 4 f, q_ar wl cI 144 g, q_ar hl cI 8 v]) (S := S) [.int (nI (j % 12)), .int (nI (j / 12)), .int (nI 7)] (c_X5_cellA l G cI cZ cT o S j 7 hj9 (by decide)) 3 rfl gL_law_X5_cell rfl ⟨rfl, rfl⟩ hz_X5_cell ⟨Nat.le_of_ble_eq_true rfl, Nat.le_of_ble_eq_true rfl⟩ rfl (Nat.le_of_ble_eq_true rfl) ⟨by show kc ≤ 600086; omega, by show qc ≤ 7301442; omega⟩ dL_law_697 ?_
                                  refine j_if_lt X (tgt := 771) dL_law_700 (by decide) (fun r2 => ?_) (fun r2 => ?_)
                                  · exact absurd r2 d1
                                  · refine j_aload_n X 14 dL_law_703 rfl rfl ?_
                                    refine j_iload X 7 dL_law_704 rfl ?_
                                    refine j_iload X 6 dL_law_706 rfl ?_
                                    refine j_bipush (v := nI 7) X (by decide) dL_law_708 ?_
                                    refine j_callZIf X hA hZ (rest := []) ([q_ar sn cI 4 f, q_ar wl cI 144 g, q_ar hl cI 8 v]) (S := S) [.int (nI (j % 12)), .int (nI (j / 12)), .int (nI 7)] (c_X5_cellA l G cI cZ cT o S j 7 hj9 (by decide)) 3 rfl gL_law_X5_cell rfl ⟨rfl, rfl⟩ hz_X5_cell ⟨Nat.le_of_ble_eq_true rfl, Nat.le_of_ble_eq_true rfl⟩ rfl (Nat.le_of_ble_eq_true rfl) ⟨by show kc ≤ 600086; omega, by show qc ≤ 7301442; omega⟩ dL_law_710 ?_
                                    refine j_iconst (v := nI 3) X (by decide) dL_law_713 ?_
                                    refine j_icmp_gt X (tgt := 771) dL_law_714 (by decide) (fun r1 => ?_) (fun r1 => ?_)
                                    · exact absurd r1 d2
                                    · refine j_iload X 5 dL_law_717 rfl ?_
                                      refine j_if_ne X (tgt := 773) dL_law_719 (by decide) (fun q7 => ?_) (fun q7 => ?_)
                                      · refine j_iinc (v := nI (j + 1)) (lo' := [(17, .int (nI (j + 1))), (16, .int ((z_sum (S 0 5) j) + (S 0 5 j))), (15, .int ((z_sum (fun c => if S 0 1 c = 0 then 1 else 0) j) + v5)), (14, .int ((z_sum (fun c => if 0 < S 0 1 c then 1 else 0) j) + v9)), (13, .int ((z_sum (S 0 2) j) + (S 0 2 j))), (21, .int (S 0 1 j)), (20, .int v0), (19, .int (nI (j / 12))), (18, .int (nI (j % 12))), (11, .ref hl), (10, .ref wl), (9, .ref sn), (3, .int (nI i)), (2, .int (nI n)), (1, .ref o), (0, .ref K.1)]) X 8 dL_law_773 rfl ((congrArg (nI j + ·) (show Int32.ofInt 1 = nI 1 by decide)).trans (nI_add j 1)) (by decide) rfl ?_
                                        refine j_goto X (tgt := 420) dL_law_776 (by decide) ?_
                                        refine j_lo [0, 1, 2, 3, 4, 9, 10, 11, 12, 13, 14, 15] (lo' := [(17, .int (nI (j + 1))), (16, .int ((z_sum (S 0 5) j) + (S 0 5 j))), (15, .int ((z_sum (fun c => if S 0 1 c = 0 then 1 else 0) j) + v5)), (14, .int ((z_sum (fun c => if 0 < S 0 1 c then 1 else 0) j) + v9)), (13, .int ((z_sum (S 0 2) j) + (S 0 2 j))), (11, .ref hl), (10, .ref wl), (9, .ref sn), (3, .int (nI i)), (2, .int (nI n)), (1, .ref o), (0, .ref K.1)]) rfl ?_
                                        refine j_eq (ws' := ([q_ar sn cI 4 f, q_ar wl cI 144 g, q_ar hl cI 8 v] ++ z_w cI cZ cT o S)) (lo' := [(17, .int (nI (j + 1))), (16, .int (z_sum (S 0 5) (j + 1))), (15, .int (z_sum (fun c => if S 0 1 c = 0 then 1 else 0) (j + 1))), (14, .int (z_sum (fun c => if 0 < S 0 1 c then 1 else 0) (j + 1))), (13, .int (z_sum (S 0 2) (j + 1))), (11, .ref hl), (10, .ref wl), (9, .ref sn), (3, .int (nI i)), (2, .int (nI n)), (1, .ref o), (0, .ref K.1)]) rfl (by rw [hv9, hv5]; rfl) ?_
                                        exact ih (j + 1) (by omega)
                                      · obtain ⟨g3, g4, g5, g7⟩ := d3 (hv.elim (fun r => absurd (r.1.symm.trans q7) (by decide)) (fun r => r.2))
                                        refine j_aload_n X 14 dL_law_722 rfl rfl ?_
                                        refine j_iload X 7 dL_law_723 rfl ?_
                                        refine j_iload X 6 dL_law_725 rfl ?_
                                        refine j_iconst (v := nI 3) X (by decide) dL_law_727 ?_
                                        refine j_callZIf X hA hZ (rest := []) ([q_ar sn cI 4 f, q_ar wl cI 144 g, q_ar hl cI 8 v]) (S := S) [.int (nI (j % 12)), .int (nI (j / 12)), .int (nI 3)] (c_X5_cellA l G cI cZ cT o S j 3 hj9 (by decide)) 3 rfl gL_law_X5_cell rfl ⟨rfl, rfl⟩ hz_X5_cell ⟨Nat.le_of_ble_eq_true rfl, Nat.le_of_ble_eq_true rfl⟩ rfl (Nat.le_of_ble_eq_true rfl) ⟨by show kc ≤ 600086; omega, by show qc ≤ 7301442; omega⟩ dL_law_728 ?_
                                        refine j_if_ne X (tgt := 771) dL_law_731 (by decide) (fun p1 => ?_) (fun p1 => ?_)
                                        · exact absurd g3 p1
                                        · refine j_aload_n X 14 dL_law_734 rfl rfl ?_
                                          refine j_iload X 7 dL_law_735 rfl ?_
                                          refine j_iload X 6 dL_law_737 rfl ?_
                                          refine j_iconst (v := nI 4) X (by decide) dL_law_739 ?_
                                          refine j_callZIf X hA hZ (rest := []) ([q_ar sn cI 4 f, q_ar wl cI 144 g, q_ar hl cI 8 v]) (S := S) [.int (nI (j % 12)), .int (nI (j / 12)), .int (nI 4)] (c_X5_cellA l G cI cZ cT o S j 4 hj9 (by decide)) 3 rfl gL_law_X5_cell rfl ⟨rfl, rfl⟩ hz_X5_cell ⟨Nat.le_of_ble_eq_true rfl, Nat.le_of_ble_eq_true rfl⟩ rfl (Nat.le_of_ble_eq_true rfl) ⟨by show kc ≤ 600086; omega, by show qc ≤ 7301442; omega⟩ dL_law_740 ?_
                                          refine j_if_ne X (tgt := 771) dL_law_743 (by decide) (fun p2 => ?_) (fun p2 => ?_)
                                          · exact absurd g4 p2
                                          · refine j_aload_n X 14 dL_law_746 rfl rfl ?_
                                            refine j_iload X 7 dL_law_747 rfl ?_
                                            refine j_iload X 6 dL_law_749 rfl ?_
                                            refine j_iconst (v := nI 5) X (by decide) dL_law_751 ?_
                                            refine j_callZIf X hA hZ (rest := []) ([q_ar sn cI 4 f, q_ar wl cI 144 g, q_ar hl cI 8 v]) (S := S) [.int (nI (j % 12)), .int (nI (j / 12)), .int (nI 5)] (c_X5_cellA l G cI cZ cT o S j 5 hj9 (by decide)) 3 rfl gL_law_X5_cell rfl ⟨rfl, rfl⟩ hz_X5_cell ⟨Nat.le_of_ble_eq_true rfl, Nat.le_of_ble_eq_true rfl⟩ rfl (Nat.le_of_ble_eq_true rfl) ⟨by show kc ≤ 600086; omega, by show qc ≤ 7301442; omega⟩ dL_law_752 ?_
                                            refine j_if_ne X (tgt := 771) dL_law_755 (by decide) (fun p3 => ?_) (fun p3 => ?_)
                                            · exact absurd g5 p3
                                            · refine j_aload_n X 14 dL_law_758 rfl rfl ?_
                                              refine j_iload X 7 dL_law_759 rfl ?_
                                              refine j_iload X 6 dL_law_761 rfl ?_
                                              refine j_bipush (v := nI 7) X (by decide) dL_law_763 ?_
                                              refine j_callZIf X hA hZ (rest := []) ([q_ar sn cI 4 f, q_ar wl cI 144 g, q_ar hl cI 8 v]) (S := S) [.int (nI (j % 12)), .int (nI (j / 12)), .int (nI 7)] (c_X5_cellA l G cI cZ cT o S j 7 hj9 (by decide)) 3 rfl gL_law_X5_cell rfl ⟨rfl, rfl⟩ hz_X5_cell ⟨Nat.le_of_ble_eq_true rfl, Nat.le_of_ble_eq_true rfl⟩ rfl (Nat.le_of_ble_eq_true rfl) ⟨by show kc ≤ 600086; omega, by show qc ≤ 7301442; omega⟩ dL_law_765 ?_
                                              refine j_if_eq X (tgt := 773) dL_law_768 (by decide) (fun p4 => ?_) (fun p4 => ?_)
                                              · refine j_iinc (v := nI (j + 1)) (lo' := [(17, .int (nI (j + 1))), (16, .int ((z_sum (S 0 5) j) + (S 0 5 j))), (15, .int ((z_sum (fun c => if S 0 1 c = 0 then 1 else 0) j) + v5)), (14, .int ((z_sum (fun c => if 0 < S 0 1 c then 1 else 0) j) + v9)), (13, .int ((z_sum (S 0 2) j) + (S 0 2 j))), (21, .int (S 0 1 j)), (20, .int v0), (19, .int (nI (j / 12))), (18, .int (nI (j % 12))), (11, .ref hl), (10, .ref wl), (9, .ref sn), (3, .int (nI i)), (2, .int (nI n)), (1, .ref o), (0, .ref K.1)]) X 8 dL_law_773 rfl ((congrArg (nI j + ·) (show Int32.ofInt 1 = nI 1 by decide)).trans (nI_add j 1)) (by decide) rfl ?_
                                                refine j_goto X (tgt := 420) dL_law_776 (by decide) ?_
                                                refine j_lo [0, 1, 2, 3, 4, 9, 10, 11, 12, 13, 14, 15] (lo' := [(17, .int (nI (j + 1))), (16, .int ((z_sum (S 0 5) j) + (S 0 5 j))), (15, .int ((z_sum (fun c => if S 0 1 c = 0 then 1 else 0) j) + v5)), (14, .int ((z_sum (fun c => if 0 < S 0 1 c then 1 else 0) j) + v9)), (13, .int ((z_sum (S 0 2) j) + (S 0 2 j))), (11, .ref hl), (10, .ref wl), (9, .ref sn), (3, .int (nI i)), (2, .int (nI n)), (1, .ref o), (0, .ref K.1)]) rfl ?_
                                                refine j_eq (ws' := ([q_ar sn cI 4 f, q_ar wl cI 144 g, q_ar hl cI 8 v] ++ z_w cI cZ cT o S)) (lo' := [(17, .int (nI (j + 1))), (16, .int (z_sum (S 0 5) (j + 1))), (15, .int (z_sum (fun c => if S 0 1 c = 0 then 1 else 0) (j + 1))), (14, .int (z_sum (fun c => if 0 < S 0 1 c then 1 else 0) (j + 1))), (13, .int (z_sum (S 0 2) (j + 1))), (11, .ref hl), (10, .ref wl), (9, .ref sn), (3, .int (nI i)), (2, .int (nI n)), (1, .ref o), (0, .ref K.1)]) rfl (by rw [hv9, hv5]; rfl) ?_
                                                exact ih (j + 1) (by omega)
                                              · exact absurd g7 p4
                        refine j_iload X 5 dL_law_593 rfl ?_
                        refine j_if_eq X (tgt := 639) dL_law_595 (by decide) (fun q5 => ?_) (fun q5 => ?_)
                        · exact B639
                        · obtain ⟨t1, t2, t3⟩ := c5 (hv.elim (fun r => r.2) (fun r => absurd r.1 q5))
                          refine j_aload_n X 14 dL_law_598 rfl rfl ?_
                          refine j_iload X 7 dL_law_599 rfl ?_
                          refine j_iload X 6 dL_law_601 rfl ?_
                          refine j_iconst (v := nI 0) X (by decide) dL_law_603 ?_
                          refine j_callZIf X hA hZ (rest := []) ([q_ar sn cI 4 f, q_ar wl cI 144 g, q_ar hl cI 8 v]) (S := S) [.int (nI (j % 12)), .int (nI (j / 12)), .int (nI 0)] (c_X5_cellA l G cI cZ cT o S j 0 hj9 (by decide)) 3 rfl gL_law_X5_cell rfl ⟨rfl, rfl⟩ hz_X5_cell ⟨Nat.le_of_ble_eq_true rfl, Nat.le_of_ble_eq_true rfl⟩ rfl (Nat.le_of_ble_eq_true rfl) ⟨by show kc ≤ 600086; omega, by show qc ≤ 7301442; omega⟩ dL_law_604 ?_
                          refine j_if_eq X (tgt := 637) dL_law_607 (by decide) (fun p5 => ?_) (fun p5 => ?_)
                          · exact absurd p5 t1
                          · refine j_aload_n X 14 dL_law_610 rfl rfl ?_
                            refine j_iload X 7 dL_law_611 rfl ?_
                            refine j_iload X 6 dL_law_613 rfl ?_
                            refine j_bipush (v := nI 6) X (by decide) dL_law_615 ?_
                            refine j_callZIf X hA hZ (rest := []) ([q_ar sn cI 4 f, q_ar wl cI 144 g, q_ar hl cI 8 v]) (S := S) [.int (nI (j % 12)), .int (nI (j / 12)), .int (nI 6)] (c_X5_cellA l G cI cZ cT o S j 6 hj9 (by decide)) 3 rfl gL_law_X5_cell rfl ⟨rfl, rfl⟩ hz_X5_cell ⟨Nat.le_of_ble_eq_true rfl, Nat.le_of_ble_eq_true rfl⟩ rfl (Nat.le_of_ble_eq_true rfl) ⟨by show kc ≤ 600086; omega, by show qc ≤ 7301442; omega⟩ dL_law_617 ?_
                            refine j_if_ne X (tgt := 637) dL_law_620 (by decide) (fun p6 => ?_) (fun p6 => ?_)
                            · exact absurd t2 p6
                            · refine j_aload_n X 14 dL_law_623 rfl rfl ?_
                              refine j_iload X 7 dL_law_624 rfl ?_
                              refine j_iload X 6 dL_law_626 rfl ?_
                              refine j_iconst (v := nI 4) X (by decide) dL_law_628 ?_
                              refine j_callZIf X hA hZ (rest := []) ([q_ar sn cI 4 f, q_ar wl cI 144 g, q_ar hl cI 8 v]) (S := S) [.int (nI (j % 12)), .int (nI (j / 12)), .int (nI 4)] (c_X5_cellA l G cI cZ cT o S j 4 hj9 (by decide)) 3 rfl gL_law_X5_cell rfl ⟨rfl, rfl⟩ hz_X5_cell ⟨Nat.le_of_ble_eq_true rfl, Nat.le_of_ble_eq_true rfl⟩ rfl (Nat.le_of_ble_eq_true rfl) ⟨by show kc ≤ 600086; omega, by show qc ≤ 7301442; omega⟩ dL_law_629 ?_
                              refine j_bipush (v := nI 36) X (by decide) dL_law_632 ?_
                              refine j_icmp_le X (tgt := 639) dL_law_634 (by decide) (fun p7 => ?_) (fun p7 => ?_)
                              · exact B639
                              · exact absurd p7 t3
                refine j_if_ge X (tgt := 563) dL_law_556 (by decide) (fun s7 => ?_) (fun s7 => ?_)
                · refine j_iconst (v := nI 0) X (by decide) dL_law_563 ?_
                  exact B564 _ (if_neg s7).symm
                · refine j_iconst (v := nI 1) X (by decide) dL_law_559 ?_
                  refine j_goto X (tgt := 564) dL_law_560 (by decide) ?_
                  exact B564 _ (if_pos s7).symm
              refine j_if_ge X (tgt := 550) dL_law_543 (by decide) (fun s6 => ?_) (fun s6 => ?_)
              · refine j_iconst (v := nI 0) X (by decide) dL_law_550 ?_
                exact B551 _ (if_neg s6).symm
              · refine j_iconst (v := nI 1) X (by decide) dL_law_546 ?_
                refine j_goto X (tgt := 551) dL_law_547 (by decide) ?_
                exact B551 _ (if_pos s6).symm
          refine j_if_ne X (tgt := 513) dL_law_506 (by decide) (fun s5 => ?_) (fun s5 => ?_)
          · refine j_iconst (v := nI 0) X (by decide) dL_law_513 ?_
            exact B514 _ (if_neg s5).symm
          · refine j_iconst (v := nI 1) X (by decide) dL_law_509 ?_
            refine j_goto X (tgt := 514) dL_law_510 (by decide) ?_
            exact B514 _ (if_pos s5).symm
        refine j_if_le X (tgt := 498) dL_law_491 (by decide) (fun s9 => ?_) (fun s9 => ?_)
        · refine j_iconst (v := nI 0) X (by decide) dL_law_498 ?_
          exact B499 _ (if_neg s9).symm
        · refine j_iconst (v := nI 1) X (by decide) dL_law_494 ?_
          refine j_goto X (tgt := 499) dL_law_495 (by decide) ?_
          exact B499 _ (if_pos s9).symm
      refine j_icmp_ne X (tgt := 459) dL_law_452 (by decide) (fun st => ?_) (fun st => ?_)
      · refine j_iconst (v := nI 0) X (by decide) dL_law_459 ?_
        exact B460 _ (Or.inr ⟨rfl, st⟩)
      · refine j_iconst (v := nI 1) X (by decide) dL_law_455 ?_
        refine j_goto X (tgt := 460) dL_law_456 (by decide) ?_
        exact B460 _ (Or.inl ⟨rfl, st⟩)
set_option maxRecDepth 100000 in
set_option maxHeartbeats 4000000 in
theorem law_9 (X : j_X p s m #[Value.ref K.1] meth c code 22 RL wsL_law ret G (j_ty cI cZ cT cB)) (hZ : j_Z K (va_A ([] : va_W) s.heap.size) s s.heap) (hL : K.2.1 < 2 ^ 31) (hkc : kc ≤ 2000) (hqc : qc ≤ 500000) {i sn wl hl : Nat} {f g v : Nat → Int32} (hJ : zJ S n) (kk : j_V p l e room_1 s m #[Value.ref K.1] below meth c (lw_Z below #[Value.ref K.1] s) G 22 (va_A ([] : va_W) s.heap.size) kc qc ([q_ar sn cI 4 f, q_ar wl cI 144 g, q_ar hl cI 8 v] ++ z_w cI cZ cT o S) 823 [(11, .ref hl), (10, .ref wl), (9, .ref sn), (3, .int (nI i)), (2, .int (nI n)), (1, .ref o), (0, .ref K.1)] []) : j_V p l e room_1 s m #[Value.ref K.1] below meth c (lw_Z below #[Value.ref K.1] s) G 22 (va_A ([] : va_W) s.heap.size) kc qc ([q_ar sn cI 4 f, q_ar wl cI 144 g, q_ar hl cI 8 v] ++ z_w cI cZ cT o S) 779 [(16, .int (z_sum (S 0 5) 144)), (15, .int (z_sum (fun c => if S 0 1 c = 0 then 1 else 0) 144)), (14, .int (z_sum (fun c => if 0 < S 0 1 c then 1 else 0) 144)), (13, .int (z_sum (S 0 2) 144)), (11, .ref hl), (10, .ref wl), (9, .ref sn), (3, .int (nI i)), (2, .int (nI n)), (1, .ref o), (0, .ref K.1)] [] := by
  have hA := hA_law (s := s)
  refine j_iload X 3 dL_law_779 rfl ?_
  refine j_aload_n X 9 dL_law_781 rfl rfl ?_
  refine j_iconst (v := nI 4) X (by decide) dL_law_782 ?_
  refine j_callZIf X hA hZ (rest := [.int (z_sum (S 0 2) 144)]) ([q_ar sn cI 4 f, q_ar wl cI 144 g, q_ar hl cI 8 v]) (S := S) [.int (nI 4)] (c_X5_count l G cI cZ cT o S n 4 hJ.1 (by decide)) 1 rfl gL_law_X5_count rfl ⟨rfl, rfl⟩ hz_X5_count ⟨Nat.le_of_ble_eq_true rfl, Nat.le_of_ble_eq_true rfl⟩ rfl (Nat.le_of_ble_eq_true rfl) ⟨by show kc ≤ 600086; omega, by show qc ≤ 7301442; omega⟩ dL_law_783 ?_
  refine j_icmp_ne X (tgt := 821) dL_law_786 (by decide) (fun q1 => ?_) (fun q1 => ?_)
  · exact absurd rfl q1
  · refine j_iload X 2 dL_law_789 rfl ?_
    refine j_aload_n X 9 dL_law_791 rfl rfl ?_
    refine j_iconst (v := nI 5) X (by decide) dL_law_792 ?_
    refine j_callZIf X hA hZ (rest := [.int (z_sum (fun c => if 0 < S 0 1 c then 1 else 0) 144)]) ([q_ar sn cI 4 f, q_ar wl cI 144 g, q_ar hl cI 8 v]) (S := S) [.int (nI 5)] (c_X5_count l G cI cZ cT o S n 5 hJ.1 (by decide)) 1 rfl gL_law_X5_count rfl ⟨rfl, rfl⟩ hz_X5_count ⟨Nat.le_of_ble_eq_true rfl, Nat.le_of_ble_eq_true rfl⟩ rfl (Nat.le_of_ble_eq_true rfl) ⟨by show kc ≤ 600086; omega, by show qc ≤ 7301442; omega⟩ dL_law_793 ?_
    refine j_icmp_ne X (tgt := 821) dL_law_796 (by decide) (fun q2 => ?_) (fun q2 => ?_)
    · exact absurd rfl q2
    · refine j_iload X 1 dL_law_799 rfl ?_
      refine j_aload_n X 9 dL_law_801 rfl rfl ?_
      refine j_bipush (v := nI 6) X (by decide) dL_law_802 ?_
      refine j_callZIf X hA hZ (rest := [.int (z_sum (fun c => if S 0 1 c = 0 then 1 else 0) 144)]) ([q_ar sn cI 4 f, q_ar wl cI 144 g, q_ar hl cI 8 v]) (S := S) [.int (nI 6)] (c_X5_count l G cI cZ cT o S n 6 hJ.1 (by decide)) 1 rfl gL_law_X5_count rfl ⟨rfl, rfl⟩ hz_X5_count ⟨Nat.le_of_ble_eq_true rfl, Nat.le_of_ble_eq_true rfl⟩ rfl (Nat.le_of_ble_eq_true rfl) ⟨by show kc ≤ 600086; omega, by show qc ≤ 7301442; omega⟩ dL_law_804 ?_
      refine j_icmp_ne X (tgt := 821) dL_law_807 (by decide) (fun q3 => ?_) (fun q3 => ?_)
      · exact absurd rfl q3
      · refine j_iload X 0 dL_law_810 rfl ?_
        refine j_aload_n X 9 dL_law_812 rfl rfl ?_
        refine j_bipush (v := nI 7) X (by decide) dL_law_813 ?_
        refine j_callZIf X hA hZ (rest := [.int (z_sum (S 0 5) 144)]) ([q_ar sn cI 4 f, q_ar wl cI 144 g, q_ar hl cI 8 v]) (S := S) [.int (nI 7)] (c_X5_count l G cI cZ cT o S n 7 hJ.1 (by decide)) 1 rfl gL_law_X5_count rfl ⟨rfl, rfl⟩ hz_X5_count ⟨Nat.le_of_ble_eq_true rfl, Nat.le_of_ble_eq_true rfl⟩ rfl (Nat.le_of_ble_eq_true rfl) ⟨by show kc ≤ 600086; omega, by show qc ≤ 7301442; omega⟩ dL_law_815 ?_
        refine j_icmp_eq X (tgt := 823) dL_law_818 (by decide) (fun q4 => ?_) (fun q4 => ?_)
        · refine j_lo [4, 5, 6, 7, 8, 9, 10] (lo' := [(11, .ref hl), (10, .ref wl), (9, .ref sn), (3, .int (nI i)), (2, .int (nI n)), (1, .ref o), (0, .ref K.1)]) rfl ?_
          exact kk
        · exact absurd rfl q4
set_option maxRecDepth 100000 in
set_option maxHeartbeats 4000000 in
theorem law_10 (X : j_X p s m #[Value.ref K.1] meth c code 22 RL wsL_law ret G (j_ty cI cZ cT cB)) (hZ : j_Z K (va_A ([] : va_W) s.heap.size) s s.heap) (hL : K.2.1 < 2 ^ 31) (hkc : kc ≤ 2000) (hqc : qc ≤ 500000) {i sn wl hl : Nat} {f g v : Nat → Int32} (hJ : zJ S n) (hC : ∀ u, u < n → (¬ S 0 16 u < 0 ∧ ¬ v u < S 0 16 u) ∧ (0 < S 0 16 u → S 0 2 (cl (S 0 15 u)) = 1) ∧ (¬ S 0 26 u < 0 ∧ ¬ 12 < S 0 26 u) ∧ (0 < S 0 26 u → ¬ s_firstKind S 0 u < 0) ∧ (¬ 0 < S 0 26 u → s_firstKind S 0 u < 0)) (kk : j_V p l e room_1 s m #[Value.ref K.1] below meth c (lw_Z below #[Value.ref K.1] s) G 22 (va_A ([] : va_W) s.heap.size) kc qc ([q_ar sn cI 4 f, q_ar wl cI 144 g, q_ar hl cI 8 v] ++ z_w cI cZ cT o S) 953 [(11, .ref hl), (10, .ref wl), (9, .ref sn), (3, .int (nI i)), (2, .int (nI n)), (1, .ref o), (0, .ref K.1)] []) : ∀ (d j : Nat), j + d = n → j_V p l e room_1 s m #[Value.ref K.1] below meth c (lw_Z below #[Value.ref K.1] s) G 22 (va_A ([] : va_W) s.heap.size) kc qc ([q_ar sn cI 4 f, q_ar wl cI 144 g, q_ar hl cI 8 v] ++ z_w cI cZ cT o S) 826 [(17, .int (nI j)), (11, .ref hl), (10, .ref wl), (9, .ref sn), (3, .int (nI i)), (2, .int (nI n)), (1, .ref o), (0, .ref K.1)] [] := by
  have hA := hA_law (s := s)
  have hn8 := hJ.1.2.1
  intro d
  induction d with
  | zero =>
    intro j hj
    refine j_iload X 0 dL_law_826 rfl ?_
    refine j_iload_n X 5 dL_law_828 rfl rfl ?_
    refine j_ncmp_ge X j n rfl rfl (by omega) (by omega) (tgt := 953) dL_law_829 (by decide) (fun q0 => ?_) (fun q0 => ?_)
    · refine j_lo [1, 2, 3, 4, 5, 6, 7] (lo' := [(11, .ref hl), (10, .ref wl), (9, .ref sn), (3, .int (nI i)), (2, .int (nI n)), (1, .ref o), (0, .ref K.1)]) rfl ?_
      exact kk
    · exact absurd q0 (by omega)
  | succ d ih =>
    intro j hj
    refine j_iload X 0 dL_law_826 rfl ?_
    refine j_iload_n X 5 dL_law_828 rfl rfl ?_
    refine j_ncmp_ge X j n rfl rfl (by omega) (by omega) (tgt := 953) dL_law_829 (by decide) (fun q0 => ?_) (fun q0 => ?_)
    · exact absurd q0 (by omega)
    · have hj9 : j < n := by omega
      obtain ⟨⟨c1, c2⟩, c3, ⟨c4, c5⟩, c6, c7⟩ := hC j hj9
      obtain ⟨cc, hcc, ecc⟩ := (hJ.1.2.2 j (by omega)).1.ex
      have ecl : cl (S 0 15 j) = cc := by rw [ecc]; exact cl_nI (by omega)
      refine j_aload_n X 6 dL_law_832 rfl rfl ?_
      refine j_iload X 0 dL_law_833 rfl ?_
      refine j_iconst (v := nI 3) X (by decide) dL_law_835 ?_
      refine j_callZIf X hA hZ (rest := []) ([q_ar sn cI 4 f, q_ar wl cI 144 g, q_ar hl cI 8 v]) (S := S) [.int (nI j), .int (nI 3)] (c_X5_team l G cI cZ cT o S n j 3 hJ.1 hj9 (by decide)) 2 rfl gL_law_X5_team rfl ⟨rfl, rfl⟩ hz_X5_team ⟨Nat.le_of_ble_eq_true rfl, Nat.le_of_ble_eq_true rfl⟩ rfl (Nat.le_of_ble_eq_true rfl) ⟨by show kc ≤ 600086; omega, by show qc ≤ 7301442; omega⟩ dL_law_836 ?_
      refine j_if_lt X (tgt := 945) dL_law_839 (by decide) (fun q1 => ?_) (fun q1 => ?_)
      · exact absurd q1 c1
      · refine j_aload_n X 6 dL_law_842 rfl rfl ?_
        refine j_iload X 0 dL_law_843 rfl ?_
        refine j_iconst (v := nI 3) X (by decide) dL_law_845 ?_
        refine j_callZIf X hA hZ (rest := []) ([q_ar sn cI 4 f, q_ar wl cI 144 g, q_ar hl cI 8 v]) (S := S) [.int (nI j), .int (nI 3)] (c_X5_team l G cI cZ cT o S n j 3 hJ.1 hj9 (by decide)) 2 rfl gL_law_X5_team rfl ⟨rfl, rfl⟩ hz_X5_team ⟨Nat.le_of_ble_eq_true rfl, Nat.le_of_ble_eq_true rfl⟩ rfl (Nat.le_of_ble_eq_true rfl) ⟨by show kc ≤ 600086; omega, by show qc ≤ 7301442; omega⟩ dL_law_846 ?_
        refine j_aload X 1 dL_law_849 rfl ?_
        refine j_iload X 0 dL_law_851 rfl ?_
        refine j_iald X 2 0 (n := 8) (f := v) (cA := cI) rfl rfl j rfl (by omega) (by decide) dL_law_853 ?_
        refine j_icmp_gt X (tgt := 945) dL_law_854 (by decide) (fun q9 => ?_) (fun q9 => ?_)
        · exact absurd q9 c2
        · have B889 : j_V p l e room_1 s m #[Value.ref K.1] below meth c (lw_Z below #[Value.ref K.1] s) G 22 (va_A ([] : va_W) s.heap.size) kc qc ([q_ar sn cI 4 f, q_ar wl cI 144 g, q_ar hl cI 8 v] ++ z_w cI cZ cT o S) 889 [(17, .int (nI j)), (11, .ref hl), (10, .ref wl), (9, .ref sn), (3, .int (nI i)), (2, .int (nI n)), (1, .ref o), (0, .ref K.1)] [] := by
            refine j_aload_n X 6 dL_law_889 rfl rfl ?_
            refine j_iload X 0 dL_law_890 rfl ?_
            refine j_iconst (v := nI 5) X (by decide) dL_law_892 ?_
            refine j_callZIf X hA hZ (rest := []) ([q_ar sn cI 4 f, q_ar wl cI 144 g, q_ar hl cI 8 v]) (S := S) [.int (nI j), .int (nI 5)] (c_X5_team l G cI cZ cT o S n j 5 hJ.1 hj9 (by decide)) 2 rfl gL_law_X5_team rfl ⟨rfl, rfl⟩ hz_X5_team ⟨Nat.le_of_ble_eq_true rfl, Nat.le_of_ble_eq_true rfl⟩ rfl (Nat.le_of_ble_eq_true rfl) ⟨by show kc ≤ 600086; omega, by show qc ≤ 7301442; omega⟩ dL_law_893 ?_
            refine j_if_lt X (tgt := 945) dL_law_896 (by decide) (fun q2 => ?_) (fun q2 => ?_)
            · exact absurd q2 c4
            · refine j_aload_n X 6 dL_law_899 rfl rfl ?_
              refine j_iload X 0 dL_law_900 rfl ?_
              refine j_iconst (v := nI 5) X (by decide) dL_law_902 ?_
              refine j_callZIf X hA hZ (rest := []) ([q_ar sn cI 4 f, q_ar wl cI 144 g, q_ar hl cI 8 v]) (S := S) [.int (nI j), .int (nI 5)] (c_X5_team l G cI cZ cT o S n j 5 hJ.1 hj9 (by decide)) 2 rfl gL_law_X5_team rfl ⟨rfl, rfl⟩ hz_X5_team ⟨Nat.le_of_ble_eq_true rfl, Nat.le_of_ble_eq_true rfl⟩ rfl (Nat.le_of_ble_eq_true rfl) ⟨by show kc ≤ 600086; omega, by show qc ≤ 7301442; omega⟩ dL_law_903 ?_
              refine j_bipush (v := nI 12) X (by decide) dL_law_906 ?_
              refine j_icmp_gt X (tgt := 945) dL_law_908 (by decide) (fun q3 => ?_) (fun q3 => ?_)
              · exact absurd q3 c5
              · refine j_aload_n X 6 dL_law_911 rfl rfl ?_
                refine j_iload X 0 dL_law_912 rfl ?_
                refine j_iconst (v := nI 5) X (by decide) dL_law_914 ?_
                refine j_callZIf X hA hZ (rest := []) ([q_ar sn cI 4 f, q_ar wl cI 144 g, q_ar hl cI 8 v]) (S := S) [.int (nI j), .int (nI 5)] (c_X5_team l G cI cZ cT o S n j 5 hJ.1 hj9 (by decide)) 2 rfl gL_law_X5_team rfl ⟨rfl, rfl⟩ hz_X5_team ⟨Nat.le_of_ble_eq_true rfl, Nat.le_of_ble_eq_true rfl⟩ rfl (Nat.le_of_ble_eq_true rfl) ⟨by show kc ≤ 600086; omega, by show qc ≤ 7301442; omega⟩ dL_law_915 ?_
                refine j_if_le X (tgt := 925) dL_law_918 (by decide) (fun q4 => ?_) (fun q4 => ?_)
                · refine j_iconst (v := nI 0) X (by decide) dL_law_925 ?_
                  refine j_aload_n X 6 dL_law_926 rfl rfl ?_
                  refine j_iload X 0 dL_law_927 rfl ?_
                  refine j_bipush (v := nI 8) X (by decide) dL_law_929 ?_
                  refine j_callZIf X hA hZ (rest := [.int (nI 0)]) ([q_ar sn cI 4 f, q_ar wl cI 144 g, q_ar hl cI 8 v]) (S := S) [.int (nI j), .int (nI 8)] (c_X5_team l G cI cZ cT o S n j 8 hJ.1 hj9 (by decide)) 2 rfl gL_law_X5_team rfl ⟨rfl, rfl⟩ hz_X5_team ⟨Nat.le_of_ble_eq_true rfl, Nat.le_of_ble_eq_true rfl⟩ rfl (Nat.le_of_ble_eq_true rfl) ⟨by show kc ≤ 600086; omega, by show qc ≤ 7301442; omega⟩ dL_law_931 ?_
                  refine j_if_lt X (tgt := 941) dL_law_934 (by decide) (fun q5 => ?_) (fun q5 => ?_)
                  · refine j_iconst (v := nI 0) X (by decide) dL_law_941 ?_
                    refine j_icmp_eq X (tgt := 947) dL_law_942 (by decide) (fun q6 => ?_) (fun q6 => ?_)
                    · refine j_iinc (v := nI (j + 1)) (lo' := [(17, .int (nI (j + 1))), (11, .ref hl), (10, .ref wl), (9, .ref sn), (3, .int (nI i)), (2, .int (nI n)), (1, .ref o), (0, .ref K.1)]) X 0 dL_law_947 rfl ((congrArg (nI j + ·) (show Int32.ofInt 1 = nI 1 by decide)).trans (nI_add j 1)) (by decide) rfl ?_
                      refine j_goto X (tgt := 826) dL_law_950 (by decide) ?_
                      refine j_lo [0, 1, 2, 3, 4, 5, 6, 7] (lo' := [(17, .int (nI (j + 1))), (11, .ref hl), (10, .ref wl), (9, .ref sn), (3, .int (nI i)), (2, .int (nI n)), (1, .ref o), (0, .ref K.1)]) rfl ?_
                      exact ih (j + 1) (by omega)
                    · exact absurd rfl q6
                  · exact absurd (c7 q4) q5
                · refine j_iconst (v := nI 1) X (by decide) dL_law_921 ?_
                  refine j_goto X (tgt := 926) dL_law_922 (by decide) ?_
                  refine j_aload_n X 6 dL_law_926 rfl rfl ?_
                  refine j_iload X 0 dL_law_927 rfl ?_
                  refine j_bipush (v := nI 8) X (by decide) dL_law_929 ?_
                  refine j_callZIf X hA hZ (rest := [.int (nI 1)]) ([q_ar sn cI 4 f, q_ar wl cI 144 g, q_ar hl cI 8 v]) (S := S) [.int (nI j), .int (nI 8)] (c_X5_team l G cI cZ cT o S n j 8 hJ.1 hj9 (by decide)) 2 rfl gL_law_X5_team rfl ⟨rfl, rfl⟩ hz_X5_team ⟨Nat.le_of_ble_eq_true rfl, Nat.le_of_ble_eq_true rfl⟩ rfl (Nat.le_of_ble_eq_true rfl) ⟨by show kc ≤ 600086; omega, by show qc ≤ 7301442; omega⟩ dL_law_931 ?_
                  refine j_if_lt X (tgt := 941) dL_law_934 (by decide) (fun q5 => ?_) (fun q5 => ?_)
                  · exact absurd q5 (c6 q4)
                  · refine j_iconst (v := nI 1) X (by decide) dL_law_937 ?_
                    refine j_goto X (tgt := 942) dL_law_938 (by decide) ?_
                    refine j_icmp_eq X (tgt := 947) dL_law_942 (by decide) (fun q6 => ?_) (fun q6 => ?_)
                    · refine j_iinc (v := nI (j + 1)) (lo' := [(17, .int (nI (j + 1))), (11, .ref hl), (10, .ref wl), (9, .ref sn), (3, .int (nI i)), (2, .int (nI n)), (1, .ref o), (0, .ref K.1)]) X 0 dL_law_947 rfl ((congrArg (nI j + ·) (show Int32.ofInt 1 = nI 1 by decide)).trans (nI_add j 1)) (by decide) rfl ?_
                      refine j_goto X (tgt := 826) dL_law_950 (by decide) ?_
                      refine j_lo [0, 1, 2, 3, 4, 5, 6, 7] (lo' := [(17, .int (nI (j + 1))), (11, .ref hl), (10, .ref wl), (9, .ref sn), (3, .int (nI i)), (2, .int (nI n)), (1, .ref o), (0, .ref K.1)]) rfl ?_
                      exact ih (j + 1) (by omega)
                    · exact absurd rfl q6
          refine j_aload_n X 6 dL_law_857 rfl rfl ?_
          refine j_iload X 0 dL_law_858 rfl ?_
          refine j_iconst (v := nI 3) X (by decide) dL_law_860 ?_
          refine j_callZIf X hA hZ (rest := []) ([q_ar sn cI 4 f, q_ar wl cI 144 g, q_ar hl cI 8 v]) (S := S) [.int (nI j), .int (nI 3)] (c_X5_team l G cI cZ cT o S n j 3 hJ.1 hj9 (by decide)) 2 rfl gL_law_X5_team rfl ⟨rfl, rfl⟩ hz_X5_team ⟨Nat.le_of_ble_eq_true rfl, Nat.le_of_ble_eq_true rfl⟩ rfl (Nat.le_of_ble_eq_true rfl) ⟨by show kc ≤ 600086; omega, by show qc ≤ 7301442; omega⟩ dL_law_861 ?_
          refine j_if_le X (tgt := 889) dL_law_864 (by decide) (fun q7 => ?_) (fun q7 => ?_)
          · exact B889
          · have hct := c3 q7
            rw [ecl] at hct
            refine j_aload_n X 6 dL_law_867 rfl rfl ?_
            refine j_aload_n X 6 dL_law_868 rfl rfl ?_
            refine j_iload X 0 dL_law_869 rfl ?_
            refine j_iconst (v := nI 1) X (by decide) dL_law_871 ?_
            refine j_callZIf X hA hZ (rest := [.ref o]) ([q_ar sn cI 4 f, q_ar wl cI 144 g, q_ar hl cI 8 v]) (S := S) [.int (nI j), .int (nI 1)] (c_X5_team l G cI cZ cT o S n j 1 hJ.1 hj9 (by decide)) 2 rfl gL_law_X5_team rfl ⟨rfl, rfl⟩ hz_X5_team ⟨Nat.le_of_ble_eq_true rfl, Nat.le_of_ble_eq_true rfl⟩ rfl (Nat.le_of_ble_eq_true rfl) ⟨by show kc ≤ 600086; omega, by show qc ≤ 7301442; omega⟩ dL_law_872 ?_
            refine j_aload_n X 6 dL_law_875 rfl rfl ?_
            refine j_iload X 0 dL_law_876 rfl ?_
            refine j_iconst (v := nI 2) X (by decide) dL_law_878 ?_
            refine j_callZIf X hA hZ (rest := [.int (nI (cl (S 0 15 j) % 12)), .ref o]) ([q_ar sn cI 4 f, q_ar wl cI 144 g, q_ar hl cI 8 v]) (S := S) [.int (nI j), .int (nI 2)] (c_X5_team l G cI cZ cT o S n j 2 hJ.1 hj9 (by decide)) 2 rfl gL_law_X5_team rfl ⟨rfl, rfl⟩ hz_X5_team ⟨Nat.le_of_ble_eq_true rfl, Nat.le_of_ble_eq_true rfl⟩ rfl (Nat.le_of_ble_eq_true rfl) ⟨by show kc ≤ 600086; omega, by show qc ≤ 7301442; omega⟩ dL_law_879 ?_
            refine j_iconst (v := nI 2) X (by decide) dL_law_882 ?_
            refine j_callZIf X hA hZ (rest := []) ([q_ar sn cI 4 f, q_ar wl cI 144 g, q_ar hl cI 8 v]) (S := S) [.int (nI (cl (S 0 15 j) % 12)), .int (nI (cl (S 0 15 j) / 12)), .int (nI 2)] (by rw [ecl]; exact c_X5_cellA l G cI cZ cT o S cc 2 hcc (by decide)) 3 rfl gL_law_X5_cell rfl ⟨rfl, rfl⟩ hz_X5_cell ⟨Nat.le_of_ble_eq_true rfl, Nat.le_of_ble_eq_true rfl⟩ rfl (Nat.le_of_ble_eq_true rfl) ⟨by show kc ≤ 600086; omega, by show qc ≤ 7301442; omega⟩ dL_law_883 ?_
            refine j_if_eq X (tgt := 945) dL_law_886 (by decide) (fun q8 => ?_) (fun q8 => ?_)
            · exact absurd (hct.symm.trans q8) (by decide)
            · exact B889
theorem law_end (X : j_X p s m #[Value.ref K.1] meth c code 22 RL wsL_law ret G (j_ty cI cZ cT cB)) (hZ : j_Z K (va_A ([] : va_W) s.heap.size) s s.heap) (hL : K.2.1 < 2 ^ 31) (hkc : kc ≤ 2000) (hqc : qc ≤ 500000) {k9 q9 : Nat} {lo : List (Nat × Value)} {ws : va_W} (hk9 : k9 ≤ 600086) (hq9 : q9 ≤ 7301442) : j_V p l e room_1 s m #[Value.ref K.1] below meth c (lw_Z below #[Value.ref K.1] s) G 22 (va_A ([] : va_W) s.heap.size) k9 q9 ws 959 lo [] := by
  refine j_iconst (v := 1) X (by decide) dL_law_959 ?_
  intro H locs ls hP hD hS h
  exact va_forget (fun q hq => hA2_law _ (hS.2.2 q hq)) (W.widen hk9 hq9 (lw_ret X.1.1 X.1.2.1 X.2.2.1 X.2.2.2 dL_law_960))
set_option maxRecDepth 100000 in
set_option maxHeartbeats 4000000 in
theorem law_turns (X : j_X p s m #[Value.ref K.1] meth c code 22 RL wsL_law ret G (j_ty cI cZ cT cB)) (hZ : j_Z K (va_A ([] : va_W) s.heap.size) s s.heap) (hL : K.2.1 < 2 ^ 31) : ∀ (d i : Nat), i + d = 16 → ∀ S : zS, zJ S n → j_V p l e room_1 s m #[Value.ref K.1] below meth c (lw_Z below #[Value.ref K.1] s) G 22 (va_A ([] : va_W) s.heap.size) (700 + 3 * i) (130000 + 156 * i) (z_w cI cZ cT o S) 13 [(3, .int (nI i)), (2, .int (nI n)), (1, .ref o), (0, .ref K.1)] [] := by
  intro d
  induction d with
  | zero =>
    intro i hi S hJ
    refine j_iload_n X 0 dL_law_13 rfl rfl ?_
    refine j_bipush (v := nI 16) X (by decide) dL_law_14 ?_
    refine j_ncmp_ge X i 16 rfl rfl (by omega) (by omega) (tgt := 959) dL_law_16 (by decide) (fun q0 => ?_) (fun q0 => ?_)
    · exact law_end X hZ hL (kc := 0) (qc := 0) (by omega) (by omega) (by omega) (by omega)
    · exact absurd q0 (by omega)
  | succ d ih =>
    intro i hi S hJ
    refine j_iload_n X 0 dL_law_13 rfl rfl ?_
    refine j_bipush (v := nI 16) X (by decide) dL_law_14 ?_
    refine j_ncmp_ge X i 16 rfl rfl (by omega) (by omega) (tgt := 959) dL_law_16 (by decide) (fun q0 => ?_) (fun q0 => ?_)
    · exact absurd q0 (by omega)
    · refine law_1 X hZ hL (kc := 700 + 3 * i) (qc := 130000 + 156 * i) (by omega) (by omega) (by omega) hJ (fun x a S1 ha hJ1 => ?_)
      refine law_2 X hZ hL (kc := 700 + 3 * i) (qc := 130000 + 156 * i) (by omega) (by omega) (fun S2 hJ2 => ?_) n 0 (by omega) S1 hJ1
      refine law_3 X hZ hL (kc := 700 + 3 * i) (qc := 130000 + 156 * i) (by omega) (by omega) ha hJ2 (fun h sn f S3 h1 h2 hJ3 hQ3 hf => ?_)
      refine law_4 X hZ hL (kc := 700 + 3 * i + 1) (qc := 130000 + 156 * i + 4) (by omega) (by omega) ha hJ3 hQ3 (fun S4 hJ4 hQ4 => ?_)
      refine law_5 X hZ hL (kc := 700 + 3 * i + 1) (qc := 130000 + 156 * i + 4) (by omega) (by omega) hJ4 (fun wl g hg => ?_)
      refine law_6 X hZ hL (kc := 700 + 3 * i + 1 + 1) (qc := 130000 + 156 * i + 4 + 144) (by omega) (by omega) hJ4 (fun hl v hv => ?_)
      refine law_7 X hZ hL (kc := 700 + 3 * i + 1 + 1 + 1) (qc := 130000 + 156 * i + 4 + 144 + 8) (by omega) (by omega) hJ4 h1 h2 (fun u hu => (hf u hu).trans (comes_same hQ4.1 hJ2.1 h u).symm) ?_
      have hJ5 := J_pass hJ4 h
      refine j_iconst (v := nI 0) X (by decide) dL_law_405 ?_
      refine j_istore (lo' := [(13, .int (nI 0)), (11, .ref hl), (10, .ref wl), (9, .ref sn), (3, .int (nI i)), (2, .int (nI n)), (1, .ref o), (0, .ref K.1)]) X dL_law_406 (by decide) rfl ?_
      refine j_iconst (v := nI 0) X (by decide) dL_law_408 ?_
      refine j_istore (lo' := [(14, .int (nI 0)), (13, .int (nI 0)), (11, .ref hl), (10, .ref wl), (9, .ref sn), (3, .int (nI i)), (2, .int (nI n)), (1, .ref o), (0, .ref K.1)]) X dL_law_409 (by decide) rfl ?_
      refine j_iconst (v := nI 0) X (by decide) dL_law_411 ?_
      refine j_istore (lo' := [(15, .int (nI 0)), (14, .int (nI 0)), (13, .int (nI 0)), (11, .ref hl), (10, .ref wl), (9, .ref sn), (3, .int (nI i)), (2, .int (nI n)), (1, .ref o), (0, .ref K.1)]) X dL_law_412 (by decide) rfl ?_
      refine j_iconst (v := nI 0) X (by decide) dL_law_414 ?_
      refine j_istore (lo' := [(16, .int (nI 0)), (15, .int (nI 0)), (14, .int (nI 0)), (13, .int (nI 0)), (11, .ref hl), (10, .ref wl), (9, .ref sn), (3, .int (nI i)), (2, .int (nI n)), (1, .ref o), (0, .ref K.1)]) X dL_law_415 (by decide) rfl ?_
      refine j_iconst (v := nI 0) X (by decide) dL_law_417 ?_
      refine j_istore (lo' := [(17, .int (nI 0)), (16, .int (nI 0)), (15, .int (nI 0)), (14, .int (nI 0)), (13, .int (nI 0)), (11, .ref hl), (10, .ref wl), (9, .ref sn), (3, .int (nI i)), (2, .int (nI n)), (1, .ref o), (0, .ref K.1)]) X dL_law_418 (by decide) rfl ?_
      refine law_8 X hZ hL (kc := 700 + 3 * i + 1 + 1 + 1) (qc := 130000 + 156 * i + 4 + 144 + 8) (by omega) (by omega) (S := (s_hours S4 0 n h)) (fun u hu => by rw [hg u hu]; exact pass_cell hJ4 h1 hu rfl) ?_ 144 0 (by omega)
      refine law_9 X hZ hL (kc := 700 + 3 * i + 1 + 1 + 1) (qc := 130000 + 156 * i + 4 + 144 + 8) (by omega) (by omega) hJ5 ?_
      refine j_iconst (v := nI 0) X (by decide) dL_law_823 ?_
      refine j_istore (lo' := [(17, .int (nI 0)), (11, .ref hl), (10, .ref wl), (9, .ref sn), (3, .int (nI i)), (2, .int (nI n)), (1, .ref o), (0, .ref K.1)]) X dL_law_824 (by decide) rfl ?_
      refine law_10 X hZ hL (kc := 700 + 3 * i + 1 + 1 + 1) (qc := 130000 + 156 * i + 4 + 144 + 8) (by omega) (by omega) hJ5 (fun u hu => by rw [hv u hu]; exact pass_team hJ4 hu rfl) ?_ n 0 (by omega)
      refine j_sublist (ws' := (z_w cI cZ cT o ((s_hours S4 0 n h)))) (List.sublist_append_right _ _) ?_
      refine j_iinc (v := nI (i + 1)) (lo' := [(3, .int (nI (i + 1))), (11, .ref hl), (10, .ref wl), (9, .ref sn), (2, .int (nI n)), (1, .ref o), (0, .ref K.1)]) X 3 dL_law_953 rfl ((congrArg (nI i + ·) (show Int32.ofInt 1 = nI 1 by decide)).trans (nI_add i 1)) (by decide) rfl ?_
      refine j_goto X (tgt := 13) dL_law_956 (by decide) ?_
      refine j_lo [0, 4, 5, 6] (lo' := [(3, .int (nI (i + 1))), (2, .int (nI n)), (1, .ref o), (0, .ref K.1)]) rfl ?_
      refine j_wid (k1 := 700 + 3 * (i + 1)) (q1 := 130000 + 156 * (i + 1)) (by omega) (by omega) ?_
      exact ih (i + 1) (by omega) (s_hours S4 0 n h) hJ5
set_option maxRecDepth 100000 in
set_option maxHeartbeats 4000000 in
theorem law_all (X : j_X p s m #[Value.ref K.1] meth c code 22 RL wsL_law ret G (j_ty cI cZ cT cB)) (hZ : j_Z K (va_A ([] : va_W) s.heap.size) s s.heap) (hL : K.2.1 < 2 ^ 31) : j_V p l e room_1 s m #[Value.ref K.1] below meth c (lw_Z below #[Value.ref K.1] s) G 22 (va_A ([] : va_W) s.heap.size) 0 0 ([] : va_W) 0 [(0, .ref K.1)] [] := by
  have hA := hA_law (s := s)
  refine j_aload_n X 0 dL_law_0 rfl rfl ?_
  refine p_callSR X hA hZ (rest := []) [] [] (fun (u : zS × Nat) a => z_w cI cZ cT a u.1) (List.Perm.refl _) (fun _ _ => List.Perm.refl _) [.ref K.1] (c_L_war hL) 1 rfl gL_law_L_war rfl ⟨rfl, rfl⟩ ⟨by decide +kernel, by decide +kernel, by decide +kernel⟩ ⟨Nat.le_of_ble_eq_true rfl, Nat.le_of_ble_eq_true rfl⟩ rfl (Nat.le_of_ble_eq_true rfl) ⟨Nat.le_of_ble_eq_true rfl, Nat.le_of_ble_eq_true rfl⟩ dL_law_1 (fun u o hu => ?_)
  obtain ⟨S, n⟩ := u
  have hJ : zJ S n := hu
  refine j_wid (k1 := 700) (q1 := 130000) (Nat.le_of_ble_eq_true rfl) (Nat.le_of_ble_eq_true rfl) ?_
  refine j_weq (ws' := (z_w cI cZ cT o S)) rfl ?_
  refine j_astore_n (lo' := [(1, .ref o), (0, .ref K.1)]) X dL_law_4 rfl (by decide) rfl ?_
  refine j_aload_n X 0 dL_law_5 rfl rfl ?_
  refine j_iconst (v := nI 1) X (by decide) dL_law_6 ?_
  refine j_callZIf X hA hZ (rest := []) ([]) (S := S) [.int (nI 1)] (c_X5_count l G cI cZ cT o S n 1 hJ.1 (by decide)) 1 rfl gL_law_X5_count rfl ⟨rfl, rfl⟩ hz_X5_count ⟨Nat.le_of_ble_eq_true rfl, Nat.le_of_ble_eq_true rfl⟩ rfl (Nat.le_of_ble_eq_true rfl) ⟨by show 700 ≤ 600086; omega, by show 130000 ≤ 7301442; omega⟩ dL_law_7 ?_
  refine j_istore_n (lo' := [(2, .int (nI n)), (1, .ref o), (0, .ref K.1)]) X dL_law_10 rfl (by decide) rfl ?_
  refine j_iconst (v := nI 0) X (by decide) dL_law_11 ?_
  refine j_istore_n (lo' := [(3, .int (nI 0)), (2, .int (nI n)), (1, .ref o), (0, .ref K.1)]) X dL_law_12 rfl (by decide) rfl ?_
  refine j_lo [0, 1, 2, 3] (lo' := [(3, .int (nI 0)), (2, .int (nI n)), (1, .ref o), (0, .ref K.1)]) rfl ?_
  exact law_turns X hZ hL 16 0 (by omega) S hJ
end ZL5
