theorem dL_below_0 : decode cL_below 0 = .ok (.iload_n 0, 1) := by decide +kernel
theorem dL_below_1 : decode cL_below 1 = .ok (.ldc 7, 2) := by decide +kernel
theorem dL_below_3 : decode cL_below 3 = .ok (.iand, 1) := by decide +kernel
theorem dL_below_4 : decode cL_below 4 = .ok (.iload_n 1, 1) := by decide +kernel
theorem dL_below_5 : decode cL_below 5 = .ok (.irem, 1) := by decide +kernel
theorem dL_below_6 : decode cL_below 6 = .ok (.ireturn, 1) := by decide +kernel
theorem dL_cell_0 : decode cL_cell 0 = .ok (.iload_n 1, 1) := by decide +kernel
theorem dL_cell_1 : decode cL_cell 1 = .ok (.aload_n 0, 1) := by decide +kernel
theorem dL_cell_2 : decode cL_cell 2 = .ok (.arraylength, 1) := by decide +kernel
theorem dL_cell_3 : decode cL_cell 3 = .ok (.if_icmp .ge 9, 3) := by decide +kernel
theorem dL_cell_6 : decode cL_cell 6 = .ok (.aload_n 0, 1) := by decide +kernel
theorem dL_cell_7 : decode cL_cell 7 = .ok (.iload_n 1, 1) := by decide +kernel
theorem dL_cell_8 : decode cL_cell 8 = .ok (.iaload, 1) := by decide +kernel
theorem dL_cell_9 : decode cL_cell 9 = .ok (.goto 9, 3) := by decide +kernel
theorem dL_cell_12 : decode cL_cell 12 = .ok (.ldc 8, 2) := by decide +kernel
theorem dL_cell_14 : decode cL_cell 14 = .ok (.iload_n 1, 1) := by decide +kernel
theorem dL_cell_15 : decode cL_cell 15 = .ok (.iconst 3, 1) := by decide +kernel
theorem dL_cell_16 : decode cL_cell 16 = .ok (.iadd, 1) := by decide +kernel
theorem dL_cell_17 : decode cL_cell 17 = .ok (.imul, 1) := by decide +kernel
theorem dL_cell_18 : decode cL_cell 18 = .ok (.ireturn, 1) := by decide +kernel
set_option maxRecDepth 20000 in
theorem ggL_ground_L_cell : GoodIn wsL_ground wsL_cell := goodIn_r _ [4, 5] (by decide +kernel) (by decide +kernel)
set_option maxRecDepth 20000 in
theorem gL_ground_L_cell : GoodIn wsL_ground (va_wsS RL 38 yL_cell wsL_cell) := goodIn_app (goodIn_of _ (by decide +kernel)) ggL_ground_L_cell
set_option maxRecDepth 20000 in
theorem ggL_ground_L_below : GoodIn wsL_ground wsL_below := goodIn_r _ [8, 9] (by decide +kernel) (by decide +kernel)
set_option maxRecDepth 20000 in
theorem gL_ground_L_below : GoodIn wsL_ground (va_wsS RL 42 yL_below wsL_below) := goodIn_app (goodIn_of _ (by decide +kernel)) ggL_ground_L_below
theorem dL_ground_0 : decode cL_ground 0 = .ok (.aload_n 0, 1) := by decide +kernel
theorem dL_ground_1 : decode cL_ground 1 = .ok (.iload_n 1, 1) := by decide +kernel
theorem dL_ground_2 : decode cL_ground 2 = .ok (.bipush 9, 2) := by decide +kernel
theorem dL_ground_4 : decode cL_ground 4 = .ok (.irem, 1) := by decide +kernel
theorem dL_ground_5 : decode cL_ground 5 = .ok (.invokestatic 38, 3) := by decide +kernel
theorem dL_ground_8 : decode cL_ground 8 = .ok (.iload_n 1, 1) := by decide +kernel
theorem dL_ground_9 : decode cL_ground 9 = .ok (.bipush 9, 2) := by decide +kernel
theorem dL_ground_11 : decode cL_ground 11 = .ok (.idiv, 1) := by decide +kernel
theorem dL_ground_12 : decode cL_ground 12 = .ok (.ishr, 1) := by decide +kernel
theorem dL_ground_13 : decode cL_ground 13 = .ok (.istore_n 2, 1) := by decide +kernel
theorem dL_ground_14 : decode cL_ground 14 = .ok (.iload_n 2, 1) := by decide +kernel
theorem dL_ground_15 : decode cL_ground 15 = .ok (.bipush 8, 2) := by decide +kernel
theorem dL_ground_17 : decode cL_ground 17 = .ok (.invokestatic 42, 3) := by decide +kernel
theorem dL_ground_20 : decode cL_ground 20 = .ok (.istore_n 3, 1) := by decide +kernel
theorem dL_ground_21 : decode cL_ground 21 = .ok (.iload_n 3, 1) := by decide +kernel
theorem dL_ground_22 : decode cL_ground 22 = .ok (.ifCond .ne 8, 3) := by decide +kernel
theorem dL_ground_25 : decode cL_ground 25 = .ok (.bipush 35, 2) := by decide +kernel
theorem dL_ground_27 : decode cL_ground 27 = .ok (.goto 45, 3) := by decide +kernel
theorem dL_ground_30 : decode cL_ground 30 = .ok (.iload_n 3, 1) := by decide +kernel
theorem dL_ground_31 : decode cL_ground 31 = .ok (.iconst 1, 1) := by decide +kernel
theorem dL_ground_32 : decode cL_ground 32 = .ok (.if_icmp .ne 18, 3) := by decide +kernel
theorem dL_ground_35 : decode cL_ground 35 = .ok (.bipush 97, 2) := by decide +kernel
theorem dL_ground_37 : decode cL_ground 37 = .ok (.iload_n 2, 1) := by decide +kernel
theorem dL_ground_38 : decode cL_ground 38 = .ok (.iconst 3, 1) := by decide +kernel
theorem dL_ground_39 : decode cL_ground 39 = .ok (.ishr, 1) := by decide +kernel
theorem dL_ground_40 : decode cL_ground 40 = .ok (.bipush 9, 2) := by decide +kernel
theorem dL_ground_42 : decode cL_ground 42 = .ok (.invokestatic 42, 3) := by decide +kernel
theorem dL_ground_45 : decode cL_ground 45 = .ok (.iadd, 1) := by decide +kernel
theorem dL_ground_46 : decode cL_ground 46 = .ok (.i2c, 1) := by decide +kernel
theorem dL_ground_47 : decode cL_ground 47 = .ok (.goto 25, 3) := by decide +kernel
theorem dL_ground_50 : decode cL_ground 50 = .ok (.iload_n 3, 1) := by decide +kernel
theorem dL_ground_51 : decode cL_ground 51 = .ok (.iconst 5, 1) := by decide +kernel
theorem dL_ground_52 : decode cL_ground 52 = .ok (.if_icmp .ge 8, 3) := by decide +kernel
theorem dL_ground_55 : decode cL_ground 55 = .ok (.bipush 46, 2) := by decide +kernel
theorem dL_ground_57 : decode cL_ground 57 = .ok (.goto 15, 3) := by decide +kernel
theorem dL_ground_60 : decode cL_ground 60 = .ok (.bipush 49, 2) := by decide +kernel
theorem dL_ground_62 : decode cL_ground 62 = .ok (.iload_n 2, 1) := by decide +kernel
theorem dL_ground_63 : decode cL_ground 63 = .ok (.iconst 4, 1) := by decide +kernel
theorem dL_ground_64 : decode cL_ground 64 = .ok (.ishr, 1) := by decide +kernel
theorem dL_ground_65 : decode cL_ground 65 = .ok (.bipush 9, 2) := by decide +kernel
theorem dL_ground_67 : decode cL_ground 67 = .ok (.invokestatic 42, 3) := by decide +kernel
theorem dL_ground_70 : decode cL_ground 70 = .ok (.iadd, 1) := by decide +kernel
theorem dL_ground_71 : decode cL_ground 71 = .ok (.i2c, 1) := by decide +kernel
theorem dL_ground_72 : decode cL_ground 72 = .ok (.ireturn, 1) := by decide +kernel
section ZL1
variable {l : Launch} {G : va_G} {K : Nat × Nat × (Nat → Int32)} {cI cZ cT cB : ClassId}
theorem below_lt (v : Int32) {n : Nat} (h0 : 0 < n) (hn : n < 2 ^ 31) : ∃ k, k < n ∧ (v &&& 2147483647) - (v &&& 2147483647) / nI n * nI n = nI k := by
  obtain ⟨j, hj, e⟩ := pk_andE v (m := 2147483647) 31 (by decide)
  exact ⟨j % n, Nat.mod_lt _ h0, by rw [e]; exact pk_rem (by omega) h0 hn⟩
theorem jl_1 : Cond.constant RL 7 (2147483647) ∈ wsL_below := by decide +kernel
theorem c_L_below {tys : List (ClassId × FieldType)} (v : Int32) (n : Nat) (h0 : 0 < n) (hn : n < 2 ^ 31) : jI l G K tys yL_below wsL_below { frames := 0, cells := 0, slots := 0, locals := 0 } [] [.int v, .int (nI n)] 0 0 (fun r (_ : Unit) => ∃ k, k < n ∧ r = nI k) (fun _ => []) := by
  refine j_ofI (cc := cL_below) (maxL := 2) (by decide) rfl (Nat.le_of_ble_eq_true rfl) ?_
  intro p e s m args below meth c X hnm hZ
  refine j_iload_n X 0 dL_below_0 rfl rfl ?_
  refine j_ldc X jl_1 dL_below_1 ?_
  refine j_iand X dL_below_3 ?_
  refine j_iload_n X 1 dL_below_4 rfl rfl ?_
  refine j_irem X (nI_ne0 h0 hn) dL_below_5 ?_
  exact j_iret X () rfl dL_below_6 (below_lt v h0 hn)
theorem jl_2 : Cond.constant RL 8 (790386105) ∈ wsL_cell := by decide +kernel
theorem c_L_cell {tys : List (ClassId × FieldType)} (k : Nat) (hk : k < 2 ^ 30) (hL : K.2.1 < 2 ^ 31) : jI l G K tys yL_cell wsL_cell { frames := 0, cells := 0, slots := 0, locals := 0 } [] [.ref K.1, .int (nI k)] 0 0 (fun (_ : Int32) (_ : Unit) => True) (fun _ => []) := by
  refine j_ofI (cc := cL_cell) (maxL := 2) (by decide) rfl (Nat.le_of_ble_eq_true rfl) ?_
  intro p e s m args below meth c X hnm hZ
  refine j_iload_n X 1 dL_cell_0 rfl rfl ?_
  refine j_aload_n X 0 dL_cell_1 rfl rfl ?_
  refine j_slen X hZ.1.1 hZ.1.2.1 hZ.1.2.2 dL_cell_2 ?_
  refine j_ncmp_ge X k K.2.1 rfl rfl (by omega) hL dL_cell_3 (tgt := 12) (by decide) (fun _ => ?_) (fun q => ?_)
  · refine j_ldc X jl_2 dL_cell_12 ?_
    refine j_iload_n X 1 dL_cell_14 rfl rfl ?_
    refine j_iconst (v := 3) X (by decide) dL_cell_15 ?_
    refine j_iadd X dL_cell_16 ?_
    refine j_imul X dL_cell_17 ?_
    exact j_iret X () rfl dL_cell_18 trivial
  · refine j_aload_n X 0 dL_cell_6 rfl rfl ?_
    refine j_iload_n X 1 dL_cell_7 rfl rfl ?_
    refine j_sld X hZ.1.1 hZ.1.2.1 hZ.1.2.2 (vp_in_nI q hL) dL_cell_8 ?_
    refine j_goto X (tgt := 18) dL_cell_9 (by decide) ?_
    exact j_iret X () rfl dL_cell_18 trivial
theorem g_char {q : Nat} (hq : q < 256) : ((nI q).toUInt32 % 65536).toInt32 = nI q := (by decide +kernel : ∀ q, q < 256 → ((nI q).toUInt32 % 65536).toInt32 = nI q) q hq
theorem c_L_ground {tys : List (ClassId × FieldType)} (k : Nat) (hk : k < 144) (hL : K.2.1 < 2 ^ 31) : jI l G K tys yL_ground wsL_ground { frames := 1, cells := 0, slots := 0, locals := 21 } [] [.ref K.1, .int (nI k)] 0 0 (fun r (_ : Unit) => ∃ c, c < 256 ∧ r = nI c) (fun _ => []) := by
  refine j_ofCc (cc := cL_ground) (maxL := 4) (by decide) rfl (Nat.le_of_ble_eq_true rfl) ?_
  intro p e s m args below meth c X hnm hZ
  refine j_aload_n X 0 dL_ground_0 rfl rfl ?_
  refine j_iload_n X 1 dL_ground_1 rfl rfl ?_
  refine j_bipush (v := nI 9) X (by decide) dL_ground_2 ?_
  refine j_irem X (by decide) dL_ground_4 ?_
  refine j_top (pk_rem (a := k) (d := 9) (by omega) (by decide) (by decide)) ?_
  refine j_callSI X (fun _ h => Or.inr h) hZ (rest := []) (wc := []) (wr := []) [] [] rfl rfl rfl rfl (by decide) [.ref K.1, .int (nI (k % 9))] (c_L_cell (k % 9) (by omega) hL) 2 rfl gL_ground_L_cell rfl ⟨rfl, rfl⟩ (by decide +kernel) (by exact ⟨Nat.le_of_ble_eq_true rfl, Nat.le_of_ble_eq_true rfl⟩) rfl (Nat.le_of_ble_eq_true rfl) (by exact ⟨Nat.le_of_ble_eq_true rfl, Nat.le_of_ble_eq_true rfl⟩) dL_ground_5 (fun r0 u0 _ => ?_)
  refine j_iload_n X 1 dL_ground_8 rfl rfl ?_
  refine j_bipush (v := nI 9) X (by decide) dL_ground_9 ?_
  refine j_idiv X (by decide) dL_ground_11 ?_
  refine j_ishr X dL_ground_12 ?_
  generalize r0 >>> (nI k / nI 9 &&& 31) = x0
  refine j_istore_n X dL_ground_13 rfl (by decide) rfl ?_
  refine j_iload_n X 0 dL_ground_14 rfl rfl ?_
  refine j_bipush (v := nI 8) X (by decide) dL_ground_15 ?_
  refine j_callSI X (fun _ h => Or.inr h) hZ (rest := []) (wc := []) (wr := []) [] [] rfl rfl rfl rfl (by decide) [.int x0, .int (nI 8)] (c_L_below x0 8 (by decide) (by decide)) 2 rfl gL_ground_L_below rfl ⟨rfl, rfl⟩ (by decide +kernel) (by exact ⟨Nat.le_of_ble_eq_true rfl, Nat.le_of_ble_eq_true rfl⟩) rfl (Nat.le_of_ble_eq_true rfl) (by exact ⟨Nat.le_of_ble_eq_true rfl, Nat.le_of_ble_eq_true rfl⟩) dL_ground_17 (fun r1 u1 hr1 => ?_)
  obtain ⟨k1, hk1, rfl⟩ := hr1
  refine j_istore_n X dL_ground_20 rfl (by decide) rfl ?_
  refine j_iload_n X 0 dL_ground_21 rfl rfl ?_
  refine j_nif_ne X k1 rfl (by omega) dL_ground_22 (tgt := 30) (by decide) (fun h1 => ?_) (fun h1 => ?_)
  · refine j_iload_n X 0 dL_ground_30 rfl rfl ?_
    refine j_iconst (v := nI 1) X (by decide) dL_ground_31 ?_
    refine j_ncmp_ne X k1 1 rfl rfl (by omega) (by decide) dL_ground_32 (tgt := 50) (by decide) (fun h2 => ?_) (fun h2 => ?_)
    · refine j_iload_n X 0 dL_ground_50 rfl rfl ?_
      refine j_iconst (v := nI 5) X (by decide) dL_ground_51 ?_
      refine j_ncmp_ge X k1 5 rfl rfl (by omega) (by decide) dL_ground_52 (tgt := 60) (by decide) (fun h3 => ?_) (fun h3 => ?_)
      · refine j_bipush (v := nI 49) X (by decide) dL_ground_60 ?_
        refine j_iload_n X 1 dL_ground_62 rfl rfl ?_
        refine j_iconst (v := 4) X (by decide) dL_ground_63 ?_
        refine j_ishr X dL_ground_64 ?_
        generalize x0 >>> ((4 : Int32) &&& 31) = x1
        refine j_bipush (v := nI 9) X (by decide) dL_ground_65 ?_
        refine j_callSI X (fun _ h => Or.inr h) hZ (rest := [.int (nI 49)]) (wc := []) (wr := []) [] [] rfl rfl rfl rfl (by decide) [.int x1, .int (nI 9)] (c_L_below x1 9 (by decide) (by decide)) 2 rfl gL_ground_L_below rfl ⟨rfl, rfl⟩ (by decide +kernel) (by exact ⟨Nat.le_of_ble_eq_true rfl, Nat.le_of_ble_eq_true rfl⟩) rfl (Nat.le_of_ble_eq_true rfl) (by exact ⟨Nat.le_of_ble_eq_true rfl, Nat.le_of_ble_eq_true rfl⟩) dL_ground_67 (fun r2 u2 hr2 => ?_)
        obtain ⟨k2, hk2, rfl⟩ := hr2
        refine j_iadd X dL_ground_70 ?_
        refine j_top (nI_add 49 k2) ?_
        refine j_i2c X (v := nI (49 + k2)) (g_char (by omega)) dL_ground_71 ?_
        exact j_zret X () rfl (pk_charN (by omega)).1 dL_ground_72 ⟨49 + k2, by omega, rfl⟩
      · refine j_bipush (v := nI 46) X (by decide) dL_ground_55 ?_
        refine j_goto X (tgt := 72) dL_ground_57 (by decide) ?_
        exact j_zret X () rfl (pk_charN (by omega)).1 dL_ground_72 ⟨46, by omega, rfl⟩
    · refine j_bipush (v := nI 97) X (by decide) dL_ground_35 ?_
      refine j_iload_n X 1 dL_ground_37 rfl rfl ?_
      refine j_iconst (v := 3) X (by decide) dL_ground_38 ?_
      refine j_ishr X dL_ground_39 ?_
      generalize x0 >>> ((3 : Int32) &&& 31) = x1
      refine j_bipush (v := nI 9) X (by decide) dL_ground_40 ?_
      refine j_callSI X (fun _ h => Or.inr h) hZ (rest := [.int (nI 97)]) (wc := []) (wr := []) [] [] rfl rfl rfl rfl (by decide) [.int x1, .int (nI 9)] (c_L_below x1 9 (by decide) (by decide)) 2 rfl gL_ground_L_below rfl ⟨rfl, rfl⟩ (by decide +kernel) (by exact ⟨Nat.le_of_ble_eq_true rfl, Nat.le_of_ble_eq_true rfl⟩) rfl (Nat.le_of_ble_eq_true rfl) (by exact ⟨Nat.le_of_ble_eq_true rfl, Nat.le_of_ble_eq_true rfl⟩) dL_ground_42 (fun r2 u2 hr2 => ?_)
      obtain ⟨k2, hk2, rfl⟩ := hr2
      refine j_iadd X dL_ground_45 ?_
      refine j_top (nI_add 97 k2) ?_
      refine j_i2c X (v := nI (97 + k2)) (g_char (by omega)) dL_ground_46 ?_
      refine j_goto X (tgt := 72) dL_ground_47 (by decide) ?_
      exact j_zret X () rfl (pk_charN (by omega)).1 dL_ground_72 ⟨97 + k2, by omega, rfl⟩
  · refine j_bipush (v := nI 35) X (by decide) dL_ground_25 ?_
    refine j_goto X (tgt := 72) dL_ground_27 (by decide) ?_
    exact j_zret X () rfl (pk_charN (by omega)).1 dL_ground_72 ⟨35, by omega, rfl⟩
end ZL1
