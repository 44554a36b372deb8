set_option maxRecDepth 20000 in
theorem ggL_type_X5_count : GoodIn wsL_type wsX5_count := goodIn_ca (goodIn_r _ [5, 6, 7, 8, 9, 10, 4, 11, 12, 13, 14, 15, 16, 17, 18, 19, 20, 21, 22, 23, 24, 25, 26, 27, 28, 29, 30, 31, 32, 33, 34, 35, 36, 37, 38, 39, 40, 41, 42, 43, 44, 45, 46, 47, 48, 49, 50, 51, 52, 53, 54, 55, 56, 57, 58, 131, 132, 133, 134, 135, 136, 137, 138, 139, 140, 141, 142, 143, 144, 145, 146, 147, 148, 149, 150, 151, 152, 153, 154, 155, 156, 157, 158, 159, 160, 161, 162, 163, 164, 165, 166, 167, 168, 169, 170] (by decide +kernel) (by decide +kernel)) (goodIn_sub (fun _ h => List.mem_cons_of_mem _ (List.mem_append_left _ (List.mem_append_left _ (List.mem_append_right _ h)))) (by decide +kernel))
set_option maxRecDepth 20000 in
theorem gL_type_X5_count : GoodIn wsL_type (wsV RL 19 RX5 yX5_count wsX5_count) := goodIn_app (goodIn_of _ (by decide +kernel)) ggL_type_X5_count
set_option maxRecDepth 20000 in
theorem ggL_type_J0_length_8abf5 : GoodIn wsL_type wsJ0_length_8abf5 := goodIn_r _ [63, 64, 65, 66, 67, 62, 68, 69, 70, 171, 172, 173, 174] (by decide +kernel) (by decide +kernel)
set_option maxRecDepth 20000 in
theorem gL_type_J0_length_8abf5 : GoodIn wsL_type (wsV RL 9 RJ0 yJ0_length_8abf5 wsJ0_length_8abf5) := goodIn_app (goodIn_of _ (by decide +kernel)) ggL_type_J0_length_8abf5
set_option maxRecDepth 20000 in
theorem ggL_type_L_word : GoodIn wsL_type wsL_word := goodIn_r _ [74, 59, 60, 61, 62, 63, 64, 65, 66, 67, 68, 69, 70, 75, 76, 77, 78, 79, 80, 81, 82, 83, 84, 85, 86, 87, 88, 89, 90, 91, 92, 93, 94, 95, 96, 97, 98, 99, 100, 101, 102, 103, 104, 105, 106, 107, 108, 109, 110, 111, 171, 172, 173, 174] (by decide +kernel) (by decide +kernel)
set_option maxRecDepth 20000 in
theorem gL_type_L_word : GoodIn wsL_type (va_wsS RL 25 yL_word wsL_word) := goodIn_app (goodIn_of _ (by decide +kernel)) ggL_type_L_word
set_option maxRecDepth 20000 in
theorem ggL_type_X5_feed : GoodIn wsL_type wsX5_feed := goodIn_ca (goodIn_r _ [115, 116, 117, 17, 18, 118, 119, 120, 121, 122, 123, 124, 131, 132, 133, 134, 135, 136, 153, 154] (by decide +kernel) (by decide +kernel)) (goodIn_sub (fun _ h => List.mem_cons_of_mem _ (List.mem_append_left _ (List.mem_append_right _ h))) (by decide +kernel))
set_option maxRecDepth 20000 in
theorem gL_type_X5_feed : GoodIn wsL_type (wsV RL 31 RX5 yX5_feed wsX5_feed) := goodIn_app (goodIn_of _ (by decide +kernel)) ggL_type_X5_feed
set_option maxRecDepth 20000 in
theorem ggL_type_X5_trim : GoodIn wsL_type wsX5_trim := goodIn_ca (goodIn_r _ [128, 129, 130, 17, 18, 131, 132, 133, 134, 135, 136, 153, 154] (by decide +kernel) (by decide +kernel)) (goodIn_sub (fun _ h => List.mem_cons_of_mem _ (List.mem_append_right _ h)) (by decide +kernel))
set_option maxRecDepth 20000 in
theorem gL_type_X5_trim : GoodIn wsL_type (wsV RL 35 RX5 yX5_trim wsX5_trim) := goodIn_app (goodIn_of _ (by decide +kernel)) ggL_type_X5_trim
theorem dL_type_0 : decode cL_type 0 = .ok (.aload_n 0, 1) := by decide +kernel
theorem dL_type_1 : decode cL_type 1 = .ok (.bipush 10, 2) := by decide +kernel
theorem dL_type_3 : decode cL_type 3 = .ok (.invokevirtual 19, 3) := by decide +kernel
theorem dL_type_6 : decode cL_type 6 = .ok (.aload_n 1, 1) := by decide +kernel
theorem dL_type_7 : decode cL_type 7 = .ok (.invokevirtual 9, 3) := by decide +kernel
theorem dL_type_10 : decode cL_type 10 = .ok (.iadd, 1) := by decide +kernel
theorem dL_type_11 : decode cL_type 11 = .ok (.istore_n 2, 1) := by decide +kernel
theorem dL_type_12 : decode cL_type 12 = .ok (.iconst 0, 1) := by decide +kernel
theorem dL_type_13 : decode cL_type 13 = .ok (.istore_n 3, 1) := by decide +kernel
theorem dL_type_14 : decode cL_type 14 = .ok (.iload_n 3, 1) := by decide +kernel
theorem dL_type_15 : decode cL_type 15 = .ok (.aload_n 1, 1) := by decide +kernel
theorem dL_type_16 : decode cL_type 16 = .ok (.invokevirtual 9, 3) := by decide +kernel
theorem dL_type_19 : decode cL_type 19 = .ok (.if_icmp .ge 50, 3) := by decide +kernel
theorem dL_type_22 : decode cL_type 22 = .ok (.aload_n 0, 1) := by decide +kernel
theorem dL_type_23 : decode cL_type 23 = .ok (.aload_n 1, 1) := by decide +kernel
theorem dL_type_24 : decode cL_type 24 = .ok (.iload_n 3, 1) := by decide +kernel
theorem dL_type_25 : decode cL_type 25 = .ok (.invokestatic 25, 3) := by decide +kernel
theorem dL_type_28 : decode cL_type 28 = .ok (.aload_n 1, 1) := by decide +kernel
theorem dL_type_29 : decode cL_type 29 = .ok (.iload_n 3, 1) := by decide +kernel
theorem dL_type_30 : decode cL_type 30 = .ok (.iconst 4, 1) := by decide +kernel
theorem dL_type_31 : decode cL_type 31 = .ok (.iadd, 1) := by decide +kernel
theorem dL_type_32 : decode cL_type 32 = .ok (.invokestatic 25, 3) := by decide +kernel
theorem dL_type_35 : decode cL_type 35 = .ok (.aload_n 1, 1) := by decide +kernel
theorem dL_type_36 : decode cL_type 36 = .ok (.iload_n 3, 1) := by decide +kernel
theorem dL_type_37 : decode cL_type 37 = .ok (.bipush 8, 2) := by decide +kernel
theorem dL_type_39 : decode cL_type 39 = .ok (.iadd, 1) := by decide +kernel
theorem dL_type_40 : decode cL_type 40 = .ok (.invokestatic 25, 3) := by decide +kernel
theorem dL_type_43 : decode cL_type 43 = .ok (.aload_n 1, 1) := by decide +kernel
theorem dL_type_44 : decode cL_type 44 = .ok (.iload_n 3, 1) := by decide +kernel
theorem dL_type_45 : decode cL_type 45 = .ok (.bipush 12, 2) := by decide +kernel
theorem dL_type_47 : decode cL_type 47 = .ok (.iadd, 1) := by decide +kernel
theorem dL_type_48 : decode cL_type 48 = .ok (.invokestatic 25, 3) := by decide +kernel
theorem dL_type_51 : decode cL_type 51 = .ok (.aload_n 1, 1) := by decide +kernel
theorem dL_type_52 : decode cL_type 52 = .ok (.iload_n 3, 1) := by decide +kernel
theorem dL_type_53 : decode cL_type 53 = .ok (.bipush 16, 2) := by decide +kernel
theorem dL_type_55 : decode cL_type 55 = .ok (.iadd, 1) := by decide +kernel
theorem dL_type_56 : decode cL_type 56 = .ok (.invokestatic 25, 3) := by decide +kernel
theorem dL_type_59 : decode cL_type 59 = .ok (.invokevirtual 31, 3) := by decide +kernel
theorem dL_type_62 : decode cL_type 62 = .ok (.pop, 1) := by decide +kernel
theorem dL_type_63 : decode cL_type 63 = .ok (.iinc 3 20, 3) := by decide +kernel
theorem dL_type_66 : decode cL_type 66 = .ok (.goto (-52), 3) := by decide +kernel
theorem dL_type_69 : decode cL_type 69 = .ok (.aload_n 0, 1) := by decide +kernel
theorem dL_type_70 : decode cL_type 70 = .ok (.iload_n 2, 1) := by decide +kernel
theorem dL_type_71 : decode cL_type 71 = .ok (.invokevirtual 35, 3) := by decide +kernel
theorem dL_type_74 : decode cL_type 74 = .ok (.pop, 1) := by decide +kernel
theorem dL_type_75 : decode cL_type 75 = .ok (.return_, 1) := by decide +kernel
section ZL3
variable {l : Launch} {G : va_G} {K : Nat × Nat × (Nat → Int32)} {cI cZ cT cB : ClassId}
set_option maxRecDepth 100000 in
set_option maxHeartbeats 4000000 in
/-- the text is typed on the tape -/
theorem c_L_type (o hs hw : Nat) (g : Nat → Int32) (S : zS) (hJ : zJ S 0) (hl : S 2 1 0 = nI 0) : jU l G K (j_ty cI cZ cT cB) yL_type wsL_type { frames := 5, cells := 0, slots := 0, locals := 110 } (j_str cB hs hw 156 g ++ z_w cI cZ cT o S) [.ref o, .ref hs] 0 0 (fun (u : zS) => zJ u 0 ∧ u 2 1 0 = nI 156) (fun u => j_str cB hs hw 156 g ++ z_w cI cZ cT o u) := by
  refine j_ofV (cc := cL_type) (maxL := 4) (by decide) rfl (Nat.le_of_ble_eq_true rfl) ?_
  intro p e s m args below meth c X hnm hZ
  have hA : ∀ q, s.heap.size ≤ q → (va_A (j_str cB hs hw 156 g ++ z_w cI cZ cT o S) s.heap.size) q := fun _ h => Or.inr h
  refine j_aload_n X 0 dL_type_0 rfl rfl ?_
  refine j_bipush (v := nI 10) X (by decide) dL_type_1 ?_
  have hc : s_count S 0 10 = nI 0 := hl
  refine j_callZIf X hA hZ (rest := []) (j_str cB hs hw 156 g) (S := S) [.int (nI 10)] (c_X5_count l G cI cZ cT o S 0 10 hJ.1 (by decide)) 1 rfl gL_type_X5_count rfl ⟨rfl, rfl⟩ hz_X5_count ⟨Nat.le_of_ble_eq_true rfl, Nat.le_of_ble_eq_true rfl⟩ rfl (Nat.le_of_ble_eq_true rfl) ⟨Nat.le_of_ble_eq_true rfl, Nat.le_of_ble_eq_true rfl⟩ dL_type_3 ?_
  refine j_top (y := nI 0) hc ?_
  refine j_aload_n X 1 dL_type_6 rfl rfl ?_
  refine p_callVI X hA hZ (rest := [.int (nI 0)]) (j_str cB hs hw 156 g) (z_w cI cZ cT o S) (fun _ => (j_str cB hs hw 156 g ++ z_w cI cZ cT o S)) (List.Perm.refl _) (fun _ => List.perm_append_comm) [] 0 rfl rfl (c_J0_length (cI := cI) (cZ := cZ) (cT := cT) hs hw 156 g (by decide)) 0 rfl gL_type_J0_length_8abf5 rfl ⟨rfl, rfl⟩ ⟨by decide +kernel, by decide +kernel, by decide +kernel, by decide +kernel⟩ ⟨Nat.le_of_ble_eq_true rfl, Nat.le_of_ble_eq_true rfl⟩ rfl (Nat.le_of_ble_eq_true rfl) ⟨Nat.le_of_ble_eq_true rfl, Nat.le_of_ble_eq_true rfl⟩ dL_type_7 (fun r u hr => ?_)
  subst hr
  refine j_iadd X dL_type_10 ?_
  refine j_top (y := nI (0 + 156)) (nI_add 0 156) ?_
  refine j_istore_n (lo' := [(2, .int (nI (0 + 156))), (0, .ref o), (1, .ref hs)]) X dL_type_11 rfl (by decide) rfl ?_
  refine j_iconst (v := nI 0) X (by decide) dL_type_12 ?_
  refine j_istore_n (lo' := [(3, .int (nI 0)), (2, .int (nI (0 + 156))), (0, .ref o), (1, .ref hs)]) X dL_type_13 rfl (by decide) rfl ?_
  have L14 : ∀ (d i : Nat), i + d = 8 → ∀ S1 : zS, zJ S1 0 → S1 2 1 0 = nI (20 * i) → j_V p l e (headSpec wsL_type { frames := 5, cells := 0, slots := 0, locals := 110 }).room s m args below meth c (MQ below (va_Qv (fun (u : zS) => zJ u 0 ∧ u 2 1 0 = nI 156) (j_B G (va_A (j_str cB hs hw 156 g ++ z_w cI cZ cT o S) s.heap.size) (fun u => j_str cB hs hw 156 g ++ z_w cI cZ cT o u)) (va_A (j_str cB hs hw 156 g ++ z_w cI cZ cT o S) s.heap.size)) args s 0 0 (va_A (j_str cB hs hw 156 g ++ z_w cI cZ cT o S) s.heap.size)) G 4 (va_A (j_str cB hs hw 156 g ++ z_w cI cZ cT o S) s.heap.size) 0 0 (j_str cB hs hw 156 g ++ z_w cI cZ cT o S1) 14 [(3, .int (nI (20 * i))), (2, .int (nI (0 + 156))), (0, .ref o), (1, .ref hs)] [] := by
    intro d
    induction d with
    | zero =>
      intro i hi S1 hJ1 hl1
      refine j_iload_n X 0 dL_type_14 rfl rfl ?_
      refine j_aload_n X 3 dL_type_15 rfl rfl ?_
      refine p_callVI X hA hZ (rest := [.int (nI (20 * i))]) (j_str cB hs hw 156 g) (z_w cI cZ cT o S1) (fun _ => (j_str cB hs hw 156 g ++ z_w cI cZ cT o S1)) (List.Perm.refl _) (fun _ => List.perm_append_comm) [] 0 rfl rfl (c_J0_length (cI := cI) (cZ := cZ) (cT := cT) hs hw 156 g (by decide)) 0 rfl gL_type_J0_length_8abf5 rfl ⟨rfl, rfl⟩ ⟨by decide +kernel, by decide +kernel, by decide +kernel, by decide +kernel⟩ ⟨Nat.le_of_ble_eq_true rfl, Nat.le_of_ble_eq_true rfl⟩ rfl (Nat.le_of_ble_eq_true rfl) ⟨Nat.le_of_ble_eq_true rfl, Nat.le_of_ble_eq_true rfl⟩ dL_type_16 (fun r u hr => ?_)
      subst hr
      refine j_ncmp_ge X (20 * i) 156 rfl rfl (by omega) (by omega) (tgt := 69) dL_type_19 (by decide) (fun h1 => ?_) (fun h1 => ?_)
      · refine j_aload_n X 2 dL_type_69 rfl rfl ?_
        refine j_iload_n X 1 dL_type_70 rfl rfl ?_
        have e8 : i = 8 := by omega
        subst e8
        refine j_callZIf X hA hZ (rest := []) (j_str cB hs hw 156 g) (S := S1) [.int (nI 156)] (c_X5_trim l G cI cZ cT o S1 160 156 (by decide) (by decide) hl1) 1 rfl gL_type_X5_trim rfl ⟨rfl, rfl⟩ hz_X5_trim ⟨Nat.le_of_ble_eq_true rfl, Nat.le_of_ble_eq_true rfl⟩ rfl (Nat.le_of_ble_eq_true rfl) ⟨Nat.le_of_ble_eq_true rfl, Nat.le_of_ble_eq_true rfl⟩ dL_type_71 ?_
        refine j_pop X rfl dL_type_74 ?_
        exact j_vret X (z_up S1 2 1 0 (nI 156)) rfl dL_type_75 ⟨J_trim hJ1 _, z_up_at _ _ _ _ _⟩
      · exact absurd h1 (by omega)
    | succ d ih =>
      intro i hi S1 hJ1 hl1
      refine j_iload_n X 0 dL_type_14 rfl rfl ?_
      refine j_aload_n X 3 dL_type_15 rfl rfl ?_
      refine p_callVI X hA hZ (rest := [.int (nI (20 * i))]) (j_str cB hs hw 156 g) (z_w cI cZ cT o S1) (fun _ => (j_str cB hs hw 156 g ++ z_w cI cZ cT o S1)) (List.Perm.refl _) (fun _ => List.perm_append_comm) [] 0 rfl rfl (c_J0_length (cI := cI) (cZ := cZ) (cT := cT) hs hw 156 g (by decide)) 0 rfl gL_type_J0_length_8abf5 rfl ⟨rfl, rfl⟩ ⟨by decide +kernel, by decide +kernel, by decide +kernel, by decide +kernel⟩ ⟨Nat.le_of_ble_eq_true rfl, Nat.le_of_ble_eq_true rfl⟩ rfl (Nat.le_of_ble_eq_true rfl) ⟨Nat.le_of_ble_eq_true rfl, Nat.le_of_ble_eq_true rfl⟩ dL_type_16 (fun r u hr => ?_)
      subst hr
      refine j_ncmp_ge X (20 * i) 156 rfl rfl (by omega) (by omega) (tgt := 69) dL_type_19 (by decide) (fun h1 => ?_) (fun h1 => ?_)
      · exact absurd h1 (by omega)
      · refine j_aload_n X 2 dL_type_22 rfl rfl ?_
        refine j_aload_n X 3 dL_type_23 rfl rfl ?_
        refine j_iload_n X 0 dL_type_24 rfl rfl ?_
        refine p_callSI X hA hZ (rest := [.ref o]) (j_str cB hs hw 156 g) (z_w cI cZ cT o S1) (fun _ => (j_str cB hs hw 156 g ++ z_w cI cZ cT o S1)) (List.Perm.refl _) (fun _ => List.perm_append_comm) [.ref hs, .int (nI (20 * i))] (c_L_word (cI := cI) (cZ := cZ) (cT := cT) hs hw 156 g (20 * i) (by decide) (by omega)) 2 rfl gL_type_L_word rfl ⟨rfl, rfl⟩ ⟨by decide +kernel, by decide +kernel, by decide +kernel⟩ ⟨Nat.le_of_ble_eq_true rfl, Nat.le_of_ble_eq_true rfl⟩ rfl (Nat.le_of_ble_eq_true rfl) ⟨Nat.le_of_ble_eq_true rfl, Nat.le_of_ble_eq_true rfl⟩ dL_type_25 (fun w1 _ _ => ?_)
        refine j_aload_n X 3 dL_type_28 rfl rfl ?_
        refine j_iload_n X 0 dL_type_29 rfl rfl ?_
        refine j_iconst (v := nI 4) X (by decide) dL_type_30 ?_
        refine j_iadd X dL_type_31 ?_
        refine j_top (y := nI ((20 * i) + 4)) (nI_add (20 * i) 4) ?_
        refine p_callSI X hA hZ (rest := [.int w1, .ref o]) (j_str cB hs hw 156 g) (z_w cI cZ cT o S1) (fun _ => (j_str cB hs hw 156 g ++ z_w cI cZ cT o S1)) (List.Perm.refl _) (fun _ => List.perm_append_comm) [.ref hs, .int (nI ((20 * i) + 4))] (c_L_word (cI := cI) (cZ := cZ) (cT := cT) hs hw 156 g ((20 * i) + 4) (by decide) (by omega)) 2 rfl gL_type_L_word rfl ⟨rfl, rfl⟩ ⟨by decide +kernel, by decide +kernel, by decide +kernel⟩ ⟨Nat.le_of_ble_eq_true rfl, Nat.le_of_ble_eq_true rfl⟩ rfl (Nat.le_of_ble_eq_true rfl) ⟨Nat.le_of_ble_eq_true rfl, Nat.le_of_ble_eq_true rfl⟩ dL_type_32 (fun w2 _ _ => ?_)
        refine j_aload_n X 3 dL_type_35 rfl rfl ?_
        refine j_iload_n X 0 dL_type_36 rfl rfl ?_
        refine j_bipush (v := nI 8) X (by decide) dL_type_37 ?_
        refine j_iadd X dL_type_39 ?_
        refine j_top (y := nI ((20 * i) + 8)) (nI_add (20 * i) 8) ?_
        refine p_callSI X hA hZ (rest := [.int w2, .int w1, .ref o]) (j_str cB hs hw 156 g) (z_w cI cZ cT o S1) (fun _ => (j_str cB hs hw 156 g ++ z_w cI cZ cT o S1)) (List.Perm.refl _) (fun _ => List.perm_append_comm) [.ref hs, .int (nI ((20 * i) + 8))] (c_L_word (cI := cI) (cZ := cZ) (cT := cT) hs hw 156 g ((20 * i) + 8) (by decide) (by omega)) 2 rfl gL_type_L_word rfl ⟨rfl, rfl⟩ ⟨by decide +kernel, by decide +kernel, by decide +kernel⟩ ⟨Nat.le_of_ble_eq_true rfl, Nat.le_of_ble_eq_true rfl⟩ rfl (Nat.le_of_ble_eq_true rfl) ⟨Nat.le_of_ble_eq_true rfl, Nat.le_of_ble_eq_true rfl⟩ dL_type_40 (fun w3 _ _ => ?_)
        refine j_aload_n X 3 dL_type_43 rfl rfl ?_
        refine j_iload_n X 0 dL_type_44 rfl rfl ?_
        refine j_bipush (v := nI 12) X (by decide) dL_type_45 ?_
        refine j_iadd X dL_type_47 ?_
        refine j_top (y := nI ((20 * i) + 12)) (nI_add (20 * i) 12) ?_
        refine p_callSI X hA hZ (rest := [.int w3, .int w2, .int w1, .ref o]) (j_str cB hs hw 156 g) (z_w cI cZ cT o S1) (fun _ => (j_str cB hs hw 156 g ++ z_w cI cZ cT o S1)) (List.Perm.refl _) (fun _ => List.perm_append_comm) [.ref hs, .int (nI ((20 * i) + 12))] (c_L_word (cI := cI) (cZ := cZ) (cT := cT) hs hw 156 g ((20 * i) + 12) (by decide) (by omega)) 2 rfl gL_type_L_word rfl ⟨rfl, rfl⟩ ⟨by decide +kernel, by decide +kernel, by decide +kernel⟩ ⟨Nat.le_of_ble_eq_true rfl, Nat.le_of_ble_eq_true rfl⟩ rfl (Nat.le_of_ble_eq_true rfl) ⟨Nat.le_of_ble_eq_true rfl, Nat.le_of_ble_eq_true rfl⟩ dL_type_48 (fun w4 _ _ => ?_)
        refine j_aload_n X 3 dL_type_51 rfl rfl ?_
        refine j_iload_n X 0 dL_type_52 rfl rfl ?_
        refine j_bipush (v := nI 16) X (by decide) dL_type_53 ?_
        refine j_iadd X dL_type_55 ?_
        refine j_top (y := nI ((20 * i) + 16)) (nI_add (20 * i) 16) ?_
        refine p_callSI X hA hZ (rest := [.int w4, .int w3, .int w2, .int w1, .ref o]) (j_str cB hs hw 156 g) (z_w cI cZ cT o S1) (fun _ => (j_str cB hs hw 156 g ++ z_w cI cZ cT o S1)) (List.Perm.refl _) (fun _ => List.perm_append_comm) [.ref hs, .int (nI ((20 * i) + 16))] (c_L_word (cI := cI) (cZ := cZ) (cT := cT) hs hw 156 g ((20 * i) + 16) (by decide) (by omega)) 2 rfl gL_type_L_word rfl ⟨rfl, rfl⟩ ⟨by decide +kernel, by decide +kernel, by decide +kernel⟩ ⟨Nat.le_of_ble_eq_true rfl, Nat.le_of_ble_eq_true rfl⟩ rfl (Nat.le_of_ble_eq_true rfl) ⟨Nat.le_of_ble_eq_true rfl, Nat.le_of_ble_eq_true rfl⟩ dL_type_56 (fun w5 _ _ => ?_)
        refine j_callZIf X hA hZ (rest := []) (j_str cB hs hw 156 g) (S := S1) [.int w1, .int w2, .int w3, .int w4, .int w5] (c_X5_feed l G cI cZ cT o S1 (20 * i) w1 w2 w3 w4 w5 (by omega) hl1) 5 rfl gL_type_X5_feed rfl ⟨rfl, rfl⟩ hz_X5_feed ⟨Nat.le_of_ble_eq_true rfl, Nat.le_of_ble_eq_true rfl⟩ rfl (Nat.le_of_ble_eq_true rfl) ⟨Nat.le_of_ble_eq_true rfl, Nat.le_of_ble_eq_true rfl⟩ dL_type_59 ?_
        refine j_pop X rfl dL_type_62 ?_
        refine j_iinc (v := nI ((20 * i) + 20)) (lo' := [(3, .int (nI ((20 * i) + 20))), (2, .int (nI (0 + 156))), (0, .ref o), (1, .ref hs)]) X 0 dL_type_63 rfl ((congrArg (nI (20 * i) + ·) (show Int32.ofInt 20 = nI 20 by decide)).trans (nI_add (20 * i) 20)) (by decide) rfl ?_
        refine j_goto X (tgt := 14) dL_type_66 (by decide) ?_
        refine j_eq (ws' := (j_str cB hs hw 156 g ++ z_w cI cZ cT o ((s_feed S1 (20 * i) w1 w2 w3 w4 w5)))) (lo' := [(3, .int (nI (20 * (i + 1)))), (2, .int (nI (0 + 156))), (0, .ref o), (1, .ref hs)]) rfl (by rw [Nat.mul_add]) ?_
        exact ih (i + 1) (by omega) (s_feed S1 (20 * i) w1 w2 w3 w4 w5) (J_feed hJ1 _ _ _ _ _ _) (feed_len _ _ _ _ _ _ _ hl1)
  exact L14 8 0 (by omega) S hJ hl
end ZL3
