set_option maxRecDepth 20000 in
theorem ggL_word_J0_length_8abf5 : GoodIn wsL_word wsJ0_length_8abf5 := goodIn_r _ [5, 6, 7, 8, 9, 4, 10, 11, 12, 50, 51, 52, 53] (by decide +kernel) (by decide +kernel)
set_option maxRecDepth 20000 in
theorem gL_word_J0_length_8abf5 : GoodIn wsL_word (wsV RL 9 RJ0 yJ0_length_8abf5 wsJ0_length_8abf5) := goodIn_app (goodIn_of _ (by decide +kernel)) ggL_word_J0_length_8abf5
set_option maxRecDepth 20000 in
theorem ggL_word_J0_charAt_5068e : GoodIn wsL_word wsJ0_charAt_5068e := goodIn_r _ [16, 6, 17, 18, 19, 4, 20, 11, 12, 21, 22, 23, 24, 25, 26, 27, 28, 29, 30, 31, 32, 33, 34, 35, 36, 37, 38, 39, 40, 41, 42, 43, 44, 45, 46, 47, 48, 49, 50, 51, 52, 53] (by decide +kernel) (by decide +kernel)
set_option maxRecDepth 20000 in
theorem gL_word_J0_charAt_5068e : GoodIn wsL_word (wsV RL 15 RJ0 yJ0_charAt_5068e wsJ0_charAt_5068e) := goodIn_app (goodIn_of _ (by decide +kernel)) ggL_word_J0_charAt_5068e
theorem dL_word_0 : decode cL_word 0 = .ok (.iconst 0, 1) := by decide +kernel
theorem dL_word_1 : decode cL_word 1 = .ok (.istore_n 2, 1) := by decide +kernel
theorem dL_word_2 : decode cL_word 2 = .ok (.iconst 0, 1) := by decide +kernel
theorem dL_word_3 : decode cL_word 3 = .ok (.istore_n 3, 1) := by decide +kernel
theorem dL_word_4 : decode cL_word 4 = .ok (.iload_n 3, 1) := by decide +kernel
theorem dL_word_5 : decode cL_word 5 = .ok (.iconst 4, 1) := by decide +kernel
theorem dL_word_6 : decode cL_word 6 = .ok (.if_icmp .ge 37, 3) := by decide +kernel
theorem dL_word_9 : decode cL_word 9 = .ok (.iload_n 2, 1) := by decide +kernel
theorem dL_word_10 : decode cL_word 10 = .ok (.bipush 8, 2) := by decide +kernel
theorem dL_word_12 : decode cL_word 12 = .ok (.ishl, 1) := by decide +kernel
theorem dL_word_13 : decode cL_word 13 = .ok (.iload_n 1, 1) := by decide +kernel
theorem dL_word_14 : decode cL_word 14 = .ok (.iload_n 3, 1) := by decide +kernel
theorem dL_word_15 : decode cL_word 15 = .ok (.iadd, 1) := by decide +kernel
theorem dL_word_16 : decode cL_word 16 = .ok (.aload_n 0, 1) := by decide +kernel
theorem dL_word_17 : decode cL_word 17 = .ok (.invokevirtual 9, 3) := by decide +kernel
theorem dL_word_20 : decode cL_word 20 = .ok (.if_icmp .ge 13, 3) := by decide +kernel
theorem dL_word_23 : decode cL_word 23 = .ok (.aload_n 0, 1) := by decide +kernel
theorem dL_word_24 : decode cL_word 24 = .ok (.iload_n 1, 1) := by decide +kernel
theorem dL_word_25 : decode cL_word 25 = .ok (.iload_n 3, 1) := by decide +kernel
theorem dL_word_26 : decode cL_word 26 = .ok (.iadd, 1) := by decide +kernel
theorem dL_word_27 : decode cL_word 27 = .ok (.invokevirtual 15, 3) := by decide +kernel
theorem dL_word_30 : decode cL_word 30 = .ok (.goto 5, 3) := by decide +kernel
theorem dL_word_33 : decode cL_word 33 = .ok (.bipush 32, 2) := by decide +kernel
theorem dL_word_35 : decode cL_word 35 = .ok (.ior, 1) := by decide +kernel
theorem dL_word_36 : decode cL_word 36 = .ok (.istore_n 2, 1) := by decide +kernel
theorem dL_word_37 : decode cL_word 37 = .ok (.iinc 3 1, 3) := by decide +kernel
theorem dL_word_40 : decode cL_word 40 = .ok (.goto (-36), 3) := by decide +kernel
theorem dL_word_43 : decode cL_word 43 = .ok (.iload_n 2, 1) := by decide +kernel
theorem dL_word_44 : decode cL_word 44 = .ok (.ireturn, 1) := by decide +kernel
section ZL2
variable {l : Launch} {G : va_G} {K : Nat × Nat × (Nat → Int32)} {cI cZ cT cB : ClassId}
theorem c_L_word (hs hw n : Nat) (g : Nat → Int32) (at9 : Nat) (hn : n < 2 ^ 30) (ha : at9 < 2 ^ 30) : jI l G K (j_ty cI cZ cT cB) yL_word wsL_word { frames := 4, cells := 0, slots := 0, locals := 87 } (j_str cB hs hw n g) [.ref hs, .int (nI at9)] 0 0 (fun (_ : Int32) (_ : Unit) => True) (fun _ => j_str cB hs hw n g) := by
  refine j_ofI (cc := cL_word) (maxL := 4) (by decide) rfl (Nat.le_of_ble_eq_true rfl) ?_
  intro p e s m args below meth c X hnm hZ
  have B9 : ∀ (j : Nat) (w c9 : Int32), j < 4 → (∀ w' : Int32, j_V p l e (headSpec wsL_word { frames := 4, cells := 0, slots := 0, locals := 87 }).room s m args below meth c (MQ below (va_Qi (fun (_ : Int32) (_ : Unit) => True) (j_B G (va_A (j_str cB hs hw n g) s.heap.size) (fun _ : Unit => j_str cB hs hw n g)) (va_A (j_str cB hs hw n g) s.heap.size)) args s 0 0 (va_A (j_str cB hs hw n g) s.heap.size)) G 4 (va_A (j_str cB hs hw n g) s.heap.size) 0 0 (j_str cB hs hw n g) 4 [(3, .int (nI (j + 1))), (2, .int w'), (0, .ref hs), (1, .int (nI at9))] []) → j_V p l e (headSpec wsL_word { frames := 4, cells := 0, slots := 0, locals := 87 }).room s m args below meth c (MQ below (va_Qi (fun (_ : Int32) (_ : Unit) => True) (j_B G (va_A (j_str cB hs hw n g) s.heap.size) (fun _ : Unit => j_str cB hs hw n g)) (va_A (j_str cB hs hw n g) s.heap.size)) args s 0 0 (va_A (j_str cB hs hw n g) s.heap.size)) G 4 (va_A (j_str cB hs hw n g) s.heap.size) 0 0 (j_str cB hs hw n g) 35 [(3, .int (nI j)), (2, .int w), (0, .ref hs), (1, .int (nI at9))] [.int c9, .int (w <<< ((8 : Int32) &&& 31))] := fun j w c9 hj kk => by
    refine j_ior X dL_word_35 ?_
    refine j_istore_n X dL_word_36 rfl (by decide) rfl ?_
    refine j_iinc (v := nI (j + 1)) X 1 dL_word_37 rfl (nI_1 j) (by decide) rfl ?_
    refine j_goto X (tgt := 4) dL_word_40 (by decide) ?_
    exact kk _
  have L9 : ∀ (d j : Nat), j + d = 4 → ∀ w : Int32, j_V p l e (headSpec wsL_word { frames := 4, cells := 0, slots := 0, locals := 87 }).room s m args below meth c (MQ below (va_Qi (fun (_ : Int32) (_ : Unit) => True) (j_B G (va_A (j_str cB hs hw n g) s.heap.size) (fun _ : Unit => j_str cB hs hw n g)) (va_A (j_str cB hs hw n g) s.heap.size)) args s 0 0 (va_A (j_str cB hs hw n g) s.heap.size)) G 4 (va_A (j_str cB hs hw n g) s.heap.size) 0 0 (j_str cB hs hw n g) 4 [(3, .int (nI j)), (2, .int w), (0, .ref hs), (1, .int (nI at9))] [] := by
    intro d
    induction d with
    | zero =>
      intro j hj w
      refine j_iload_n X 0 dL_word_4 rfl rfl ?_
      refine j_iconst (v := nI 4) X (by decide) dL_word_5 ?_
      refine j_ncmp_ge X j 4 rfl rfl (by omega) (by decide) dL_word_6 (tgt := 43) (by decide) (fun _ => ?_) (fun q => absurd q (by omega))
      refine j_iload_n X 1 dL_word_43 rfl rfl ?_
      exact j_iret X () rfl dL_word_44 trivial
    | succ d ih =>
      intro j hj w
      refine j_iload_n X 0 dL_word_4 rfl rfl ?_
      refine j_iconst (v := nI 4) X (by decide) dL_word_5 ?_
      refine j_ncmp_ge X j 4 rfl rfl (by omega) (by decide) dL_word_6 (tgt := 43) (by decide) (fun q => absurd q (by omega)) (fun _ => ?_)
      refine j_iload_n X 1 dL_word_9 rfl rfl ?_
      refine j_bipush (v := 8) X (by decide) dL_word_10 ?_
      refine j_ishl X dL_word_12 ?_
      refine j_iload_n X 3 dL_word_13 rfl rfl ?_
      refine j_iload_n X 0 dL_word_14 rfl rfl ?_
      refine j_iadd X dL_word_15 ?_
      refine j_top (nI_add at9 j) ?_
      refine j_aload_n X 2 dL_word_16 rfl rfl ?_
      refine j_callVI X (fun _ h => Or.inr h) hZ (rest := [.int (nI (at9 + j)), .int (w <<< ((8 : Int32) &&& 31))]) (wc := j_str cB hs hw n g) (wr := []) [0, 1] [] rfl rfl rfl rfl (by decide) [] 0 (C := RJ0) (T := TJ0) (N := 4) rfl rfl (c_J0_length (cI := cI) (cZ := cZ) (cT := cT) hs hw n g (by omega)) 0 rfl gL_word_J0_length_8abf5 rfl ⟨rfl, rfl⟩ (by decide +kernel) (by exact ⟨Nat.le_of_ble_eq_true rfl, Nat.le_of_ble_eq_true rfl⟩) rfl (Nat.le_of_ble_eq_true rfl) (by exact ⟨Nat.le_of_ble_eq_true rfl, Nat.le_of_ble_eq_true rfl⟩) dL_word_17 (fun r u hr => ?_)
      subst hr
      refine j_weq (List.nil_append _) ?_
      refine j_ncmp_ge X (at9 + j) n rfl rfl (by omega) (by omega) dL_word_20 (tgt := 33) (by decide) (fun _ => ?_) (fun hl => ?_)
      · refine j_bipush (v := 32) X (by decide) dL_word_33 ?_
        exact B9 j w 32 (by omega) (ih (j + 1) (by omega))
      · refine j_aload_n X 2 dL_word_23 rfl rfl ?_
        refine j_iload_n X 3 dL_word_24 rfl rfl ?_
        refine j_iload_n X 0 dL_word_25 rfl rfl ?_
        refine j_iadd X dL_word_26 ?_
        refine j_top (nI_add at9 j) ?_
        refine j_callVI X (fun _ h => Or.inr h) hZ (rest := [.int (w <<< ((8 : Int32) &&& 31))]) (wc := j_str cB hs hw n g) (wr := []) [0, 1] [] rfl rfl rfl rfl (by decide) [.int (nI (at9 + j))] 0 (C := RJ0) (T := TJ0) (N := 4) rfl rfl (c_J0_charAt (cI := cI) (cZ := cZ) (cT := cT) hs hw n g (at9 + j) hl (by omega)) 1 rfl gL_word_J0_charAt_5068e rfl ⟨rfl, rfl⟩ (by decide +kernel) (by exact ⟨Nat.le_of_ble_eq_true rfl, Nat.le_of_ble_eq_true rfl⟩) rfl (Nat.le_of_ble_eq_true rfl) (by exact ⟨Nat.le_of_ble_eq_true rfl, Nat.le_of_ble_eq_true rfl⟩) dL_word_27 (fun r u hr => ?_)
        refine j_weq (List.nil_append _) ?_
        refine j_goto X (tgt := 35) dL_word_30 (by decide) ?_
        exact B9 j w r (by omega) (ih (j + 1) (by omega))
  refine j_iconst (v := 0) X (by decide) dL_word_0 ?_
  refine j_istore_n X dL_word_1 rfl (by decide) rfl ?_
  refine j_iconst (v := 0) X (by decide) dL_word_2 ?_
  refine j_istore_n X dL_word_3 rfl (by decide) rfl ?_
  exact L9 4 0 (by omega) 0
end ZL2
