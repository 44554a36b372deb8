section ZJ3
variable {l : Launch} {G : va_G} {K : Nat × Nat × (Nat → Int32)} {cI cZ cT cB : ClassId}
theorem jk_1 : Cond.fieldLink RJ5 15 "java/lang/AbstractStringBuilder" (TJ4 0).2.1 (TJ4 0).2.2.1 ∈ wsJ5_getValue_6d5f1 := by decide +kernel
theorem jk_2 : ∀ w ∈ u_ws RJ4 TJ4 4, w ∈ wsJ5_getValue_6d5f1 := by decide +kernel
theorem c_J5_getValue (hb hv : Nat) (mL : Int32) (n cap : Nat) (f : Nat → Int32) : jR l G K (j_ty cI cZ cT cB) yJ5_getValue_6d5f1 wsJ5_getValue_6d5f1 { frames := 0, cells := 0, slots := 0, locals := 0 } (j_sb cB hb hv mL n cap f) [.ref hb] 0 0 (fun (_ : Unit) a => a = hv) (fun _ _ => j_sb cB hb hv mL n cap f) := by
  refine j_ofR (cc := cJ5_getValue_6d5f1) (maxL := 1) (rty := .array .byte) (by decide) rfl (Nat.le_of_ble_eq_true rfl) ?_
  intro p e s m args below meth c X hnm hZ
  refine j_aload_n X 0 dJ5_getValue_6d5f1_0 rfl rfl ?_
  refine j_get X 0 (C := RJ4) (T := TJ4) (N := 4) rfl rfl 0 (by decide) jk_2 "java/lang/AbstractStringBuilder" jk_1 (fun x q => q) (v := .ref hv) rfl dJ5_getValue_6d5f1_1 ?_
  exact j_aret X (Or.inr ⟨_, rfl⟩) () rfl dJ5_getValue_6d5f1_4 rfl
theorem jk_3 : Cond.fieldLink RJ5 79 "java/lang/AbstractStringBuilder" (TJ4 3).2.1 (TJ4 3).2.2.1 ∈ wsJ5_length_8abf5 := by decide +kernel
theorem jk_4 : ∀ w ∈ u_ws RJ4 TJ4 4, w ∈ wsJ5_length_8abf5 := by decide +kernel
theorem c_J5_length (hb hv : Nat) (mL : Int32) (n cap : Nat) (f : Nat → Int32) : jI l G K (j_ty cI cZ cT cB) yJ5_length_8abf5 wsJ5_length_8abf5 { frames := 0, cells := 0, slots := 0, locals := 0 } (j_sb cB hb hv mL n cap f) [.ref hb] 0 0 (fun r (_ : Unit) => r = nI n) (fun _ => j_sb cB hb hv mL n cap f) := by
  refine j_ofI (cc := cJ5_length_8abf5) (maxL := 1) (by decide) rfl (Nat.le_of_ble_eq_true rfl) ?_
  intro p e s m args below meth c X hnm hZ
  refine j_aload_n X 0 dJ5_length_8abf5_0 rfl rfl ?_
  refine j_get X 0 (C := RJ4) (T := TJ4) (N := 4) rfl rfl 3 (by decide) jk_4 "java/lang/AbstractStringBuilder" jk_3 (fun x q => q) (v := .int (nI n)) rfl dJ5_length_8abf5_1 ?_
  exact j_iret X () rfl dJ5_length_8abf5_4 rfl
theorem c_J4_length (hb hv : Nat) (mL : Int32) (n cap : Nat) (f : Nat → Int32) : jI l G K (j_ty cI cZ cT cB) yJ4_length_8abf5 wsJ4_length_8abf5 { frames := 1, cells := 0, slots := 0, locals := 20 } (j_sb cB hb hv mL n cap f) [.ref hb] 0 0 (fun r (_ : Unit) => r = nI n) (fun _ => j_sb cB hb hv mL n cap f) := by
  refine j_ofI (cc := cJ4_length_8abf5) (maxL := 1) (by decide) rfl (Nat.le_of_ble_eq_true rfl) ?_
  intro p e s m args below meth c X hnm hZ
  refine j_aload_n X 0 dJ4_length_8abf5_0 rfl rfl ?_
  refine j_callSUI X (fun _ h => Or.inr h) hZ (rest := []) (wc := j_sb cB hb hv mL n cap f) (wr := []) [0, 1] [] rfl rfl rfl rfl (by decide) [] 0 (C := RJ4) (T := TJ4) (N := 4) rfl rfl (c_J5_length (cI := cI) (cZ := cZ) (cT := cT) hb hv mL n cap f) 0 rfl gJ4_length_8abf5_J5_length_8abf5_s343 rfl ⟨rfl, rfl⟩ (by decide +kernel) (by exact ⟨Nat.le_of_ble_eq_true rfl, Nat.le_of_ble_eq_true rfl⟩) rfl (Nat.le_of_ble_eq_true rfl) (by exact ⟨Nat.le_of_ble_eq_true rfl, Nat.le_of_ble_eq_true rfl⟩) dJ4_length_8abf5_1 (fun r u hr => ?_)
  subst hr
  refine j_weq (List.nil_append _) ?_
  exact j_iret X () rfl dJ4_length_8abf5_4 rfl
theorem jk_5 : Cond.methodLink RJ0 1 Lib.objectInit ∈ wsJ0_init_db425 := by decide +kernel
theorem jk_6 : Cond.instanceMethod Lib.objectInit ∈ wsJ0_init_db425 := by decide +kernel
theorem jk_7 : Cond.code Lib.objectInit ⟨#[0xb1]⟩ 1 none ∈ wsJ0_init_db425 := by decide +kernel
theorem jk_8 : Cond.code ⟨"java/lang/AbstractStringBuilder", "length", "()I"⟩ cJ5_length_8abf5 1 (some .int) ∈ wsJ0_init_db425 := by decide +kernel
theorem jk_9 : Cond.fieldLink RJ0 15 "java/lang/String" (TJ0 1).2.1 (TJ0 1).2.2.1 ∈ wsJ0_init_db425 := by decide +kernel
theorem jk_10 : ∀ w ∈ u_ws RJ0 TJ0 4, w ∈ wsJ0_init_db425 := by decide +kernel
theorem jk_11 : Cond.fieldLink RJ0 9 "java/lang/String" (TJ0 0).2.1 (TJ0 0).2.2.1 ∈ wsJ0_init_db425 := by decide +kernel
theorem c_J0_initB (hs : Nat) (hb hv : Nat) (mL : Int32) (n cap : Nat) (f : Nat → Int32) (h1 : n < cap) (h2 : cap ≤ 286) (hf : ∀ i, fits .byte (.int (f i)) = true) : jU l G K (j_ty cI cZ cT cB) yJ0_init_db425 wsJ0_init_db425 { frames := 3, cells := 1, slots := 290, locals := 106 } ((hs, .inr (0, [.null, .int 0, .int 0, .int 0])) :: j_sb cB hb hv mL n cap f) [.ref hs, .ref hb, .null] 1 290 (fun u : Nat × (Nat → Int32) => ∀ i, fits .byte (.int (u.2 i)) = true) (fun u => [(hs, .inr (0, [.ref u.1, .int 0, .int 0, .int 0])), (hb, .inr (1, [.ref hv, .int 0, .int mL, .int (nI n)])), (hv, .inl (cB, cap, .inl f)), (u.1, .inl (cB, n, .inl u.2))]) := by
  refine j_ofV (cc := cJ0_init_db425) (maxL := 5) (by decide) rfl (Nat.le_of_ble_eq_true rfl) ?_
  intro p e s m args below meth c X hnm hZ
  refine j_aload_n X 0 dJ0_init_db425_0 rfl rfl ?_
  refine j_obj X jk_5 jk_6 jk_7 (Nat.le_of_ble_eq_true rfl) (Nat.le_of_ble_eq_true rfl) dJ0_init_db425_1 ?_
  refine j_aload_n X 1 dJ0_init_db425_4 rfl rfl ?_
  refine j_callUR X (fun _ h => Or.inr h) hZ (rest := []) (wc := j_sb cB hb hv mL n cap f) (wr := [(hs, .inr (0, [.null, .int 0, .int 0, .int 0]))]) [1, 2] [0] rfl rfl rfl rfl (by decide) [] 1 (C := RJ4) (T := TJ4) (N := 4) rfl rfl (c_J5_getValue (cI := cI) (cZ := cZ) (cT := cT) hb hv mL n cap f) 0 rfl gJ0_init_db425_J5_getValue_6d5f1_u552J4 rfl rfl ⟨rfl, rfl⟩ (by decide +kernel) (by exact ⟨Nat.le_of_ble_eq_true rfl, Nat.le_of_ble_eq_true rfl⟩) rfl (Nat.le_of_ble_eq_true rfl) (by exact ⟨Nat.le_of_ble_eq_true rfl, Nat.le_of_ble_eq_true rfl⟩) dJ0_init_db425_5 (fun u ra hu => ?_)
  have hu9 := hu.symm
  subst hu9
  refine j_astore_n X dJ0_init_db425_8 rfl (by decide) rfl ?_
  refine j_aload_n X 2 dJ0_init_db425_9 rfl rfl ?_
  refine j_callOI X (fun _ h => Or.inr h) hZ (rest := []) (wc := j_sb cB hb hv mL n cap f) (wr := [(hs, .inr (0, [.null, .int 0, .int 0, .int 0]))]) [1, 2] [0] rfl rfl rfl rfl (by decide) [] 1 (C := RJ4) (T := TJ4) (N := 4) rfl rfl (c_J4_length (cI := cI) (cZ := cZ) (cT := cT) hb hv mL n cap f) 0 rfl gJ0_init_db425_J4_length_8abf5_u549J4 jk_8 rfl ⟨rfl, rfl⟩ (by decide +kernel) (by exact ⟨Nat.le_of_ble_eq_true rfl, Nat.le_of_ble_eq_true rfl⟩) rfl (Nat.le_of_ble_eq_true rfl) (by exact ⟨Nat.le_of_ble_eq_true rfl, Nat.le_of_ble_eq_true rfl⟩) dJ0_init_db425_10 (fun r u9 hr => ?_)
  subst hr
  refine j_istore X dJ0_init_db425_13 (by decide) rfl ?_
  refine j_aload_n X 3 dJ0_init_db425_15 rfl rfl ?_
  refine j_callUI X (fun _ h => Or.inr h) hZ (rest := []) (wc := j_sb cB hb hv mL n cap f) (wr := [(hs, .inr (0, [.null, .int 0, .int 0, .int 0]))]) [1, 2] [0] rfl rfl rfl rfl (by decide) [] 1 (C := RJ4) (T := TJ4) (N := 4) rfl rfl (c_J5_isLatin1 (cI := cI) (cZ := cZ) (cT := cT) hb hv mL n cap f) 0 rfl gJ0_init_db425_J5_isLatin1_aae02_u1047J4 rfl rfl ⟨rfl, rfl⟩ (by decide +kernel) (by exact ⟨Nat.le_of_ble_eq_true rfl, Nat.le_of_ble_eq_true rfl⟩) rfl (Nat.le_of_ble_eq_true rfl) (by exact ⟨Nat.le_of_ble_eq_true rfl, Nat.le_of_ble_eq_true rfl⟩) dJ0_init_db425_16 (fun r u8 hr => ?_)
  subst hr
  refine j_if_eq X (tgt := 41) dJ0_init_db425_19 (by decide) (fun q => absurd q (by decide)) (fun _ => ?_)
  refine j_aload_n X 2 dJ0_init_db425_22 rfl rfl ?_
  refine j_iconst (v := 0) X (by decide) dJ0_init_db425_23 ?_
  refine j_putF X hnm 0 (C := RJ0) (T := TJ0) (N := 4) rfl rfl 1 (by decide) jk_10 "java/lang/String" jk_9 (fun x q => q) tyJ0_ok nmJ0 rfl rfl (ty := .byte) (v := .int 0) (by decide +kernel) rfl rfl (Nat.le_of_ble_eq_true rfl) dJ0_init_db425_24 ?_
  refine j_aload_n X 2 dJ0_init_db425_27 rfl rfl ?_
  refine j_aload_n X 1 dJ0_init_db425_28 rfl rfl ?_
  refine j_iconst (v := 0) X (by decide) dJ0_init_db425_29 ?_
  refine j_iload X 0 dJ0_init_db425_30 rfl ?_
  refine j_callSR X (fun _ h => Or.inr h) hZ (rest := [.ref hs]) (wc := [(hv, .inl (cB, cap, .inl f))]) (wr := [(hs, .inr (0, [.null, .int 0, .int 0, .int 0])), (hb, .inr (1, [.ref hv, .int 0, .int mL, .int (nI n)]))]) [2] [0, 1] rfl rfl rfl rfl (by decide) [.ref hv, .int 0, .int (nI n)] (c_J7_copyOfRange (cI := cI) (cZ := cZ) (cT := cT) hv cap n f h1 h2 hf) 3 rfl gJ0_init_db425_J7_copyOfRange_39247 rfl ⟨rfl, rfl⟩ (by decide +kernel) (by exact ⟨Nat.le_of_ble_eq_true rfl, Nat.le_of_ble_eq_true rfl⟩) rfl (Nat.le_of_ble_eq_true rfl) (by exact ⟨Nat.le_of_ble_eq_true rfl, Nat.le_of_ble_eq_true rfl⟩) dJ0_init_db425_32 (fun g ra hg => ?_)
  refine j_putF X hnm 0 (C := RJ0) (T := TJ0) (N := 4) rfl rfl 0 (by decide) jk_10 "java/lang/String" jk_11 (fun x q => q) tyJ0_ok nmJ0 rfl rfl (ty := .array .byte) (v := .ref ra) (by decide +kernel) rfl rfl (Nat.le_of_ble_eq_true rfl) dJ0_init_db425_35 ?_
  refine j_goto X (tgt := 97) dJ0_init_db425_38 (by decide) ?_
  exact j_vret X (ra, g) rfl dJ0_init_db425_97 hg
theorem jk_12 : Cond.methodLink RJ0 489 yJ0_init_db425 ∈ wsJ0_init_81219 := by decide +kernel
theorem jk_13 : Cond.initialized yJ0_init_db425.cls ∈ wsJ0_init_81219 := by decide +kernel
theorem jk_14 : Cond.instanceMethod yJ0_init_db425 ∈ wsJ0_init_81219 := by decide +kernel
theorem c_J0_initS (hs : Nat) (hb hv : Nat) (mL : Int32) (n cap : Nat) (f : Nat → Int32) (h1 : n < cap) (h2 : cap ≤ 286) (hf : ∀ i, fits .byte (.int (f i)) = true) : jU l G K (j_ty cI cZ cT cB) yJ0_init_81219 wsJ0_init_81219 { frames := 4, cells := 1, slots := 290, locals := 130 } ((hs, .inr (0, [.null, .int 0, .int 0, .int 0])) :: j_sb cB hb hv mL n cap f) [.ref hs, .ref hb] 1 290 (fun u : Nat × (Nat → Int32) => ∀ i, fits .byte (.int (u.2 i)) = true) (fun u => [(hs, .inr (0, [.ref u.1, .int 0, .int 0, .int 0])), (hb, .inr (1, [.ref hv, .int 0, .int mL, .int (nI n)])), (hv, .inl (cB, cap, .inl f)), (u.1, .inl (cB, n, .inl u.2))]) := by
  refine j_ofV (cc := cJ0_init_81219) (maxL := 2) (by decide) rfl (Nat.le_of_ble_eq_true rfl) ?_
  intro p e s m args below meth c X hnm hZ
  refine j_aload_n X 0 dJ0_init_81219_0 rfl rfl ?_
  refine j_aload_n X 1 dJ0_init_81219_1 rfl rfl ?_
  refine j_null X dJ0_init_81219_2 ?_
  refine j_callIU X (fun _ h => Or.inr h) hZ (rest := []) (b := hs) (wc := ((hs, .inr (0, [.null, .int 0, .int 0, .int 0])) :: j_sb cB hb hv mL n cap f)) (wr := []) [0, 1, 2] [] rfl rfl rfl rfl (by decide) [.ref hb, .null] (c_J0_initB (cI := cI) (cZ := cZ) (cT := cT) hs hb hv mL n cap f h1 h2 hf) 2 rfl jk_12 gJ0_init_81219_J0_init_db425 jk_13 jk_14 rfl rfl ⟨rfl, rfl⟩ (by decide +kernel) (by exact ⟨Nat.le_of_ble_eq_true rfl, Nat.le_of_ble_eq_true rfl⟩) rfl (Nat.le_of_ble_eq_true rfl) (by exact ⟨Nat.le_of_ble_eq_true rfl, Nat.le_of_ble_eq_true rfl⟩) dJ0_init_81219_3 (fun u hu => ?_)
  refine j_weq (List.nil_append _) ?_
  exact j_vret X u rfl dJ0_init_81219_6 hu
theorem jk_15 : Cond.classLink RJ4 18 RJ0 ∈ wsJ4_toString_0e30d := by decide +kernel
theorem jk_16 : Cond.instantiable RJ0 4 ∈ wsJ4_toString_0e30d := by decide +kernel
theorem jk_17 : Cond.initialized RJ0 ∈ wsJ4_toString_0e30d := by decide +kernel
theorem jk_18 : ∀ w ∈ u_ws RJ0 TJ0 4, w ∈ wsJ4_toString_0e30d := by decide +kernel
theorem jk_19 : Cond.methodLink RJ4 137 yJ0_init_81219 ∈ wsJ4_toString_0e30d := by decide +kernel
theorem jk_20 : Cond.initialized yJ0_init_81219.cls ∈ wsJ4_toString_0e30d := by decide +kernel
theorem jk_21 : Cond.instanceMethod yJ0_init_81219 ∈ wsJ4_toString_0e30d := by decide +kernel
theorem c_J4_toString (hb hv : Nat) (mL : Int32) (n cap : Nat) (f : Nat → Int32) (h1 : n < cap) (h2 : cap ≤ 286) (hf : ∀ i, fits .byte (.int (f i)) = true) : jR l G K (j_ty cI cZ cT cB) yJ4_toString_0e30d wsJ4_toString_0e30d { frames := 5, cells := 2, slots := 294, locals := 151 } (j_sb cB hb hv mL n cap f) [.ref hb] 2 294 (fun (u : Nat × (Nat → Int32)) _ => ∀ i, fits .byte (.int (u.2 i)) = true) (fun u hs => [(hs, .inr (0, [.ref u.1, .int 0, .int 0, .int 0])), (hb, .inr (1, [.ref hv, .int 0, .int mL, .int (nI n)])), (hv, .inl (cB, cap, .inl f)), (u.1, .inl (cB, n, .inl u.2))]) := by
  refine j_ofR (cc := cJ4_toString_0e30d) (maxL := 1) (rty := .object "java/lang/String") (by decide) rfl (Nat.le_of_ble_eq_true rfl) ?_
  intro p e s m args below meth c X hnm hZ
  refine j_new X (fun _ h => Or.inr h) (ci := 0) (C := RJ0) (T := TJ0) (N := 4) (fs := [.null, .int 0, .int 0, .int 0]) jk_18 tyJ0_ok jk_15 jk_16 jk_17 rfl (fun j hj => by rcases (show j = 0 ∨ j = 1 ∨ j = 2 ∨ j = 3 by omega) with rfl | rfl | rfl | rfl <;> rfl) (Nat.le_of_ble_eq_true rfl) (Nat.le_of_ble_eq_true rfl) dJ4_toString_0e30d_0 (fun hs => ?_)
  refine j_dup X rfl dJ4_toString_0e30d_3 ?_
  refine j_aload_n X 0 dJ4_toString_0e30d_4 rfl rfl ?_
  refine j_callIU X (fun _ h => Or.inr h) hZ (rest := [.ref hs]) (b := hs) (wc := ((hs, .inr (0, [.null, .int 0, .int 0, .int 0])) :: j_sb cB hb hv mL n cap f)) (wr := []) [2, 0, 1] [] rfl rfl rfl rfl (by decide) [.ref hb] (c_J0_initS (cI := cI) (cZ := cZ) (cT := cT) hs hb hv mL n cap f h1 h2 hf) 1 rfl jk_19 gJ4_toString_0e30d_J0_init_81219 jk_20 jk_21 rfl rfl ⟨rfl, rfl⟩ (by decide +kernel) (by exact ⟨Nat.le_of_ble_eq_true rfl, Nat.le_of_ble_eq_true rfl⟩) rfl (Nat.le_of_ble_eq_true rfl) (by exact ⟨Nat.le_of_ble_eq_true rfl, Nat.le_of_ble_eq_true rfl⟩) dJ4_toString_0e30d_5 (fun u hu => ?_)
  refine j_weq (List.nil_append _) ?_
  exact j_aret X (Or.inl ⟨_, rfl⟩) u rfl dJ4_toString_0e30d_8 hu
theorem jk_22 : Cond.fieldLink RJ0 38 "java/lang/String" "COMPACT_STRINGS" "Z" ∈ wsJ0_coder_7d493 := by decide +kernel
theorem jk_23 : Cond.fieldLink RJ0 15 "java/lang/String" (TJ0 1).2.1 (TJ0 1).2.2.1 ∈ wsJ0_coder_7d493 := by decide +kernel
theorem jk_24 : ∀ w ∈ u_ws RJ0 TJ0 4, w ∈ wsJ0_coder_7d493 := by decide +kernel
theorem c_J0_coder (hs hw n : Nat) (g : Nat → Int32) : jI l G K (j_ty cI cZ cT cB) yJ0_coder_7d493 wsJ0_coder_7d493 { frames := 0, cells := 0, slots := 0, locals := 0 } (j_str cB hs hw n g) [.ref hs] 0 0 (fun r (_ : Unit) => r = 0) (fun _ => j_str cB hs hw n g) := by
  refine j_ofBb (cc := cJ0_coder_7d493) (maxL := 1) (by decide) rfl (Nat.le_of_ble_eq_true rfl) ?_
  intro p e s m args below meth c X hnm hZ
  refine j_gets X hZ.2.1 jk_22 (fun x q => q) dJ0_coder_7d493_0 ?_
  refine j_if_eq X (tgt := 13) dJ0_coder_7d493_3 (by decide) (fun q => absurd q (by decide)) (fun _ => ?_)
  refine j_aload_n X 0 dJ0_coder_7d493_6 rfl rfl ?_
  refine j_get X 0 (C := RJ0) (T := TJ0) (N := 4) rfl rfl 1 (by decide) jk_24 "java/lang/String" jk_23 (fun x q => q) (v := .int 0) rfl dJ0_coder_7d493_7 ?_
  refine j_goto X (tgt := 14) dJ0_coder_7d493_10 (by decide) ?_
  exact j_zret X () rfl rfl dJ0_coder_7d493_14 rfl
theorem jk_25 : Cond.fieldLink RJ0 38 "java/lang/String" "COMPACT_STRINGS" "Z" ∈ wsJ0_isLatin1_aae02 := by decide +kernel
theorem jk_26 : Cond.fieldLink RJ0 15 "java/lang/String" (TJ0 1).2.1 (TJ0 1).2.2.1 ∈ wsJ0_isLatin1_aae02 := by decide +kernel
theorem jk_27 : ∀ w ∈ u_ws RJ0 TJ0 4, w ∈ wsJ0_isLatin1_aae02 := by decide +kernel
theorem c_J0_isLatin1 (hs hw n : Nat) (g : Nat → Int32) : jI l G K (j_ty cI cZ cT cB) yJ0_isLatin1_aae02 wsJ0_isLatin1_aae02 { frames := 0, cells := 0, slots := 0, locals := 0 } (j_str cB hs hw n g) [.ref hs] 0 0 (fun r (_ : Unit) => r = 1) (fun _ => j_str cB hs hw n g) := by
  refine j_ofZb (cc := cJ0_isLatin1_aae02) (maxL := 1) (by decide) rfl (Nat.le_of_ble_eq_true rfl) ?_
  intro p e s m args below meth c X hnm hZ
  refine j_gets X hZ.2.1 jk_25 (fun x q => q) dJ0_isLatin1_aae02_0 ?_
  refine j_if_eq X (tgt := 17) dJ0_isLatin1_aae02_3 (by decide) (fun q => absurd q (by decide)) (fun _ => ?_)
  refine j_aload_n X 0 dJ0_isLatin1_aae02_6 rfl rfl ?_
  refine j_get X 0 (C := RJ0) (T := TJ0) (N := 4) rfl rfl 1 (by decide) jk_27 "java/lang/String" jk_26 (fun x q => q) (v := .int 0) rfl dJ0_isLatin1_aae02_7 ?_
  refine j_if_ne X (tgt := 17) dJ0_isLatin1_aae02_10 (by decide) (fun q => absurd rfl q) (fun _ => ?_)
  refine j_iconst (v := 1) X (by decide) dJ0_isLatin1_aae02_13 ?_
  refine j_goto X (tgt := 18) dJ0_isLatin1_aae02_14 (by decide) ?_
  exact j_zret X () rfl rfl dJ0_isLatin1_aae02_18 rfl
theorem jk_28 : Cond.fieldLink RJ0 9 "java/lang/String" (TJ0 0).2.1 (TJ0 0).2.2.1 ∈ wsJ0_length_8abf5 := by decide +kernel
theorem jk_29 : ∀ w ∈ u_ws RJ0 TJ0 4, w ∈ wsJ0_length_8abf5 := by decide +kernel
theorem c_J0_length (hs hw n : Nat) (g : Nat → Int32) (hn : n < 2 ^ 31) : jI l G K (j_ty cI cZ cT cB) yJ0_length_8abf5 wsJ0_length_8abf5 { frames := 1, cells := 0, slots := 0, locals := 20 } (j_str cB hs hw n g) [.ref hs] 0 0 (fun r (_ : Unit) => r = nI n) (fun _ => j_str cB hs hw n g) := by
  refine j_ofI (cc := cJ0_length_8abf5) (maxL := 1) (by decide) rfl (Nat.le_of_ble_eq_true rfl) ?_
  intro p e s m args below meth c X hnm hZ
  refine j_aload_n X 0 dJ0_length_8abf5_0 rfl rfl ?_
  refine j_get X 0 (C := RJ0) (T := TJ0) (N := 4) rfl rfl 0 (by decide) jk_29 "java/lang/String" jk_28 (fun x q => q) (v := .ref hw) rfl dJ0_length_8abf5_1 ?_
  refine j_alen X 1 3 rfl rfl (v := nI n) rfl dJ0_length_8abf5_4 ?_
  refine j_aload_n X 0 dJ0_length_8abf5_5 rfl rfl ?_
  refine j_callVI X (fun _ h => Or.inr h) hZ (rest := [.int (nI n)]) (wc := j_str cB hs hw n g) (wr := []) [0, 1] [] rfl rfl rfl rfl (by decide) [] 0 (C := RJ0) (T := TJ0) (N := 4) rfl rfl (c_J0_coder (cI := cI) (cZ := cZ) (cT := cT) hs hw n g) 0 rfl gJ0_length_8abf5_J0_coder_7d493 rfl ⟨rfl, rfl⟩ (by decide +kernel) (by exact ⟨Nat.le_of_ble_eq_true rfl, Nat.le_of_ble_eq_true rfl⟩) rfl (Nat.le_of_ble_eq_true rfl) (by exact ⟨Nat.le_of_ble_eq_true rfl, Nat.le_of_ble_eq_true rfl⟩) dJ0_length_8abf5_6 (fun r u hr => ?_)
  subst hr
  refine j_weq (List.nil_append _) ?_
  refine j_ishr X dJ0_length_8abf5_9 ?_
  refine j_top (j_sr0 n hn) ?_
  exact j_iret X () rfl dJ0_length_8abf5_10 rfl
theorem c_J3_checkIndex {tys : List (ClassId × FieldType)} (i n : Nat) (hi : i < n) (hn : n < 2 ^ 31) (v : Value) (hv : v = .null ∨ ∃ t, v = .ref t) : jI l G K tys yJ3_checkIndex_8e157 wsJ3_checkIndex_8e157 { frames := 0, cells := 0, slots := 0, locals := 0 } [] [.int (nI i), .int (nI n), v] 0 0 (fun r (_ : Unit) => r = nI i) (fun _ => []) := by
  have e9 : (lg_sl [.int (nI i), .int (nI n), v]).length ≤ 3 := by rcases hv with rfl | ⟨t, rfl⟩ <;> exact Nat.le_of_ble_eq_true rfl
  refine j_ofI (cc := cJ3_checkIndex_8e157) (maxL := 3) (by decide) rfl e9 ?_
  intro p e s m args below meth c X hnm hZ
  refine j_iload_n X 0 dJ3_checkIndex_8e157_0 rfl rfl ?_
  refine j_if_lt X (tgt := 9) dJ3_checkIndex_8e157_1 (by decide) (fun q => absurd q (nI_pos (by omega))) (fun _ => ?_)
  refine j_iload_n X 0 dJ3_checkIndex_8e157_4 rfl rfl ?_
  refine j_iload_n X 1 dJ3_checkIndex_8e157_5 rfl rfl ?_
  refine j_ncmp_lt X i n rfl rfl (by omega) hn dJ3_checkIndex_8e157_6 (tgt := 16) (by decide) (fun _ => ?_) (fun q => absurd q (by omega))
  refine j_iload_n X 0 dJ3_checkIndex_8e157_16 rfl rfl ?_
  exact j_iret X () rfl dJ3_checkIndex_8e157_17 rfl
theorem jk_30 : Cond.fieldLink RJ0 1053 "jdk/internal/util/Preconditions" "SIOOBE_FORMATTER" "Ljava/util/function/BiFunction;" ∈ wsJ0_checkIndex_df160 := by decide +kernel
theorem c_J0_checkIndex {tys : List (ClassId × FieldType)} (i n : Nat) (hi : i < n) (hn : n < 2 ^ 31) : jU l G K tys yJ0_checkIndex_df160 wsJ0_checkIndex_df160 { frames := 1, cells := 0, slots := 0, locals := 22 } [] [.int (nI i), .int (nI n)] 0 0 (fun _ : Unit => True) (fun _ => []) := by
  refine j_ofV (cc := cJ0_checkIndex_df160) (maxL := 2) (by decide) rfl (Nat.le_of_ble_eq_true rfl) ?_
  intro p e s m args below meth c X hnm hZ
  refine j_iload_n X 0 dJ0_checkIndex_df160_0 rfl rfl ?_
  refine j_iload_n X 1 dJ0_checkIndex_df160_1 rfl rfl ?_
  obtain ⟨v9, hv9, hz9⟩ : ∃ v : Value, (v = .null ∨ ∃ t, v = .ref t) ∧ va_Z "jdk/internal/util/Preconditions" "SIOOBE_FORMATTER" "Ljava/util/function/BiFunction;" v (va_A [] s.heap.size) s s.heap := by
    rcases hZ.2.2.1 with q | ⟨t, q⟩
    · exact ⟨_, Or.inl rfl, q⟩
    · exact ⟨_, Or.inr ⟨t, rfl⟩, q⟩
  refine j_gets X hz9 jk_30 (fun x q => q) dJ0_checkIndex_df160_2 ?_
  refine j_callSI X (fun _ h => Or.inr h) hZ (rest := []) (wc := []) (wr := []) [] [] rfl rfl rfl rfl (by decide) [.int (nI i), .int (nI n), v9] (c_J3_checkIndex i n hi hn v9 hv9) 3 rfl gJ0_checkIndex_df160_J3_checkIndex_8e157 rfl ⟨rfl, rfl⟩ (by decide +kernel) (by exact ⟨Nat.le_of_ble_eq_true rfl, Nat.le_of_ble_eq_true rfl⟩) rfl (Nat.le_of_ble_eq_true rfl) (by exact ⟨Nat.le_of_ble_eq_true rfl, Nat.le_of_ble_eq_true rfl⟩) dJ0_checkIndex_df160_5 (fun r u hr => ?_)
  refine j_pop X rfl dJ0_checkIndex_df160_8 ?_
  exact j_vret X () rfl dJ0_checkIndex_df160_9 trivial
theorem c_J1_charAt (hw n : Nat) (g : Nat → Int32) (i : Nat) (hi : i < n) (hn : n < 2 ^ 31) : jI l G K (j_ty cI cZ cT cB) yJ1_charAt_3b067 wsJ1_charAt_3b067 { frames := 2, cells := 0, slots := 0, locals := 43 } [(hw, .inl (cB, n, .inl g))] [.ref hw, .int (nI i)] 0 0 (fun r (_ : Unit) => narrow .char (.int r) = .int r) (fun _ => [(hw, .inl (cB, n, .inl g))]) := by
  refine j_ofCc (cc := cJ1_charAt_3b067) (maxL := 2) (by decide) rfl (Nat.le_of_ble_eq_true rfl) ?_
  intro p e s m args below meth c X hnm hZ
  refine j_iload_n X 1 dJ1_charAt_3b067_0 rfl rfl ?_
  refine j_aload_n X 0 dJ1_charAt_3b067_1 rfl rfl ?_
  refine j_alen X 0 3 rfl rfl (v := nI n) rfl dJ1_charAt_3b067_2 ?_
  refine j_callSU X (fun _ h => Or.inr h) hZ (rest := []) (wc := []) (wr := [(hw, .inl (cB, n, .inl g))]) [] [0] rfl rfl rfl rfl (by decide) [.int (nI i), .int (nI n)] (c_J0_checkIndex i n hi hn) 2 rfl gJ1_charAt_3b067_J0_checkIndex_df160 rfl ⟨rfl, rfl⟩ (by decide +kernel) (by exact ⟨Nat.le_of_ble_eq_true rfl, Nat.le_of_ble_eq_true rfl⟩) rfl (Nat.le_of_ble_eq_true rfl) (by exact ⟨Nat.le_of_ble_eq_true rfl, Nat.le_of_ble_eq_true rfl⟩) dJ1_charAt_3b067_3 (fun u _ => ?_)
  refine j_weq (List.append_nil _) ?_
  refine j_aload_n X 0 dJ1_charAt_3b067_6 rfl rfl ?_
  refine j_iload_n X 1 dJ1_charAt_3b067_7 rfl rfl ?_
  refine j_bald X 0 3 (n := n) (f := g) (cA := cB) rfl rfl i rfl hi hn dJ1_charAt_3b067_8 ?_
  refine j_sipush (v := 255) X (by decide) dJ1_charAt_3b067_9 ?_
  refine j_iand X dJ1_charAt_3b067_12 ?_
  refine j_i2c X rfl dJ1_charAt_3b067_13 ?_
  exact j_zret X () rfl (pk_nc _) dJ1_charAt_3b067_14 (pk_nc _)
theorem jk_31 : Cond.fieldLink RJ0 9 "java/lang/String" (TJ0 0).2.1 (TJ0 0).2.2.1 ∈ wsJ0_charAt_5068e := by decide +kernel
theorem jk_32 : ∀ w ∈ u_ws RJ0 TJ0 4, w ∈ wsJ0_charAt_5068e := by decide +kernel
theorem c_J0_charAt (hs hw n : Nat) (g : Nat → Int32) (i : Nat) (hi : i < n) (hn : n < 2 ^ 31) : jI l G K (j_ty cI cZ cT cB) yJ0_charAt_5068e wsJ0_charAt_5068e { frames := 3, cells := 0, slots := 0, locals := 64 } (j_str cB hs hw n g) [.ref hs, .int (nI i)] 0 0 (fun r (_ : Unit) => narrow .char (.int r) = .int r) (fun _ => j_str cB hs hw n g) := by
  refine j_ofCc (cc := cJ0_charAt_5068e) (maxL := 2) (by decide) rfl (Nat.le_of_ble_eq_true rfl) ?_
  intro p e s m args below meth c X hnm hZ
  refine j_aload_n X 0 dJ0_charAt_5068e_0 rfl rfl ?_
  refine j_callVI X (fun _ h => Or.inr h) hZ (rest := []) (wc := j_str cB hs hw n g) (wr := []) [0, 1] [] rfl rfl rfl rfl (by decide) [] 0 (C := RJ0) (T := TJ0) (N := 4) rfl rfl (c_J0_isLatin1 (cI := cI) (cZ := cZ) (cT := cT) hs hw n g) 0 rfl gJ0_charAt_5068e_J0_isLatin1_aae02 rfl ⟨rfl, rfl⟩ (by decide +kernel) (by exact ⟨Nat.le_of_ble_eq_true rfl, Nat.le_of_ble_eq_true rfl⟩) rfl (Nat.le_of_ble_eq_true rfl) (by exact ⟨Nat.le_of_ble_eq_true rfl, Nat.le_of_ble_eq_true rfl⟩) dJ0_charAt_5068e_1 (fun r u hr => ?_)
  subst hr
  refine j_weq (List.nil_append _) ?_
  refine j_if_eq X (tgt := 16) dJ0_charAt_5068e_4 (by decide) (fun q => absurd q (by decide)) (fun _ => ?_)
  refine j_aload_n X 0 dJ0_charAt_5068e_7 rfl rfl ?_
  refine j_get X 0 (C := RJ0) (T := TJ0) (N := 4) rfl rfl 0 (by decide) jk_32 "java/lang/String" jk_31 (fun x q => q) (v := .ref hw) rfl dJ0_charAt_5068e_8 ?_
  refine j_iload_n X 1 dJ0_charAt_5068e_11 rfl rfl ?_
  refine j_callSI X (fun _ h => Or.inr h) hZ (rest := []) (wc := [(hw, .inl (cB, n, .inl g))]) (wr := [(hs, .inr (0, [.ref hw, .int 0, .int 0, .int 0]))]) [1] [0] rfl rfl rfl rfl (by decide) [.ref hw, .int (nI i)] (c_J1_charAt (cI := cI) (cZ := cZ) (cT := cT) hw n g i hi hn) 2 rfl gJ0_charAt_5068e_J1_charAt_3b067 rfl ⟨rfl, rfl⟩ (by decide +kernel) (by exact ⟨Nat.le_of_ble_eq_true rfl, Nat.le_of_ble_eq_true rfl⟩) rfl (Nat.le_of_ble_eq_true rfl) (by exact ⟨Nat.le_of_ble_eq_true rfl, Nat.le_of_ble_eq_true rfl⟩) dJ0_charAt_5068e_12 (fun r u hr => ?_)
  exact j_zret X () rfl hr dJ0_charAt_5068e_15 hr
end ZJ3
