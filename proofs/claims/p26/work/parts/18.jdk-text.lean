section ZJ2
variable {l : Launch} {G : va_G} {K : Nat × Nat × (Nat → Int32)} {cI cZ cT cB : ClassId}
/-- a text: its object, its row of n bytes -/
def j_str (cB : ClassId) (hs hw n : Nat) (g : Nat → Int32) : va_W := [(hs, .inr (0, [.ref hw, .int 0, .int 0, .int 0])), (hw, .inl (cB, n, .inl g))]
theorem jn_1 : Cond.methodLink RJ5 3 Lib.objectInit ∈ wsJ5_init_d00df := by decide +kernel
theorem jn_2 : Cond.instanceMethod Lib.objectInit ∈ wsJ5_init_d00df := by decide +kernel
theorem jn_3 : Cond.code Lib.objectInit ⟨#[0xb1]⟩ 1 none ∈ wsJ5_init_d00df := by decide +kernel
theorem jn_4 : Cond.arrayClass .byte ∈ wsJ5_init_d00df := by decide +kernel
theorem jn_5 : Cond.fieldLink RJ5 18 "java/lang/String" "COMPACT_STRINGS" "Z" ∈ wsJ5_init_d00df := by decide +kernel
theorem jn_6 : Cond.fieldLink RJ5 15 "java/lang/AbstractStringBuilder" (TJ4 0).2.1 (TJ4 0).2.2.1 ∈ wsJ5_init_d00df := by decide +kernel
theorem jn_7 : ∀ w ∈ u_ws RJ4 TJ4 4, w ∈ wsJ5_init_d00df := by decide +kernel
theorem jn_8 : Cond.fieldLink RJ5 22 "java/lang/AbstractStringBuilder" (TJ4 1).2.1 (TJ4 1).2.2.1 ∈ wsJ5_init_d00df := by decide +kernel
theorem c_J5_init (hb : Nat) : jU l G K (j_ty cI cZ cT cB) yJ5_init_d00df wsJ5_init_d00df { frames := 1, cells := 1, slots := 16, locals := 20 } [(hb, .inr (1, [.null, .int 0, .int 0, .int 0]))] [.ref hb, .int 16] 1 16 (fun _ : Nat => True) (fun hv => j_sb cB hb hv 0 0 16 (fun _ => 0)) := by
  refine j_ofV (cc := cJ5_init_d00df) (maxL := 2) (by decide) rfl (Nat.le_of_ble_eq_true rfl) ?_
  intro p e s m args below meth c X hnm hZ
  refine j_aload_n X 0 dJ5_init_d00df_0 rfl rfl ?_
  refine j_obj X jn_1 jn_2 jn_3 (Nat.le_of_ble_eq_true rfl) (Nat.le_of_ble_eq_true rfl) dJ5_init_d00df_1 ?_
  refine j_gets X hZ.2.1 jn_5 (fun x q => q) dJ5_init_d00df_4 ?_
  refine j_if_eq X (tgt := 25) dJ5_init_d00df_7 (by decide) (fun q => absurd q (by decide)) (fun _ => ?_)
  refine j_aload_n X 0 dJ5_init_d00df_10 rfl rfl ?_
  refine j_iload_n X 1 dJ5_init_d00df_11 rfl rfl ?_
  refine j_newB X (fun _ h => Or.inr h) 3 rfl jn_4 16 (by decide) (by decide) (by decide) (Nat.le_of_ble_eq_true rfl) (Nat.le_of_ble_eq_true rfl) dJ5_init_d00df_12 (fun x => ?_)
  refine j_put X 0 (C := RJ4) (T := TJ4) (N := 4) rfl rfl 0 (by decide) jn_7 "java/lang/AbstractStringBuilder" jn_6 (fun x q => q) tyJ4_ok nmJ4 rfl (ty := .array .byte) (v := .ref x) (by decide +kernel) rfl rfl (Nat.le_of_ble_eq_true rfl) dJ5_init_d00df_14 ?_
  refine j_aload_n X 0 dJ5_init_d00df_17 rfl rfl ?_
  refine j_iconst (v := 0) X (by decide) dJ5_init_d00df_18 ?_
  refine j_put X 0 (C := RJ4) (T := TJ4) (N := 4) rfl rfl 1 (by decide) jn_7 "java/lang/AbstractStringBuilder" jn_8 (fun x q => q) tyJ4_ok nmJ4 rfl (ty := .byte) (v := .int 0) (by decide +kernel) rfl rfl (Nat.le_of_ble_eq_true rfl) dJ5_init_d00df_19 ?_
  refine j_goto X (tgt := 38) dJ5_init_d00df_22 (by decide) ?_
  exact j_vret X x rfl dJ5_init_d00df_38 trivial
theorem jn_9 : Cond.methodLink RJ4 1 yJ5_init_d00df ∈ wsJ4_init_da8c8 := by decide +kernel
theorem jn_10 : Cond.initialized yJ5_init_d00df.cls ∈ wsJ4_init_da8c8 := by decide +kernel
theorem jn_11 : Cond.instanceMethod yJ5_init_d00df ∈ wsJ4_init_da8c8 := by decide +kernel
theorem c_J4_init (hb : Nat) : jU l G K (j_ty cI cZ cT cB) yJ4_init_da8c8 wsJ4_init_da8c8 { frames := 2, cells := 1, slots := 16, locals := 41 } [(hb, .inr (1, [.null, .int 0, .int 0, .int 0]))] [.ref hb] 1 16 (fun _ : Nat => True) (fun hv => j_sb cB hb hv 0 0 16 (fun _ => 0)) := by
  refine j_ofV (cc := cJ4_init_da8c8) (maxL := 1) (by decide) rfl (Nat.le_of_ble_eq_true rfl) ?_
  intro p e s m args below meth c X hnm hZ
  refine j_aload_n X 0 dJ4_init_da8c8_0 rfl rfl ?_
  refine j_bipush (v := 16) X (by decide) dJ4_init_da8c8_1 ?_
  refine j_callIU X (fun _ h => Or.inr h) hZ (rest := []) (b := hb) (wc := [(hb, .inr (1, [.null, .int 0, .int 0, .int 0]))]) (wr := []) [0] [] rfl rfl rfl rfl (by decide) [.int 16] (c_J5_init (cI := cI) (cZ := cZ) (cT := cT) (cB := cB) hb) 1 rfl jn_9 gJ4_init_da8c8_J5_init_d00df jn_10 jn_11 rfl rfl ⟨rfl, rfl⟩ (by decide +kernel) (by exact ⟨Nat.le_of_ble_eq_true rfl, Nat.le_of_ble_eq_true rfl⟩) rfl (Nat.le_of_ble_eq_true rfl) (by exact ⟨Nat.le_of_ble_eq_true rfl, Nat.le_of_ble_eq_true rfl⟩) dJ4_init_da8c8_3 (fun hv _ => ?_)
  refine j_weq (List.nil_append _) ?_
  exact j_vret X hv rfl dJ4_init_da8c8_6 trivial
theorem c_J7_checkLength {tys : List (ClassId × FieldType)} (n : Nat) (hn : n < 2 ^ 31) : jU l G K tys yJ7_checkLength_df160 wsJ7_checkLength_df160 { frames := 0, cells := 0, slots := 0, locals := 0 } [] [.int 0, .int (nI n)] 0 0 (fun _ : Unit => True) (fun _ => []) := by
  refine j_ofV (cc := cJ7_checkLength_df160) (maxL := 2) (by decide) rfl (Nat.le_of_ble_eq_true rfl) ?_
  intro p e s m args below meth c X hnm hZ
  refine j_iload_n X 1 dJ7_checkLength_df160_0 rfl rfl ?_
  refine j_iload_n X 0 dJ7_checkLength_df160_1 rfl rfl ?_
  refine j_ncmp_ge X n 0 rfl rfl hn (by decide) dJ7_checkLength_df160_2 (tgt := 37) (by decide) (fun _ => ?_) (fun q => absurd q (by omega))
  exact j_vret X () rfl dJ7_checkLength_df160_37 trivial
theorem jn_12 : Cond.arrayClass .byte ∈ wsJ7_copyOfRangeByte_39247 := by decide +kernel
theorem jn_13 : Cond.methodLink RJ7 304 Lib.Math.min.name ∈ wsJ7_copyOfRangeByte_39247 := by decide +kernel
theorem jn_14 : Cond.static Lib.Math.min.name ∈ wsJ7_copyOfRangeByte_39247 := by decide +kernel
theorem jn_15 : Cond.initialized "java/lang/Math" ∈ wsJ7_copyOfRangeByte_39247 := by decide +kernel
theorem jn_16 : Cond.code Lib.Math.min.name Lib.Math.min.code 2 (some .int) ∈ wsJ7_copyOfRangeByte_39247 := by decide +kernel
theorem jn_17 : Cond.methodLink RJ7 150 arraycopyName ∈ wsJ7_copyOfRangeByte_39247 := by decide +kernel
theorem jn_18 : Cond.native arraycopyName ∈ wsJ7_copyOfRangeByte_39247 := by decide +kernel
theorem jn_19 : Cond.static arraycopyName ∈ wsJ7_copyOfRangeByte_39247 := by decide +kernel
theorem jn_20 : Cond.initialized "java/lang/System" ∈ wsJ7_copyOfRangeByte_39247 := by decide +kernel
theorem c_J7_copyOfRangeByte (hv cap n : Nat) (f : Nat → Int32) (h1 : n < cap) (h2 : cap ≤ 286) (hf : ∀ i, fits .byte (.int (f i)) = true) : jR l G K (j_ty cI cZ cT cB) yJ7_copyOfRangeByte_39247 wsJ7_copyOfRangeByte_39247 { frames := 1, cells := 1, slots := 290, locals := 60 } [(hv, .inl (cB, cap, .inl f))] [.ref hv, .int 0, .int (nI n)] 1 290 (fun (g : Nat → Int32) _ => ∀ i, fits .byte (.int (g i)) = true) (fun g a => [(hv, .inl (cB, cap, .inl f)), (a, .inl (cB, n, .inl g))]) := by
  refine j_ofR (cc := cJ7_copyOfRangeByte_39247) (maxL := 5) (rty := .array .byte) (by decide) rfl (Nat.le_of_ble_eq_true rfl) ?_
  intro p e s m args below meth c X hnm hZ
  refine j_iload_n X 1 dJ7_copyOfRangeByte_39247_0 rfl rfl ?_
  refine j_iload_n X 2 dJ7_copyOfRangeByte_39247_1 rfl rfl ?_
  refine j_callSU X (fun _ h => Or.inr h) hZ (rest := []) (wc := []) (wr := [(hv, .inl (cB, cap, .inl f))]) [] [0] rfl rfl rfl rfl (by decide) [.int 0, .int (nI n)] (c_J7_checkLength n (by omega)) 2 rfl gJ7_copyOfRangeByte_39247_J7_checkLength_df160 rfl ⟨rfl, rfl⟩ (by decide +kernel) (by exact ⟨Nat.le_of_ble_eq_true rfl, Nat.le_of_ble_eq_true rfl⟩) rfl (Nat.le_of_ble_eq_true rfl) (by exact ⟨Nat.le_of_ble_eq_true rfl, Nat.le_of_ble_eq_true rfl⟩) dJ7_copyOfRangeByte_39247_2 (fun u _ => ?_)
  refine j_weq (List.append_nil _) ?_
  refine j_iload_n X 2 dJ7_copyOfRangeByte_39247_5 rfl rfl ?_
  refine j_iload_n X 1 dJ7_copyOfRangeByte_39247_6 rfl rfl ?_
  refine j_isub X dJ7_copyOfRangeByte_39247_7 ?_
  refine j_top (show nI n - 0 = nI n from pk_sub (b := 0) (Nat.zero_le n)) ?_
  refine j_istore_n X dJ7_copyOfRangeByte_39247_8 rfl (by decide) rfl ?_
  refine j_iload_n X 0 dJ7_copyOfRangeByte_39247_9 rfl rfl ?_
  refine j_newB X (fun _ h => Or.inr h) 3 rfl jn_12 n (nI_pos (by omega)) (nI_clamp (by omega)) (by show n * 1 ≤ _; omega) (Nat.le_of_ble_eq_true rfl) (by show 0 + 0 + n ≤ 290; omega) dJ7_copyOfRangeByte_39247_10 (fun x => ?_)
  refine j_astore X dJ7_copyOfRangeByte_39247_12 (by decide) rfl ?_
  refine j_aload_n X 2 dJ7_copyOfRangeByte_39247_14 rfl rfl ?_
  refine j_iload_n X 3 dJ7_copyOfRangeByte_39247_15 rfl rfl ?_
  refine j_aload X 0 dJ7_copyOfRangeByte_39247_16 rfl ?_
  refine j_iconst (v := 0) X (by decide) dJ7_copyOfRangeByte_39247_18 ?_
  refine j_aload_n X 2 dJ7_copyOfRangeByte_39247_19 rfl rfl ?_
  refine j_alen X 0 3 rfl rfl (v := nI cap) rfl dJ7_copyOfRangeByte_39247_20 ?_
  refine j_iload_n X 3 dJ7_copyOfRangeByte_39247_21 rfl rfl ?_
  refine j_isub X dJ7_copyOfRangeByte_39247_22 ?_
  refine j_top (show nI cap - 0 = nI cap from pk_sub (b := 0) (Nat.zero_le cap)) ?_
  refine j_iload_n X 1 dJ7_copyOfRangeByte_39247_23 rfl rfl ?_
  refine j_mmin X jn_13 jn_14 jn_15 jn_16 (Nat.le_of_ble_eq_true rfl) (by show 0 + 0 + n ≤ 290; omega) (Nat.le_of_ble_eq_true rfl) (Nat.le_of_ble_eq_true rfl) dJ7_copyOfRangeByte_39247_24 ?_
  refine j_top (show (if nI n < nI cap then nI n else nI cap) = nI n from if_pos (nI_lt h1 (by omega))) ?_
  refine j_copyB X 0 1 3 (n0 := cap) (n1 := n) rfl rfl rfl hf n rfl (by omega) (by omega) (Nat.le_refl _) jn_17 jn_18 jn_19 jn_20 (Nat.le_of_ble_eq_true rfl) (Nat.le_of_ble_eq_true rfl) dJ7_copyOfRangeByte_39247_27 ?_
  refine j_aload X 0 dJ7_copyOfRangeByte_39247_30 rfl ?_
  refine j_wid (k1 := 1) (q1 := 290) (Nat.le_refl 1) (by omega) ?_
  exact j_aret X (Or.inr ⟨_, rfl⟩) (va_cpy f (fun _ => 0) 0 0 n) rfl dJ7_copyOfRangeByte_39247_32 (fun i => cpy_fits hf (fun _ => rfl) 0 0 n i)
theorem c_J7_copyOfRange (hv cap n : Nat) (f : Nat → Int32) (h1 : n < cap) (h2 : cap ≤ 286) (hf : ∀ i, fits .byte (.int (f i)) = true) : jR l G K (j_ty cI cZ cT cB) yJ7_copyOfRange_39247 wsJ7_copyOfRange_39247 { frames := 2, cells := 1, slots := 290, locals := 84 } [(hv, .inl (cB, cap, .inl f))] [.ref hv, .int 0, .int (nI n)] 1 290 (fun (g : Nat → Int32) _ => ∀ i, fits .byte (.int (g i)) = true) (fun g a => [(hv, .inl (cB, cap, .inl f)), (a, .inl (cB, n, .inl g))]) := by
  refine j_ofR (cc := cJ7_copyOfRange_39247) (maxL := 3) (rty := .array .byte) (by decide) rfl (Nat.le_of_ble_eq_true rfl) ?_
  intro p e s m args below meth c X hnm hZ
  refine j_iload_n X 1 dJ7_copyOfRange_39247_0 rfl rfl ?_
  refine j_if_ne X (tgt := 10) dJ7_copyOfRange_39247_1 (by decide) (fun q => absurd rfl q) (fun _ => ?_)
  refine j_iload_n X 2 dJ7_copyOfRange_39247_4 rfl rfl ?_
  refine j_aload_n X 0 dJ7_copyOfRange_39247_5 rfl rfl ?_
  refine j_alen X 0 3 rfl rfl (v := nI cap) rfl dJ7_copyOfRange_39247_6 ?_
  refine j_ncmp_eq X n cap rfl rfl (by omega) (by omega) dJ7_copyOfRange_39247_7 (tgt := 17) (by decide) (fun q => absurd q (by omega)) (fun _ => ?_)
  refine j_aload_n X 0 dJ7_copyOfRange_39247_10 rfl rfl ?_
  refine j_iload_n X 1 dJ7_copyOfRange_39247_11 rfl rfl ?_
  refine j_iload_n X 2 dJ7_copyOfRange_39247_12 rfl rfl ?_
  refine j_callSR X (fun _ h => Or.inr h) hZ (rest := []) (wc := [(hv, .inl (cB, cap, .inl f))]) (wr := []) [0] [] rfl rfl rfl rfl (by decide) [.ref hv, .int 0, .int (nI n)] (c_J7_copyOfRangeByte (cI := cI) (cZ := cZ) (cT := cT) hv cap n f h1 h2 hf) 3 rfl gJ7_copyOfRange_39247_J7_copyOfRangeByte_39247 rfl ⟨rfl, rfl⟩ (by decide +kernel) (by exact ⟨Nat.le_of_ble_eq_true rfl, Nat.le_of_ble_eq_true rfl⟩) rfl (Nat.le_of_ble_eq_true rfl) (by exact ⟨Nat.le_of_ble_eq_true rfl, Nat.le_of_ble_eq_true rfl⟩) dJ7_copyOfRange_39247_13 (fun g ra hg => ?_)
  refine j_weq (List.nil_append _) ?_
  exact j_aret X (Or.inr ⟨_, rfl⟩) g rfl dJ7_copyOfRange_39247_16 hg
end ZJ2
