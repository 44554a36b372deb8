section ZJ1
variable {l : Launch} {G : va_G} {K : Nat × Nat × (Nat → Int32)} {cI cZ cT cB : ClassId}
def j_ty (cI cZ cT cB : ClassId) : List (ClassId × FieldType) := [(cI, .int), (cZ, .boolean), (cT, .object "SapperWar$Team"), (cB, .byte)]
/-- a StringBuilder of n letters, its row of cap bytes -/
def j_sb (cB : ClassId) (hb hv : Nat) (mL : Int32) (n cap : Nat) (f : Nat → Int32) : va_W := [(hb, .inr (1, [.ref hv, .int 0, .int mL, .int (nI n)])), (hv, .inl (cB, cap, .inl f))]
theorem c_J1_canEncode {tys : List (ClassId × FieldType)} (x : Nat) (hx : x < 256) : jI l G K tys yJ1_canEncode_fc78d wsJ1_canEncode_fc78d { frames := 0, cells := 0, slots := 0, locals := 0 } [] [.int (nI x)] 0 0 (fun r (_ : Unit) => r = 1) (fun _ => []) := by
  refine j_ofZb (cc := cJ1_canEncode_fc78d) (maxL := 1) (by decide) rfl (Nat.le_of_ble_eq_true rfl) ?_
  intro p e s m args below meth c X _ hZ
  refine j_iload_n X 0 dJ1_canEncode_fc78d_0 rfl rfl ?_
  refine j_sipush (v := 255) X (by decide) dJ1_canEncode_fc78d_1 ?_
  refine j_ncmp_gt X x 255 rfl rfl (by omega) (by decide) dJ1_canEncode_fc78d_4 (tgt := 11) (by decide) (fun q => absurd q (by omega)) (fun _ => ?_)
  refine j_iconst (v := 1) X (by decide) dJ1_canEncode_fc78d_7 ?_
  refine j_goto X (tgt := 12) dJ1_canEncode_fc78d_8 (by decide) ?_
  exact j_zret X () rfl rfl dJ1_canEncode_fc78d_12 rfl
theorem jl_isLatin1_18 : Cond.fieldLink RJ5 18 "java/lang/String" "COMPACT_STRINGS" "Z" ∈ wsJ5_isLatin1_aae02 := by decide +kernel
theorem jl_isLatin1_22 : Cond.fieldLink RJ5 22 "java/lang/AbstractStringBuilder" (TJ4 1).2.1 (TJ4 1).2.2.1 ∈ wsJ5_isLatin1_aae02 := by decide +kernel
theorem ji_isLatin1 : ∀ w ∈ u_ws RJ4 TJ4 4, w ∈ wsJ5_isLatin1_aae02 := by decide +kernel
theorem c_J5_isLatin1 (hb hv : Nat) (mL : Int32) (n cap : Nat) (f : Nat → Int32) : jI l G K (j_ty cI cZ cT cB) yJ5_isLatin1_aae02 wsJ5_isLatin1_aae02 { frames := 0, cells := 0, slots := 0, locals := 0 } (j_sb cB hb hv mL n cap f) [.ref hb] 0 0 (fun r (_ : Unit) => r = 1) (fun _ => j_sb cB hb hv mL n cap f) := by
  refine j_ofZb (cc := cJ5_isLatin1_aae02) (maxL := 1) (by decide) rfl (Nat.le_of_ble_eq_true rfl) ?_
  intro p e s m args below meth c X _ hZ
  refine j_gets X hZ.2.1 jl_isLatin1_18 (fun x q => q) dJ5_isLatin1_aae02_0 ?_
  refine j_if_eq X (tgt := 17) dJ5_isLatin1_aae02_3 (by decide) (fun q => absurd q (by decide)) (fun _ => ?_)
  refine j_aload_n X 0 dJ5_isLatin1_aae02_6 rfl rfl ?_
  refine j_get X 0 (C := RJ4) (T := TJ4) (N := 4) rfl rfl 1 (by decide) ji_isLatin1 "java/lang/AbstractStringBuilder" jl_isLatin1_22 (fun x q => q) (v := .int 0) rfl dJ5_isLatin1_aae02_7 ?_
  refine j_if_ne X (tgt := 17) dJ5_isLatin1_aae02_10 (by decide) (fun q => absurd rfl q) (fun _ => ?_)
  refine j_iconst (v := 1) X (by decide) dJ5_isLatin1_aae02_13 ?_
  refine j_goto X (tgt := 18) dJ5_isLatin1_aae02_14 (by decide) ?_
  exact j_zret X () rfl rfl dJ5_isLatin1_aae02_18 rfl
theorem jm_newLength_1 : Cond.methodLink RJ8 194 Lib.Math.max.name ∈ wsJ8_newLength_cabcc := by decide +kernel
theorem jm_newLength_2 : Cond.static Lib.Math.max.name ∈ wsJ8_newLength_cabcc := by decide +kernel
theorem jm_newLength_3 : Cond.initialized "java/lang/Math" ∈ wsJ8_newLength_cabcc := by decide +kernel
theorem jm_newLength_4 : Cond.code Lib.Math.max.name Lib.Math.max.code 2 (some .int) ∈ wsJ8_newLength_cabcc := by decide +kernel
theorem jm_newLength_5 : Cond.constant RJ8 200 (2147483639) ∈ wsJ8_newLength_cabcc := by decide +kernel
def j_max (b d : Nat) : Nat := if b < d then d else b
theorem j_max_e (b d : Nat) (hb : b < 2 ^ 31) (hd : d < 2 ^ 31) : (if nI b < nI d then nI d else nI b) = nI (j_max b d) := by
  unfold j_max
  by_cases h : b < d
  · rw [if_pos h, if_pos ((nI_ltI hb hd).2 h)]
  · rw [if_neg h, if_neg (fun q => h ((nI_ltI hb hd).1 q))]
theorem c_J8_newLength {tys : List (ClassId × FieldType)} (a b d : Nat) (h0 : 0 < a + j_max b d) (h1 : a + j_max b d ≤ 65536) : jI l G K tys yJ8_newLength_cabcc wsJ8_newLength_cabcc { frames := 1, cells := 0, slots := 0, locals := 21 } [] [.int (nI a), .int (nI b), .int (nI d)] 0 0 (fun r (_ : Unit) => r = nI (a + j_max b d)) (fun _ => []) := by
  have hb : b < 2 ^ 31 := by unfold j_max at h1; split at h1 <;> omega
  have hd : d < 2 ^ 31 := by unfold j_max at h1; split at h1 <;> omega
  refine j_ofI (cc := cJ8_newLength_cabcc) (maxL := 4) (by decide) rfl (Nat.le_of_ble_eq_true rfl) ?_
  intro p e s m args below meth c X _ hZ
  refine j_iload_n X 0 dJ8_newLength_cabcc_0 rfl rfl ?_
  refine j_iload_n X 1 dJ8_newLength_cabcc_1 rfl rfl ?_
  refine j_iload_n X 2 dJ8_newLength_cabcc_2 rfl rfl ?_
  refine j_mmax X jm_newLength_1 jm_newLength_2 jm_newLength_3 jm_newLength_4 (Nat.zero_le _) (Nat.zero_le _) (Nat.le_of_ble_eq_true rfl) (Nat.le_of_ble_eq_true rfl) dJ8_newLength_cabcc_3 ?_
  refine j_top (j_max_e b d hb hd) ?_
  refine j_iadd X dJ8_newLength_cabcc_6 ?_
  refine j_top (nI_add a (j_max b d)) ?_
  refine j_istore_n X dJ8_newLength_cabcc_7 rfl (by decide) rfl ?_
  refine j_iconst (v := 0) X (by decide) dJ8_newLength_cabcc_8 ?_
  refine j_iload_n X 0 dJ8_newLength_cabcc_9 rfl rfl ?_
  refine j_ncmp_ge X 0 (a + j_max b d) rfl rfl (by decide) (by omega) dJ8_newLength_cabcc_10 (tgt := 21) (by decide) (fun q => absurd q (by omega)) (fun _ => ?_)
  refine j_iload_n X 0 dJ8_newLength_cabcc_13 rfl rfl ?_
  refine j_ldc X jm_newLength_5 dJ8_newLength_cabcc_14 ?_
  refine j_ncmp_gt X (a + j_max b d) 2147483639 rfl rfl (by omega) (by decide) dJ8_newLength_cabcc_16 (tgt := 21) (by decide) (fun q => absurd q (by omega)) (fun _ => ?_)
  refine j_iload_n X 0 dJ8_newLength_cabcc_19 rfl rfl ?_
  exact j_iret X () rfl dJ8_newLength_cabcc_20 rfl
theorem jm_copyOf_1 : Cond.arrayClass .byte ∈ wsJ7_copyOf_9075b := by decide +kernel
theorem jm_copyOf_2 : Cond.methodLink RJ7 304 Lib.Math.min.name ∈ wsJ7_copyOf_9075b := by decide +kernel
theorem jm_copyOf_3 : Cond.static Lib.Math.min.name ∈ wsJ7_copyOf_9075b := by decide +kernel
theorem jm_copyOf_4 : Cond.initialized "java/lang/Math" ∈ wsJ7_copyOf_9075b := by decide +kernel
theorem jm_copyOf_5 : Cond.code Lib.Math.min.name Lib.Math.min.code 2 (some .int) ∈ wsJ7_copyOf_9075b := by decide +kernel
theorem jm_copyOf_6 : Cond.methodLink RJ7 150 arraycopyName ∈ wsJ7_copyOf_9075b := by decide +kernel
theorem jm_copyOf_7 : Cond.native arraycopyName ∈ wsJ7_copyOf_9075b := by decide +kernel
theorem jm_copyOf_8 : Cond.static arraycopyName ∈ wsJ7_copyOf_9075b := by decide +kernel
theorem jm_copyOf_9 : Cond.initialized "java/lang/System" ∈ wsJ7_copyOf_9075b := by decide +kernel
theorem cpy_fits {f g : Nat → Int32} (hf : ∀ i, fits .byte (.int (f i)) = true) (hg : ∀ i, fits .byte (.int (g i)) = true) (a b n i : Nat) : fits .byte (.int (va_cpy f g a b n i)) = true := by
  unfold va_cpy
  split
  · exact hf _
  · exact hg _
/-- Arrays.copyOf(byte[], int): a longer row -/
theorem c_J7_copyOf (hv cap q : Nat) (f : Nat → Int32) (h1 : cap < q) (h2 : q ≤ 290) (hf : ∀ i, fits .byte (.int (f i)) = true) : jR l G K (j_ty cI cZ cT cB) yJ7_copyOf_9075b wsJ7_copyOf_9075b { frames := 1, cells := 1, slots := 290, locals := 60 } [(hv, .inl (cB, cap, .inl f))] [.ref hv, .int (nI q)] 1 290 (fun (g : Nat → Int32) _ => ∀ i, fits .byte (.int (g i)) = true) (fun g a => [(hv, .inl (cB, cap, .inl f)), (a, .inl (cB, q, .inl g))]) := by
  refine j_ofR (cc := cJ7_copyOf_9075b) (maxL := 3) (rty := .array .byte) (by decide) rfl (Nat.le_of_ble_eq_true rfl) ?_
  intro p e s m args below meth c X _ hZ
  refine j_iload_n X 1 dJ7_copyOf_9075b_0 rfl rfl ?_
  refine j_aload_n X 0 dJ7_copyOf_9075b_1 rfl rfl ?_
  refine j_alen X 0 3 rfl rfl (v := nI cap) rfl dJ7_copyOf_9075b_2 ?_
  refine j_ncmp_ne X q cap rfl rfl (by omega) (by omega) dJ7_copyOf_9075b_3 (tgt := 14) (by decide) (fun _ => ?_) (fun q9 => absurd q9 (by omega))
  refine j_iload_n X 1 dJ7_copyOf_9075b_14 rfl rfl ?_
  refine j_newB X (fun _ h => Or.inr h) 3 rfl jm_copyOf_1 q (nI_pos (by omega)) (nI_clamp (by omega)) (by show q * 1 ≤ _; omega) (Nat.le_of_ble_eq_true rfl) (by show 0 + q ≤ 290; omega) dJ7_copyOf_9075b_15 (fun x => ?_)
  refine j_astore_n X dJ7_copyOf_9075b_17 rfl (by decide) rfl ?_
  refine j_aload_n X 1 dJ7_copyOf_9075b_18 rfl rfl ?_
  refine j_iconst (v := 0) X (by decide) dJ7_copyOf_9075b_19 ?_
  refine j_aload_n X 0 dJ7_copyOf_9075b_20 rfl rfl ?_
  refine j_iconst (v := 0) X (by decide) dJ7_copyOf_9075b_21 ?_
  refine j_aload_n X 1 dJ7_copyOf_9075b_22 rfl rfl ?_
  refine j_alen X 0 3 rfl rfl (v := nI cap) rfl dJ7_copyOf_9075b_23 ?_
  refine j_iload_n X 2 dJ7_copyOf_9075b_24 rfl rfl ?_
  refine j_mmin X jm_copyOf_2 jm_copyOf_3 jm_copyOf_4 jm_copyOf_5 (Nat.le_of_ble_eq_true rfl) (by show 0 + q ≤ 290; omega) (Nat.le_of_ble_eq_true rfl) (Nat.le_of_ble_eq_true rfl) dJ7_copyOf_9075b_25 ?_
  refine j_top (show (if nI q < nI cap then nI q else nI cap) = nI cap from if_neg (nI_nlt (by omega) (by omega))) ?_
  refine j_copyB X 0 1 3 (n0 := cap) (n1 := q) rfl rfl rfl hf cap rfl (by omega) (Nat.le_refl _) (by omega) jm_copyOf_6 jm_copyOf_7 jm_copyOf_8 jm_copyOf_9 (Nat.le_of_ble_eq_true rfl) (Nat.le_of_ble_eq_true rfl) dJ7_copyOf_9075b_28 ?_
  refine j_aload_n X 0 dJ7_copyOf_9075b_31 rfl rfl ?_
  refine j_wid (k1 := 1) (q1 := 290) (Nat.le_refl 1) (by omega) ?_
  exact j_aret X (Or.inr ⟨_, rfl⟩) (va_cpy f (fun _ => 0) 0 0 cap) rfl dJ7_copyOf_9075b_32 (fun i => cpy_fits hf (fun _ => rfl) 0 0 cap i)
theorem jm_newCap_0 : Cond.fieldLink RJ5 15 "java/lang/AbstractStringBuilder" (TJ4 0).2.1 (TJ4 0).2.2.1 ∈ wsJ5_newCapacity_0f7a4 := by decide +kernel
theorem jm_newCap_1 : Cond.fieldLink RJ5 22 "java/lang/AbstractStringBuilder" (TJ4 1).2.1 (TJ4 1).2.2.1 ∈ wsJ5_newCapacity_0f7a4 := by decide +kernel
theorem jm_newCap_2 : Cond.constant RJ5 39 (2147483647) ∈ wsJ5_newCapacity_0f7a4 := by decide +kernel
theorem ji_newCap : ∀ w ∈ u_ws RJ4 TJ4 4, w ∈ wsJ5_newCapacity_0f7a4 := by decide +kernel
theorem jm_ens_0 : Cond.fieldLink RJ5 15 "java/lang/AbstractStringBuilder" (TJ4 0).2.1 (TJ4 0).2.2.1 ∈ wsJ5_ensureCapacityInternal_d00df := by decide +kernel
theorem jm_ens_1 : Cond.fieldLink RJ5 22 "java/lang/AbstractStringBuilder" (TJ4 1).2.1 (TJ4 1).2.2.1 ∈ wsJ5_ensureCapacityInternal_d00df := by decide +kernel
theorem ji_ens : ∀ w ∈ u_ws RJ4 TJ4 4, w ∈ wsJ5_ensureCapacityInternal_d00df := by decide +kernel
theorem jm_app_0 : Cond.fieldLink RJ5 15 "java/lang/AbstractStringBuilder" (TJ4 0).2.1 (TJ4 0).2.2.1 ∈ wsJ5_append_3fe6f := by decide +kernel
theorem jm_app_1 : Cond.fieldLink RJ5 79 "java/lang/AbstractStringBuilder" (TJ4 3).2.1 (TJ4 3).2.2.1 ∈ wsJ5_append_3fe6f := by decide +kernel
theorem ji_app : ∀ w ∈ u_ws RJ4 TJ4 4, w ∈ wsJ5_append_3fe6f := by decide +kernel
theorem j_sh0 (x : Nat) (h : x < 2 ^ 31) : nI x <<< ((0 : Int32) &&& 31) = nI x := by
  have e := pk_shlN (n := x) ((0 : Int32) &&& 31) 0 (by decide) (by omega)
  rw [e, Nat.pow_zero, Nat.mul_one]
theorem j_sr0 (x : Nat) (h : x < 2 ^ 31) : nI x >>> ((0 : Int32) &&& 31) = nI x := by
  have e := pk_shrN (n := x) h ((0 : Int32) &&& 31) 0 (by decide)
  rw [e, Nat.pow_zero, Nat.div_one]
theorem c_J5_newCapacity (hb hv : Nat) (mL : Int32) (n cap : Nat) (f : Nat → Int32) (hc : cap ≤ 142) : jI l G K (j_ty cI cZ cT cB) yJ5_newCapacity_0f7a4 wsJ5_newCapacity_0f7a4 { frames := 2, cells := 0, slots := 0, locals := 44 } (j_sb cB hb hv mL n cap f) [.ref hb, .int (nI (cap + 1))] 0 0 (fun r (_ : Unit) => r = nI (2 * cap + 2)) (fun _ => j_sb cB hb hv mL n cap f) := by
  refine j_ofI (cc := cJ5_newCapacity_0f7a4) (maxL := 6) (by decide) rfl (Nat.le_of_ble_eq_true rfl) ?_
  intro p e s m args below meth c X _ hZ
  refine j_aload_n X 0 dJ5_newCapacity_0f7a4_0 rfl rfl ?_
  refine j_get X 0 (C := RJ4) (T := TJ4) (N := 4) rfl rfl 0 (by decide) ji_newCap "java/lang/AbstractStringBuilder" jm_newCap_0 (fun x q => q) (v := .ref hv) rfl dJ5_newCapacity_0f7a4_1 ?_
  refine j_alen X 1 3 rfl rfl (v := nI cap) rfl dJ5_newCapacity_0f7a4_4 ?_
  refine j_istore_n X dJ5_newCapacity_0f7a4_5 rfl (by decide) rfl ?_
  refine j_iload_n X 2 dJ5_newCapacity_0f7a4_6 rfl rfl ?_
  refine j_aload_n X 1 dJ5_newCapacity_0f7a4_7 rfl rfl ?_
  refine j_get X 0 (C := RJ4) (T := TJ4) (N := 4) rfl rfl 1 (by decide) ji_newCap "java/lang/AbstractStringBuilder" jm_newCap_1 (fun x q => q) (v := .int 0) rfl dJ5_newCapacity_0f7a4_8 ?_
  refine j_ishl X dJ5_newCapacity_0f7a4_11 ?_
  refine j_top (j_sh0 (cap + 1) (by omega)) ?_
  refine j_istore_n X dJ5_newCapacity_0f7a4_12 rfl (by decide) rfl ?_
  refine j_iload_n X 0 dJ5_newCapacity_0f7a4_13 rfl rfl ?_
  refine j_iload_n X 1 dJ5_newCapacity_0f7a4_14 rfl rfl ?_
  refine j_isub X dJ5_newCapacity_0f7a4_15 ?_
  refine j_top (show nI (cap + 1) - nI cap = nI 1 by rw [pk_sub (by omega)]; congr 1; omega) ?_
  refine j_istore X dJ5_newCapacity_0f7a4_16 (by decide) rfl ?_
  refine j_iload_n X 2 dJ5_newCapacity_0f7a4_18 rfl rfl ?_
  refine j_iload X 0 dJ5_newCapacity_0f7a4_19 rfl ?_
  refine j_iload_n X 2 dJ5_newCapacity_0f7a4_21 rfl rfl ?_
  refine j_iconst (v := 2) X (by decide) dJ5_newCapacity_0f7a4_22 ?_
  refine j_aload_n X 3 dJ5_newCapacity_0f7a4_23 rfl rfl ?_
  refine j_get X 0 (C := RJ4) (T := TJ4) (N := 4) rfl rfl 1 (by decide) ji_newCap "java/lang/AbstractStringBuilder" jm_newCap_1 (fun x q => q) (v := .int 0) rfl dJ5_newCapacity_0f7a4_24 ?_
  refine j_ishl X dJ5_newCapacity_0f7a4_27 ?_
  refine j_top (j_sh0 2 (by decide)) ?_
  refine j_iadd X dJ5_newCapacity_0f7a4_28 ?_
  refine j_top (nI_add cap 2) ?_
  refine j_callSI X (fun _ h => Or.inr h) hZ (rest := []) (wc := []) (wr := j_sb cB hb hv mL n cap f) [] [0, 1] rfl rfl rfl rfl (by decide) [.int (nI cap), .int (nI 1), .int (nI (cap + 2))] (c_J8_newLength cap 1 (cap + 2) (by unfold j_max; split <;> omega) (by unfold j_max; split <;> omega)) 3 rfl gJ5_newCapacity_0f7a4_J8_newLength_cabcc rfl ⟨rfl, rfl⟩ (by decide +kernel) ⟨Nat.le_of_ble_eq_true rfl, Nat.le_of_ble_eq_true rfl⟩ rfl (Nat.le_of_ble_eq_true rfl) (by exact ⟨Nat.le_of_ble_eq_true rfl, Nat.le_of_ble_eq_true rfl⟩) dJ5_newCapacity_0f7a4_29 (fun r u hr => ?_)
  subst hr
  refine j_weq (List.append_nil _) ?_
  refine j_top (show nI (cap + j_max 1 (cap + 2)) = nI (2 * cap + 2) by congr 1; unfold j_max; rw [if_pos (by omega)]; omega) ?_
  refine j_istore X dJ5_newCapacity_0f7a4_32 (by decide) rfl ?_
  refine j_iload X 0 dJ5_newCapacity_0f7a4_34 rfl ?_
  refine j_ldc X jm_newCap_2 dJ5_newCapacity_0f7a4_36 ?_
  refine j_ncmp_ne X (2 * cap + 2) 2147483647 rfl rfl (by omega) (by decide) dJ5_newCapacity_0f7a4_38 (tgt := 51) (by decide) (fun _ => ?_) (fun q => absurd q (by omega))
  refine j_iload X 0 dJ5_newCapacity_0f7a4_51 rfl ?_
  refine j_aload_n X 4 dJ5_newCapacity_0f7a4_53 rfl rfl ?_
  refine j_get X 0 (C := RJ4) (T := TJ4) (N := 4) rfl rfl 1 (by decide) ji_newCap "java/lang/AbstractStringBuilder" jm_newCap_1 (fun x q => q) (v := .int 0) rfl dJ5_newCapacity_0f7a4_54 ?_
  refine j_ishr X dJ5_newCapacity_0f7a4_57 ?_
  refine j_top (j_sr0 (2 * cap + 2) (by omega)) ?_
  exact j_iret X () rfl dJ5_newCapacity_0f7a4_58 rfl
/-- the capacities of a StringBuilder that grows by letters -/
def j_cap (n : Nat) : Prop := n = 16 ∨ n = 34 ∨ n = 70 ∨ n = 142 ∨ n = 286
theorem j_cap_up {n : Nat} (h : j_cap n) (h2 : n < 286) : j_cap (2 * n + 2) ∧ n ≤ 142 := by
  unfold j_cap at h ⊢; omega
theorem c_J5_ensure (hb hv : Nat) (mL : Int32) (n cap : Nat) (f : Nat → Int32) (hc : j_cap cap) (hn : n ≤ cap) (hn2 : n < 286) (hf : ∀ i, fits .byte (.int (f i)) = true) : jU l G K (j_ty cI cZ cT cB) yJ5_ensureCapacityInternal_d00df wsJ5_ensureCapacityInternal_d00df { frames := 3, cells := 1, slots := 290, locals := 82 } (j_sb cB hb hv mL n cap f) [.ref hb, .int (nI (n + 1))] 1 290 (fun u : Nat × Nat × (Nat → Int32) => j_cap u.2.1 ∧ n + 1 ≤ u.2.1 ∧ ∀ i, fits .byte (.int (u.2.2 i)) = true) (fun u => j_sb cB hb u.1 mL n u.2.1 u.2.2) := by
  have hc286 : cap ≤ 286 := by unfold j_cap at hc; omega
  refine j_ofV (cc := cJ5_ensureCapacityInternal_d00df) (maxL := 3) (by decide) rfl (Nat.le_of_ble_eq_true rfl) ?_
  intro p e s m args below meth c X _ hZ
  refine j_aload_n X 0 dJ5_ensureCapacityInternal_d00df_0 rfl rfl ?_
  refine j_get X 0 (C := RJ4) (T := TJ4) (N := 4) rfl rfl 0 (by decide) ji_ens "java/lang/AbstractStringBuilder" jm_ens_0 (fun x q => q) (v := .ref hv) rfl dJ5_ensureCapacityInternal_d00df_1 ?_
  refine j_alen X 1 3 rfl rfl (v := nI cap) rfl dJ5_ensureCapacityInternal_d00df_4 ?_
  refine j_aload_n X 0 dJ5_ensureCapacityInternal_d00df_5 rfl rfl ?_
  refine j_get X 0 (C := RJ4) (T := TJ4) (N := 4) rfl rfl 1 (by decide) ji_ens "java/lang/AbstractStringBuilder" jm_ens_1 (fun x q => q) (v := .int 0) rfl dJ5_ensureCapacityInternal_d00df_6 ?_
  refine j_ishr X dJ5_ensureCapacityInternal_d00df_9 ?_
  refine j_top (j_sr0 cap (by omega)) ?_
  refine j_istore_n X dJ5_ensureCapacityInternal_d00df_10 rfl (by decide) rfl ?_
  refine j_iload_n X 2 dJ5_ensureCapacityInternal_d00df_11 rfl rfl ?_
  refine j_iload_n X 0 dJ5_ensureCapacityInternal_d00df_12 rfl rfl ?_
  refine j_isub X dJ5_ensureCapacityInternal_d00df_13 ?_
  by_cases hcn : n + 1 ≤ cap
  · refine j_if_le X dJ5_ensureCapacityInternal_d00df_14 (tgt := 38) (by decide) (fun _ => ?_) (fun q => absurd q ?_)
    · refine j_wid (k1 := 1) (q1 := 290) (Nat.zero_le _) (Nat.zero_le _) ?_
      exact j_vret X (hv, cap, f) rfl dJ5_ensureCapacityInternal_d00df_38 ⟨hc, hcn, hf⟩
    · rw [Int32.lt_iff_toInt_lt, pk_sub_toInt (by omega) (by omega), Int32.toInt_zero]; omega
  · have en : n = cap := by omega
    subst en
    obtain ⟨hc2, h142⟩ := j_cap_up hc hn2
    refine j_top (show nI (n + 1) - nI n = nI 1 by rw [pk_sub (by omega)]; congr 1; omega) ?_
    refine j_nif_le X 1 rfl (by decide) dJ5_ensureCapacityInternal_d00df_14 (tgt := 38) (by decide) (fun q => absurd q (by decide)) (fun _ => ?_)
    refine j_aload_n X 1 dJ5_ensureCapacityInternal_d00df_17 rfl rfl ?_
    refine j_aload_n X 1 dJ5_ensureCapacityInternal_d00df_18 rfl rfl ?_
    refine j_get X 0 (C := RJ4) (T := TJ4) (N := 4) rfl rfl 0 (by decide) ji_ens "java/lang/AbstractStringBuilder" jm_ens_0 (fun x q => q) (v := .ref hv) rfl dJ5_ensureCapacityInternal_d00df_19 ?_
    refine j_aload_n X 1 dJ5_ensureCapacityInternal_d00df_22 rfl rfl ?_
    refine j_iload_n X 2 dJ5_ensureCapacityInternal_d00df_23 rfl rfl ?_
    refine j_callUI X (fun _ h => Or.inr h) hZ (rest := [.ref hv, .ref hb]) (wc := j_sb cB hb hv mL n n f) (wr := []) [0, 1] [] rfl rfl rfl rfl (by decide) [.int (nI (n + 1))] 0 (C := RJ4) (T := TJ4) (N := 4) rfl rfl (c_J5_newCapacity hb hv mL n n f h142) 1 rfl gJ5_ensureCapacityInternal_d00df_J5_newCapacity_0f7a4_u104J4 rfl rfl ⟨rfl, rfl⟩ (by decide +kernel) ⟨Nat.le_of_ble_eq_true rfl, Nat.le_of_ble_eq_true rfl⟩ rfl (Nat.le_of_ble_eq_true rfl) (by exact ⟨Nat.le_of_ble_eq_true rfl, Nat.le_of_ble_eq_true rfl⟩) dJ5_ensureCapacityInternal_d00df_24 (fun r u hr => ?_)
    subst hr
    refine j_weq (List.nil_append _) ?_
    refine j_aload_n X 1 dJ5_ensureCapacityInternal_d00df_27 rfl rfl ?_
    refine j_get X 0 (C := RJ4) (T := TJ4) (N := 4) rfl rfl 1 (by decide) ji_ens "java/lang/AbstractStringBuilder" jm_ens_1 (fun x q => q) (v := .int 0) rfl dJ5_ensureCapacityInternal_d00df_28 ?_
    refine j_ishl X dJ5_ensureCapacityInternal_d00df_31 ?_
    refine j_top (j_sh0 (2 * n + 2) (by omega)) ?_
    refine j_callSR X (fun _ h => Or.inr h) hZ (rest := [.ref hb]) (wc := [(hv, .inl (cB, n, .inl f))]) (wr := [(hb, .inr (1, [.ref hv, .int 0, .int mL, .int (nI n)]))]) [1] [0] rfl rfl rfl rfl (by decide) [.ref hv, .int (nI (2 * n + 2))] (c_J7_copyOf (cI := cI) (cZ := cZ) (cT := cT) hv n (2 * n + 2) f (by omega) (by omega) hf) 2 rfl gJ5_ensureCapacityInternal_d00df_J7_copyOf_9075b rfl ⟨rfl, rfl⟩ (by decide +kernel) ⟨Nat.le_of_ble_eq_true rfl, Nat.le_of_ble_eq_true rfl⟩ rfl (Nat.le_of_ble_eq_true rfl) (by exact ⟨Nat.le_of_ble_eq_true rfl, Nat.le_of_ble_eq_true rfl⟩) dJ5_ensureCapacityInternal_d00df_32 (fun g ra hg => ?_)
    refine j_put X 0 (C := RJ4) (T := TJ4) (N := 4) rfl rfl 0 (by decide) ji_ens "java/lang/AbstractStringBuilder" jm_ens_0 (fun x q => q) tyJ4_ok nmJ4 rfl (ty := .array .byte) (v := .ref ra) (by decide +kernel) rfl rfl (Nat.le_of_ble_eq_true rfl) dJ5_ensureCapacityInternal_d00df_35 ?_
    refine j_pick (ws' := j_sb cB hb ra mL n (2 * n + 2) g) [0, 2] rfl rfl ?_
    exact j_vret X (ra, 2 * n + 2, g) rfl dJ5_ensureCapacityInternal_d00df_38 ⟨hc2, by show n + 1 ≤ 2 * n + 2; omega, hg⟩
theorem upd_fits {f : Nat → Int32} (hf : ∀ i, fits .byte (.int (f i)) = true) (n : Nat) (z : Int32) (i : Nat) : fits .byte (.int (upd f n (vp_nar .byte z.toInt8.toInt32) i)) = true := by
  rw [pk_vb]
  by_cases h : i = n
  · subst h; rw [pk_us]; exact pk_fb z
  · rw [pk_un h]; exact hf i
/-- AbstractStringBuilder.append(char): a letter below 256 -/
theorem c_J5_append (hb hv : Nat) (mL : Int32) (n cap : Nat) (f : Nat → Int32) (x : Nat) (hx : x < 256) (hc : j_cap cap) (hn : n ≤ cap) (hn2 : n < 286) (hf : ∀ i, fits .byte (.int (f i)) = true) : jR l G K (j_ty cI cZ cT cB) yJ5_append_3fe6f wsJ5_append_3fe6f { frames := 4, cells := 1, slots := 290, locals := 105 } (j_sb cB hb hv mL n cap f) [.ref hb, .int (nI x)] 1 290 (fun (u : Nat × Nat × (Nat → Int32)) a => a = hb ∧ j_cap u.2.1 ∧ n + 1 ≤ u.2.1 ∧ ∀ i, fits .byte (.int (u.2.2 i)) = true) (fun u _ => j_sb cB hb u.1 mL (n + 1) u.2.1 u.2.2) := by
  refine j_ofR (cc := cJ5_append_3fe6f) (maxL := 2) (rty := .object "java/lang/AbstractStringBuilder") (by decide) rfl (Nat.le_of_ble_eq_true rfl) ?_
  intro p e s m args below meth c X _ hZ
  refine j_aload_n X 0 dJ5_append_3fe6f_0 rfl rfl ?_
  refine j_aload_n X 0 dJ5_append_3fe6f_1 rfl rfl ?_
  refine j_get X 0 (C := RJ4) (T := TJ4) (N := 4) rfl rfl 3 (by decide) ji_app "java/lang/AbstractStringBuilder" jm_app_1 (fun x q => q) (v := .int (nI n)) rfl dJ5_append_3fe6f_2 ?_
  refine j_iconst (v := nI 1) X (by decide) dJ5_append_3fe6f_5 ?_
  refine j_iadd X dJ5_append_3fe6f_6 ?_
  refine j_top (nI_add n 1) ?_
  refine j_callUU X (fun _ h => Or.inr h) hZ (rest := []) (wc := j_sb cB hb hv mL n cap f) (wr := []) [0, 1] [] rfl rfl rfl rfl (by decide) [.int (nI (n + 1))] 0 (C := RJ4) (T := TJ4) (N := 4) rfl rfl (c_J5_ensure (cI := cI) (cZ := cZ) (cT := cT) hb hv mL n cap f hc hn hn2 hf) 1 rfl gJ5_append_3fe6f_J5_ensureCapacityInternal_d00df_u100J4 rfl rfl ⟨rfl, rfl⟩ (by decide +kernel) ⟨Nat.le_of_ble_eq_true rfl, Nat.le_of_ble_eq_true rfl⟩ rfl (Nat.le_of_ble_eq_true rfl) (by exact ⟨Nat.le_of_ble_eq_true rfl, Nat.le_of_ble_eq_true rfl⟩) dJ5_append_3fe6f_7 (fun u hu => ?_)
  obtain ⟨hv1, cap1, f1⟩ := u
  obtain ⟨hc1, hn1, hf1⟩ := hu
  have hc1 : j_cap cap1 := hc1
  have hn1 : n + 1 ≤ cap1 := hn1
  have hf1 : ∀ i, fits .byte (.int (f1 i)) = true := hf1
  refine j_weq (List.nil_append _) ?_
  refine j_aload_n X 0 dJ5_append_3fe6f_10 rfl rfl ?_
  refine j_callUI X (fun _ h => Or.inr h) hZ (rest := []) (wc := j_sb cB hb hv1 mL n cap1 f1) (wr := []) [0, 1] [] rfl rfl rfl rfl (by decide) [] 0 (C := RJ4) (T := TJ4) (N := 4) rfl rfl (c_J5_isLatin1 (cI := cI) (cZ := cZ) (cT := cT) hb hv1 mL n cap1 f1) 0 rfl gJ5_append_3fe6f_J5_isLatin1_aae02_u83J4 rfl rfl ⟨rfl, rfl⟩ (by decide +kernel) ⟨Nat.le_of_ble_eq_true rfl, Nat.le_of_ble_eq_true rfl⟩ rfl (Nat.le_of_ble_eq_true rfl) (by exact ⟨Nat.le_of_ble_eq_true rfl, Nat.le_of_ble_eq_true rfl⟩) dJ5_append_3fe6f_11 (fun r u hr => ?_)
  subst hr
  refine j_weq (List.nil_append _) ?_
  refine j_if_eq X (tgt := 45) dJ5_append_3fe6f_14 (by decide) (fun q => absurd q (by decide)) (fun _ => ?_)
  refine j_iload_n X 1 dJ5_append_3fe6f_17 rfl rfl ?_
  refine j_callSI X (fun _ h => Or.inr h) hZ (rest := []) (wc := []) (wr := j_sb cB hb hv1 mL n cap1 f1) [] [0, 1] rfl rfl rfl rfl (by decide) [.int (nI x)] (c_J1_canEncode x hx) 1 rfl gJ5_append_3fe6f_J1_canEncode_fc78d rfl ⟨rfl, rfl⟩ (by decide +kernel) ⟨Nat.le_of_ble_eq_true rfl, Nat.le_of_ble_eq_true rfl⟩ rfl (Nat.le_of_ble_eq_true rfl) (by exact ⟨Nat.le_of_ble_eq_true rfl, Nat.le_of_ble_eq_true rfl⟩) dJ5_append_3fe6f_18 (fun r u hr => ?_)
  subst hr
  refine j_weq (List.append_nil _) ?_
  refine j_if_eq X (tgt := 45) dJ5_append_3fe6f_21 (by decide) (fun q => absurd q (by decide)) (fun _ => ?_)
  refine j_aload_n X 0 dJ5_append_3fe6f_24 rfl rfl ?_
  refine j_get X 0 (C := RJ4) (T := TJ4) (N := 4) rfl rfl 0 (by decide) ji_app "java/lang/AbstractStringBuilder" jm_app_0 (fun x q => q) (v := .ref hv1) rfl dJ5_append_3fe6f_25 ?_
  refine j_aload_n X 0 dJ5_append_3fe6f_28 rfl rfl ?_
  refine j_dup X rfl dJ5_append_3fe6f_29 ?_
  refine j_get X 0 (C := RJ4) (T := TJ4) (N := 4) rfl rfl 3 (by decide) ji_app "java/lang/AbstractStringBuilder" jm_app_1 (fun x q => q) (v := .int (nI n)) rfl dJ5_append_3fe6f_30 ?_
  refine j_dup_x1 X rfl rfl dJ5_append_3fe6f_33 ?_
  refine j_iconst (v := nI 1) X (by decide) dJ5_append_3fe6f_34 ?_
  refine j_iadd X dJ5_append_3fe6f_35 ?_
  refine j_top (nI_add n 1) ?_
  refine j_put X 0 (C := RJ4) (T := TJ4) (N := 4) rfl rfl 3 (by decide) ji_app "java/lang/AbstractStringBuilder" jm_app_1 (fun x q => q) tyJ4_ok nmJ4 rfl (ty := .int) (v := .int (nI (n + 1))) (by decide +kernel) rfl rfl (Nat.le_of_ble_eq_true rfl) dJ5_append_3fe6f_36 ?_
  refine j_iload_n X 1 dJ5_append_3fe6f_39 rfl rfl ?_
  refine j_i2b X rfl dJ5_append_3fe6f_40 ?_
  refine j_bast X 1 3 (n := cap1) (f := f1) (cA := cB) rfl rfl n rfl (by omega) (by unfold j_cap at hc1; omega) dJ5_append_3fe6f_41 ?_
  refine j_goto X (tgt := 75) dJ5_append_3fe6f_42 (by decide) ?_
  refine j_aload_n X 0 dJ5_append_3fe6f_75 rfl rfl ?_
  exact j_aret X (Or.inl ⟨_, rfl⟩) (hv1, cap1, upd f1 n (vp_nar .byte (nI x).toInt8.toInt32)) rfl dJ5_append_3fe6f_76 ⟨rfl, hc1, hn1, upd_fits hf1 n (nI x)⟩
/-- StringBuilder.append(char) -/
theorem c_J4_append (hb hv : Nat) (mL : Int32) (n cap : Nat) (f : Nat → Int32) (x : Nat) (hx : x < 256) (hc : j_cap cap) (hn : n ≤ cap) (hn2 : n < 286) (hf : ∀ i, fits .byte (.int (f i)) = true) : jR l G K (j_ty cI cZ cT cB) yJ4_append_cf468 wsJ4_append_cf468 { frames := 5, cells := 1, slots := 290, locals := 126 } (j_sb cB hb hv mL n cap f) [.ref hb, .int (nI x)] 1 290 (fun (u : Nat × Nat × (Nat → Int32)) a => a = hb ∧ j_cap u.2.1 ∧ n + 1 ≤ u.2.1 ∧ ∀ i, fits .byte (.int (u.2.2 i)) = true) (fun u _ => j_sb cB hb u.1 mL (n + 1) u.2.1 u.2.2) := by
  refine j_ofR (cc := cJ4_append_cf468) (maxL := 2) (rty := .object "java/lang/StringBuilder") (by decide) rfl (Nat.le_of_ble_eq_true rfl) ?_
  intro p e s m args below meth c X _ hZ
  refine j_aload_n X 0 dJ4_append_cf468_0 rfl rfl ?_
  refine j_iload_n X 1 dJ4_append_cf468_1 rfl rfl ?_
  refine j_callSUR X (fun _ h => Or.inr h) hZ (rest := []) (wc := j_sb cB hb hv mL n cap f) (wr := []) [0, 1] [] rfl rfl rfl rfl (by decide) [.int (nI x)] 0 (C := RJ4) (T := TJ4) (N := 4) rfl rfl (c_J5_append (cI := cI) (cZ := cZ) (cT := cT) hb hv mL n cap f x hx hc hn hn2 hf) 1 rfl gJ4_append_cf468_J5_append_3fe6f_s50 rfl ⟨rfl, rfl⟩ (by decide +kernel) ⟨Nat.le_of_ble_eq_true rfl, Nat.le_of_ble_eq_true rfl⟩ rfl (Nat.le_of_ble_eq_true rfl) (by exact ⟨Nat.le_of_ble_eq_true rfl, Nat.le_of_ble_eq_true rfl⟩) dJ4_append_cf468_2 (fun u ra hu => ?_)
  obtain ⟨rfl, hu⟩ := hu
  refine j_weq (List.nil_append _) ?_
  refine j_pop X rfl dJ4_append_cf468_5 ?_
  refine j_aload_n X 0 dJ4_append_cf468_6 rfl rfl ?_
  exact j_aret X (Or.inl ⟨_, rfl⟩) u rfl dJ4_append_cf468_7 ⟨rfl, hu⟩
end ZJ1
