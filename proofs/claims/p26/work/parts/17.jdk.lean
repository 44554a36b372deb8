section ZJ1
variable {l : Launch} {G : va_G} {cI cZ cT cB : ClassId}
def j_ty (cI cZ cT cB : ClassId) : List (ClassId × FieldType) := [(cI, .int), (cZ, .boolean), (cT, .object "SapperWar$Team"), (cB, .byte)]
/-- a StringBuilder of n letters, its row of cap bytes -/
def j_sb (cB : ClassId) (hb hv : Nat) (mL : Int32) (n cap : Nat) (f : Nat → Int32) : va_W := [(hb, .inr (1, [.ref hv, .int 0, .int mL, .int (nI n)])), (hv, .inl (cB, cap, .inl f))]
theorem c_J1_canEncode {tys : List (ClassId × FieldType)} (x : Nat) (hx : x < 256) : jI l G tys yJ1_canEncode_fc78d wsJ1_canEncode_fc78d { frames := 0, cells := 0, slots := 0, locals := 0 } [] [.int (nI x)] 0 0 (fun r (_ : Unit) => r = 1) (fun _ => []) := by
  refine j_ofZb (cc := cJ1_canEncode_fc78d) (maxL := 1) (by decide) rfl (Nat.le_of_ble_eq_true rfl) ?_
  intro p e s m args below meth c X _ hZ
  refine j_iload_n X 0 dJ1_canEncode_fc78d_0 rfl rfl ?_
  refine j_sipush (v := 255) X (by decide) dJ1_canEncode_fc78d_1 ?_
  refine j_ncmp_gt X x 255 rfl rfl (by omega) (by decide) dJ1_canEncode_fc78d_4 (tgt := 11) (by decide) (fun q => absurd q (by omega)) (fun _ => ?_)
  refine j_iconst (v := 1) X (by decide) dJ1_canEncode_fc78d_7 ?_
  refine j_goto X (tgt := 12) dJ1_canEncode_fc78d_8 (by decide) ?_
  exact j_zret X () rfl rfl dJ1_canEncode_fc78d_12 rfl
theorem jl_isLatin1_18 : Cond.fieldLink RJ5 18 "java/lang/String" "COMPACT_STRINGS" "Z" ∈ wsJ5_isLatin1_aae02 := by decide +kernel
theorem jl_isLatin1_22 : Cond.fieldLink RJ5 22 "java/lang/AbstractStringBuilder" (TJ4 1).2.1 (TJ4 1).2.2.1 ∈ wsJ5_isLatin1_aae02 := by decide +kernel
theorem ji_isLatin1 : ∀ w ∈ u_ws RJ4 TJ4 4, w ∈ wsJ5_isLatin1_aae02 := by decide +kernel
theorem c_J5_isLatin1 (hb hv : Nat) (mL : Int32) (n cap : Nat) (f : Nat → Int32) : jI l G (j_ty cI cZ cT cB) yJ5_isLatin1_aae02 wsJ5_isLatin1_aae02 { frames := 0, cells := 0, slots := 0, locals := 0 } (j_sb cB hb hv mL n cap f) [.ref hb] 0 0 (fun r (_ : Unit) => r = 1) (fun _ => j_sb cB hb hv mL n cap f) := by
  refine j_ofZb (cc := cJ5_isLatin1_aae02) (maxL := 1) (by decide) rfl (Nat.le_of_ble_eq_true rfl) ?_
  intro p e s m args below meth c X _ hZ
  refine j_gets X hZ.1 jl_isLatin1_18 (fun x q => q) dJ5_isLatin1_aae02_0 ?_
  refine j_if_eq X (tgt := 17) dJ5_isLatin1_aae02_3 (by decide) (fun q => absurd q (by decide)) (fun _ => ?_)
  refine j_aload_n X 0 dJ5_isLatin1_aae02_6 rfl rfl ?_
  refine j_get X 0 (C := RJ4) (T := TJ4) (N := 4) rfl rfl 1 (by decide) ji_isLatin1 "java/lang/AbstractStringBuilder" jl_isLatin1_22 (fun x q => q) (v := .int 0) rfl dJ5_isLatin1_aae02_7 ?_
  refine j_if_ne X (tgt := 17) dJ5_isLatin1_aae02_10 (by decide) (fun q => absurd rfl q) (fun _ => ?_)
  refine j_iconst (v := 1) X (by decide) dJ5_isLatin1_aae02_13 ?_
  refine j_goto X (tgt := 18) dJ5_isLatin1_aae02_14 (by decide) ?_
  exact j_zret X () rfl rfl dJ5_isLatin1_aae02_18 rfl
theorem jm_newLength_1 : Cond.methodLink RJ8 194 Lib.Math.max.name ∈ wsJ8_newLength_cabcc := by decide +kernel
theorem jm_newLength_2 : Cond.static Lib.Math.max.name ∈ wsJ8_newLength_cabcc := by decide +kernel
theorem jm_newLength_3 : Cond.initialized "java/lang/Math" ∈ wsJ8_newLength_cabcc := by decide +kernel
theorem jm_newLength_4 : Cond.code Lib.Math.max.name Lib.Math.max.code 2 (some .int) ∈ wsJ8_newLength_cabcc := by decide +kernel
theorem jm_newLength_5 : Cond.constant RJ8 200 (2147483639) ∈ wsJ8_newLength_cabcc := by decide +kernel
def j_max (b d : Nat) : Nat := if b < d then d else b
theorem j_max_e (b d : Nat) (hb : b < 2 ^ 31) (hd : d < 2 ^ 31) : (if nI b < nI d then nI d else nI b) = nI (j_max b d) := by
  unfold j_max
  by_cases h : b < d
  · rw [if_pos h, if_pos ((nI_ltI hb hd).2 h)]
  · rw [if_neg h, if_neg (fun q => h ((nI_ltI hb hd).1 q))]
theorem c_J8_newLength {tys : List (ClassId × FieldType)} (a b d : Nat) (h0 : 0 < a + j_max b d) (h1 : a + j_max b d ≤ 65536) : jI l G tys yJ8_newLength_cabcc wsJ8_newLength_cabcc { frames := 1, cells := 0, slots := 0, locals := 21 } [] [.int (nI a), .int (nI b), .int (nI d)] 0 0 (fun r (_ : Unit) => r = nI (a + j_max b d)) (fun _ => []) := by
  have hb : b < 2 ^ 31 := by unfold j_max at h1; split at h1 <;> omega
  have hd : d < 2 ^ 31 := by unfold j_max at h1; split at h1 <;> omega
  refine j_ofI (cc := cJ8_newLength_cabcc) (maxL := 4) (by decide) rfl (Nat.le_of_ble_eq_true rfl) ?_
  intro p e s m args below meth c X _ hZ
  refine j_iload_n X 0 dJ8_newLength_cabcc_0 rfl rfl ?_
  refine j_iload_n X 1 dJ8_newLength_cabcc_1 rfl rfl ?_
  refine j_iload_n X 2 dJ8_newLength_cabcc_2 rfl rfl ?_
  refine j_mmax X jm_newLength_1 jm_newLength_2 jm_newLength_3 jm_newLength_4 (Nat.zero_le _) (Nat.zero_le _) (Nat.le_of_ble_eq_true rfl) (Nat.le_of_ble_eq_true rfl) dJ8_newLength_cabcc_3 ?_
  refine j_top (j_max_e b d hb hd) ?_
  refine j_iadd X dJ8_newLength_cabcc_6 ?_
  refine j_top (nI_add a (j_max b d)) ?_
  refine j_istore_n X dJ8_newLength_cabcc_7 rfl (by decide) rfl ?_
  refine j_iconst (v := 0) X (by decide) dJ8_newLength_cabcc_8 ?_
  refine j_iload_n X 0 dJ8_newLength_cabcc_9 rfl rfl ?_
  refine j_ncmp_ge X 0 (a + j_max b d) rfl rfl (by decide) (by omega) dJ8_newLength_cabcc_10 (tgt := 21) (by decide) (fun q => absurd q (by omega)) (fun _ => ?_)
  refine j_iload_n X 0 dJ8_newLength_cabcc_13 rfl rfl ?_
  refine j_ldc X jm_newLength_5 dJ8_newLength_cabcc_14 ?_
  refine j_ncmp_gt X (a + j_max b d) 2147483639 rfl rfl (by omega) (by decide) dJ8_newLength_cabcc_16 (tgt := 21) (by decide) (fun q => absurd q (by omega)) (fun _ => ?_)
  refine j_iload_n X 0 dJ8_newLength_cabcc_19 rfl rfl ?_
  exact j_iret X () rfl dJ8_newLength_cabcc_20 rfl
theorem jm_copyOf_1 : Cond.arrayClass .byte ∈ wsJ7_copyOf_9075b := by decide +kernel
theorem jm_copyOf_2 : Cond.methodLink RJ7 304 Lib.Math.min.name ∈ wsJ7_copyOf_9075b := by decide +kernel
theorem jm_copyOf_3 : Cond.static Lib.Math.min.name ∈ wsJ7_copyOf_9075b := by decide +kernel
theorem jm_copyOf_4 : Cond.initialized "java/lang/Math" ∈ wsJ7_copyOf_9075b := by decide +kernel
theorem jm_copyOf_5 : Cond.code Lib.Math.min.name Lib.Math.min.code 2 (some .int) ∈ wsJ7_copyOf_9075b := by decide +kernel
theorem jm_copyOf_6 : Cond.methodLink RJ7 150 arraycopyName ∈ wsJ7_copyOf_9075b := by decide +kernel
theorem jm_copyOf_7 : Cond.native arraycopyName ∈ wsJ7_copyOf_9075b := by decide +kernel
theorem jm_copyOf_8 : Cond.static arraycopyName ∈ wsJ7_copyOf_9075b := by decide +kernel
theorem jm_copyOf_9 : Cond.initialized "java/lang/System" ∈ wsJ7_copyOf_9075b := by decide +kernel
theorem cpy_fits {f g : Nat → Int32} (hf : ∀ i, fits .byte (.int (f i)) = true) (hg : ∀ i, fits .byte (.int (g i)) = true) (a b n i : Nat) : fits .byte (.int (va_cpy f g a b n i)) = true := by
  unfold va_cpy
  split
  · exact hf _
  · exact hg _
/-- Arrays.copyOf(byte[], int): a longer row -/
theorem c_J7_copyOf (hv cap q : Nat) (f : Nat → Int32) (h1 : cap < q) (h2 : q ≤ 290) (hf : ∀ i, fits .byte (.int (f i)) = true) : jR l G (j_ty cI cZ cT cB) yJ7_copyOf_9075b wsJ7_copyOf_9075b { frames := 1, cells := 1, slots := 290, locals := 60 } [(hv, .inl (cB, cap, .inl f))] [.ref hv, .int (nI q)] 1 290 (fun g : Nat → Int32 => ∀ i, fits .byte (.int (g i)) = true) (fun g a => [(hv, .inl (cB, cap, .inl f)), (a, .inl (cB, q, .inl g))]) := by
  refine j_ofR (cc := cJ7_copyOf_9075b) (maxL := 3) (rty := .array .byte) (by decide) rfl (Nat.le_of_ble_eq_true rfl) ?_
  intro p e s m args below meth c X _ hZ
  refine j_iload_n X 1 dJ7_copyOf_9075b_0 rfl rfl ?_
  refine j_aload_n X 0 dJ7_copyOf_9075b_1 rfl rfl ?_
  refine j_alen X 0 3 rfl rfl (v := nI cap) rfl dJ7_copyOf_9075b_2 ?_
  refine j_ncmp_ne X q cap rfl rfl (by omega) (by omega) dJ7_copyOf_9075b_3 (tgt := 14) (by decide) (fun _ => ?_) (fun q9 => absurd q9 (by omega))
  refine j_iload_n X 1 dJ7_copyOf_9075b_14 rfl rfl ?_
  refine j_newB X (fun _ h => Or.inr h) 3 rfl jm_copyOf_1 q (nI_pos (by omega)) (nI_clamp (by omega)) (by show q * 1 ≤ _; omega) (Nat.le_of_ble_eq_true rfl) (by show 0 + q ≤ 290; omega) dJ7_copyOf_9075b_15 (fun x => ?_)
  refine j_astore_n X dJ7_copyOf_9075b_17 rfl (by decide) rfl ?_
  refine j_aload_n X 1 dJ7_copyOf_9075b_18 rfl rfl ?_
  refine j_iconst (v := 0) X (by decide) dJ7_copyOf_9075b_19 ?_
  refine j_aload_n X 0 dJ7_copyOf_9075b_20 rfl rfl ?_
  refine j_iconst (v := 0) X (by decide) dJ7_copyOf_9075b_21 ?_
  refine j_aload_n X 1 dJ7_copyOf_9075b_22 rfl rfl ?_
  refine j_alen X 0 3 rfl rfl (v := nI cap) rfl dJ7_copyOf_9075b_23 ?_
  refine j_iload_n X 2 dJ7_copyOf_9075b_24 rfl rfl ?_
  refine j_mmin X jm_copyOf_2 jm_copyOf_3 jm_copyOf_4 jm_copyOf_5 (Nat.le_of_ble_eq_true rfl) (by show 0 + q ≤ 290; omega) (Nat.le_of_ble_eq_true rfl) (Nat.le_of_ble_eq_true rfl) dJ7_copyOf_9075b_25 ?_
  refine j_top (show (if nI q < nI cap then nI q else nI cap) = nI cap from if_neg (nI_nlt (by omega) (by omega))) ?_
  refine j_copyB X 0 1 3 (n0 := cap) (n1 := q) rfl rfl rfl hf cap rfl (by omega) (Nat.le_refl _) (by omega) jm_copyOf_6 jm_copyOf_7 jm_copyOf_8 jm_copyOf_9 (Nat.le_of_ble_eq_true rfl) (Nat.le_of_ble_eq_true rfl) dJ7_copyOf_9075b_28 ?_
  refine j_aload_n X 0 dJ7_copyOf_9075b_31 rfl rfl ?_
  refine j_wid (k1 := 1) (q1 := 290) (Nat.le_refl 1) (by omega) ?_
  exact j_aret X (Or.inr ⟨_, rfl⟩) (va_cpy f (fun _ => 0) 0 0 cap) rfl dJ7_copyOf_9075b_32 (fun i => cpy_fits hf (fun _ => rfl) 0 0 cap i)
end ZJ1
